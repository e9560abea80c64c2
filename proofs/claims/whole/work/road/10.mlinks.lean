theorem cpw : Cond.native arraycopyName ∈ lw_good ∧ Cond.static arraycopyName ∈ lw_good ∧ Cond.initialized "java/lang/System" ∈ lw_good := ⟨good_in (List.mem_of_getElem? (i := 603) (by decide +kernel)) rfl, good_in (List.mem_of_getElem? (i := 602) (by decide +kernel)) rfl, good_in (List.mem_of_getElem? (i := 94) (by decide +kernel)) rfl⟩
theorem mk_X9_placeOf : mk_ok yX9_placeOf cX9_placeOf 1 (some .int) 1 := ⟨good_in (List.mem_of_getElem? (i := 457) (by decide +kernel)) rfl, good_in (List.mem_of_getElem? (i := 79) (by decide +kernel)) rfl, by decide +kernel⟩
theorem is_X9_placeOf : Cond.static yX9_placeOf ∈ lw_good := good_in (List.mem_of_getElem? (i := 456) (by decide +kernel)) rfl
theorem lk_X1_37 : lk_ok RX1 37 yX9_placeOf := Or.inr ⟨"OneManDesk", nest_in (List.mem_of_getElem? (i := 681) (by decide +kernel)) rfl⟩
theorem mk_X9_kindOf : mk_ok yX9_kindOf cX9_kindOf 1 (some .int) 1 := ⟨good_in (List.mem_of_getElem? (i := 460) (by decide +kernel)) rfl, good_in (List.mem_of_getElem? (i := 79) (by decide +kernel)) rfl, by decide +kernel⟩
theorem is_X9_kindOf : Cond.static yX9_kindOf ∈ lw_good := good_in (List.mem_of_getElem? (i := 459) (by decide +kernel)) rfl
theorem lk_X1_41 : lk_ok RX1 41 yX9_kindOf := Or.inr ⟨"OneManDesk", nest_in (List.mem_of_getElem? (i := 682) (by decide +kernel)) rfl⟩
theorem mk_X9_dayOf : mk_ok yX9_dayOf cX9_dayOf 1 (some .int) 1 := ⟨good_in (List.mem_of_getElem? (i := 463) (by decide +kernel)) rfl, good_in (List.mem_of_getElem? (i := 79) (by decide +kernel)) rfl, by decide +kernel⟩
theorem is_X9_dayOf : Cond.static yX9_dayOf ∈ lw_good := good_in (List.mem_of_getElem? (i := 462) (by decide +kernel)) rfl
theorem lk_X1_44 : lk_ok RX1 44 yX9_dayOf := Or.inr ⟨"OneManDesk", nest_in (List.mem_of_getElem? (i := 683) (by decide +kernel)) rfl⟩
theorem mk_X8_tells : mk_ok yX8_tells cX8_tells 5 (some .boolean) 4 := ⟨good_in (List.mem_of_getElem? (i := 467) (by decide +kernel)) rfl, good_in (List.mem_of_getElem? (i := 80) (by decide +kernel)) rfl, by decide +kernel⟩
theorem iv_X8_tells : Cond.instanceMethod yX8_tells ∈ lw_good ∧ Cond.selects yX8_tells.cls yX8_tells yX8_tells ∈ lw_good := ⟨good_in (List.mem_of_getElem? (i := 466) (by decide +kernel)) rfl, good_in (List.mem_of_getElem? (i := 2) (by decide +kernel)) rfl⟩
theorem lk_X1_47 : lk_ok RX1 47 yX8_tells := Or.inr ⟨"OneManDesk", nest_in (List.mem_of_getElem? (i := 684) (by decide +kernel)) rfl⟩
theorem mk_X4_sumTrust : mk_ok yX4_sumTrust cX4_sumTrust 4 none 2 := ⟨good_in (List.mem_of_getElem? (i := 716) (by decide +kernel)) rfl, good_in (List.mem_of_getElem? (i := 82) (by decide +kernel)) rfl, by decide +kernel⟩
theorem iv_X4_sumTrust : Cond.instanceMethod yX4_sumTrust ∈ lw_good ∧ Cond.selects yX4_sumTrust.cls yX4_sumTrust yX4_sumTrust ∈ lw_good := ⟨good_in (List.mem_of_getElem? (i := 715) (by decide +kernel)) rfl, good_in (List.mem_of_getElem? (i := 23) (by decide +kernel)) rfl⟩
theorem lk_X2_104 : lk_ok RX2 104 yX4_sumTrust := Or.inr ⟨"OneManDesk", nest_in (List.mem_of_getElem? (i := 828) (by decide +kernel)) rfl⟩
theorem lc_X2_108 : Cond.methodLink RX2 108 arraycopyName ∈ lw_good := good_in (List.mem_of_getElem? (i := 829) (by decide +kernel)) rfl
theorem mk_X4_gain : mk_ok yX4_gain cX4_gain 7 (some .int) 4 := ⟨good_in (List.mem_of_getElem? (i := 720) (by decide +kernel)) rfl, good_in (List.mem_of_getElem? (i := 82) (by decide +kernel)) rfl, by decide +kernel⟩
theorem iv_X4_gain : Cond.instanceMethod yX4_gain ∈ lw_good ∧ Cond.selects yX4_gain.cls yX4_gain yX4_gain ∈ lw_good := ⟨good_in (List.mem_of_getElem? (i := 719) (by decide +kernel)) rfl, good_in (List.mem_of_getElem? (i := 24) (by decide +kernel)) rfl⟩
theorem lk_X2_114 : lk_ok RX2 114 yX4_gain := Or.inr ⟨"OneManDesk", nest_in (List.mem_of_getElem? (i := 830) (by decide +kernel)) rfl⟩
theorem mk_X4_gather : mk_ok yX4_gather cX4_gather 4 none 2 := ⟨good_in (List.mem_of_getElem? (i := 755) (by decide +kernel)) rfl, good_in (List.mem_of_getElem? (i := 82) (by decide +kernel)) rfl, by decide +kernel⟩
theorem iv_X4_gather : Cond.instanceMethod yX4_gather ∈ lw_good ∧ Cond.selects yX4_gather.cls yX4_gather yX4_gather ∈ lw_good := ⟨good_in (List.mem_of_getElem? (i := 754) (by decide +kernel)) rfl, good_in (List.mem_of_getElem? (i := 28) (by decide +kernel)) rfl⟩
theorem lk_X2_118 : lk_ok RX2 118 yX4_gather := Or.inr ⟨"OneManDesk", nest_in (List.mem_of_getElem? (i := 835) (by decide +kernel)) rfl⟩
theorem mk_X9_hasBit : mk_ok yX9_hasBit cX9_hasBit 2 (some .boolean) 2 := ⟨good_in (List.mem_of_getElem? (i := 659) (by decide +kernel)) rfl, good_in (List.mem_of_getElem? (i := 79) (by decide +kernel)) rfl, by decide +kernel⟩
theorem is_X9_hasBit : Cond.static yX9_hasBit ∈ lw_good := good_in (List.mem_of_getElem? (i := 658) (by decide +kernel)) rfl
theorem lk_X2_123 : lk_ok RX2 123 yX9_hasBit := Or.inr ⟨"OneManDesk", nest_in (List.mem_of_getElem? (i := 840) (by decide +kernel)) rfl⟩
theorem mk_X1_cameOn : mk_ok yX1_cameOn cX1_cameOn 2 (some .int) 1 := ⟨good_in (List.mem_of_getElem? (i := 650) (by decide +kernel)) rfl, good_in (List.mem_of_getElem? (i := 81) (by decide +kernel)) rfl, by decide +kernel⟩
theorem iv_X1_cameOn : Cond.instanceMethod yX1_cameOn ∈ lw_good ∧ Cond.selects yX1_cameOn.cls yX1_cameOn yX1_cameOn ∈ lw_good := ⟨good_in (List.mem_of_getElem? (i := 649) (by decide +kernel)) rfl, good_in (List.mem_of_getElem? (i := 16) (by decide +kernel)) rfl⟩
theorem lk_X2_127 : lk_ok RX2 127 yX1_cameOn := Or.inr ⟨"OneManDesk", nest_in (List.mem_of_getElem? (i := 841) (by decide +kernel)) rfl⟩
theorem mk_X2_gatherWith : mk_ok yX2_gatherWith cX2_gatherWith 4 none 2 := ⟨good_in (List.mem_of_getElem? (i := 853) (by decide +kernel)) rfl, good_in (List.mem_of_getElem? (i := 87) (by decide +kernel)) rfl, by decide +kernel⟩
theorem iv_X2_gatherWith : Cond.instanceMethod yX2_gatherWith ∈ lw_good ∧ Cond.selects yX2_gatherWith.cls yX2_gatherWith yX2_gatherWith ∈ lw_good := ⟨good_in (List.mem_of_getElem? (i := 852) (by decide +kernel)) rfl, good_in (List.mem_of_getElem? (i := 41) (by decide +kernel)) rfl⟩
theorem lk_X2_133 : lk_ok RX2 133 yX2_gatherWith := Or.inl (good_in (List.mem_of_getElem? (i := 850) (by decide +kernel)) rfl)
theorem mk_X4_heaviest : mk_ok yX4_heaviest cX4_heaviest 6 (some .int) 1 := ⟨good_in (List.mem_of_getElem? (i := 759) (by decide +kernel)) rfl, good_in (List.mem_of_getElem? (i := 82) (by decide +kernel)) rfl, by decide +kernel⟩
theorem iv_X4_heaviest : Cond.instanceMethod yX4_heaviest ∈ lw_good ∧ Cond.selects yX4_heaviest.cls yX4_heaviest yX4_heaviest ∈ lw_good := ⟨good_in (List.mem_of_getElem? (i := 758) (by decide +kernel)) rfl, good_in (List.mem_of_getElem? (i := 29) (by decide +kernel)) rfl⟩
theorem lk_X2_136 : lk_ok RX2 136 yX4_heaviest := Or.inr ⟨"OneManDesk", nest_in (List.mem_of_getElem? (i := 854) (by decide +kernel)) rfl⟩
theorem mk_X2_opensLines : mk_ok yX2_opensLines cX2_opensLines 5 (some .boolean) 3 := ⟨good_in (List.mem_of_getElem? (i := 821) (by decide +kernel)) rfl, good_in (List.mem_of_getElem? (i := 87) (by decide +kernel)) rfl, by decide +kernel⟩
theorem iv_X2_opensLines : Cond.instanceMethod yX2_opensLines ∈ lw_good ∧ Cond.selects yX2_opensLines.cls yX2_opensLines yX2_opensLines ∈ lw_good := ⟨good_in (List.mem_of_getElem? (i := 820) (by decide +kernel)) rfl, good_in (List.mem_of_getElem? (i := 35) (by decide +kernel)) rfl⟩
theorem lk_X2_46 : lk_ok RX2 46 yX2_opensLines := Or.inl (good_in (List.mem_of_getElem? (i := 818) (by decide +kernel)) rfl)
theorem mk_X2_sumLetters : mk_ok yX2_sumLetters cX2_sumLetters 4 none 2 := ⟨good_in (List.mem_of_getElem? (i := 827) (by decide +kernel)) rfl, good_in (List.mem_of_getElem? (i := 87) (by decide +kernel)) rfl, by decide +kernel⟩
theorem iv_X2_sumLetters : Cond.instanceMethod yX2_sumLetters ∈ lw_good ∧ Cond.selects yX2_sumLetters.cls yX2_sumLetters yX2_sumLetters ∈ lw_good := ⟨good_in (List.mem_of_getElem? (i := 826) (by decide +kernel)) rfl, good_in (List.mem_of_getElem? (i := 36) (by decide +kernel)) rfl⟩
theorem lk_X2_50 : lk_ok RX2 50 yX2_sumLetters := Or.inl (good_in (List.mem_of_getElem? (i := 824) (by decide +kernel)) rfl)
theorem mk_X2_gatherLines : mk_ok yX2_gatherLines cX2_gatherLines 4 none 2 := ⟨good_in (List.mem_of_getElem? (i := 834) (by decide +kernel)) rfl, good_in (List.mem_of_getElem? (i := 87) (by decide +kernel)) rfl, by decide +kernel⟩
theorem iv_X2_gatherLines : Cond.instanceMethod yX2_gatherLines ∈ lw_good ∧ Cond.selects yX2_gatherLines.cls yX2_gatherLines yX2_gatherLines ∈ lw_good := ⟨good_in (List.mem_of_getElem? (i := 833) (by decide +kernel)) rfl, good_in (List.mem_of_getElem? (i := 37) (by decide +kernel)) rfl⟩
theorem lk_X2_54 : lk_ok RX2 54 yX2_gatherLines := Or.inl (good_in (List.mem_of_getElem? (i := 831) (by decide +kernel)) rfl)
theorem mk_X2_usefulForStory : mk_ok yX2_usefulForStory cX2_usefulForStory 6 (some .int) 2 := ⟨good_in (List.mem_of_getElem? (i := 839) (by decide +kernel)) rfl, good_in (List.mem_of_getElem? (i := 87) (by decide +kernel)) rfl, by decide +kernel⟩
theorem iv_X2_usefulForStory : Cond.instanceMethod yX2_usefulForStory ∈ lw_good ∧ Cond.selects yX2_usefulForStory.cls yX2_usefulForStory yX2_usefulForStory ∈ lw_good := ⟨good_in (List.mem_of_getElem? (i := 838) (by decide +kernel)) rfl, good_in (List.mem_of_getElem? (i := 38) (by decide +kernel)) rfl⟩
theorem lk_X2_58 : lk_ok RX2 58 yX2_usefulForStory := Or.inl (good_in (List.mem_of_getElem? (i := 836) (by decide +kernel)) rfl)
theorem mk_X2_addUp : mk_ok yX2_addUp cX2_addUp 5 (some .int) 2 := ⟨good_in (List.mem_of_getElem? (i := 845) (by decide +kernel)) rfl, good_in (List.mem_of_getElem? (i := 87) (by decide +kernel)) rfl, by decide +kernel⟩
theorem iv_X2_addUp : Cond.instanceMethod yX2_addUp ∈ lw_good ∧ Cond.selects yX2_addUp.cls yX2_addUp yX2_addUp ∈ lw_good := ⟨good_in (List.mem_of_getElem? (i := 844) (by decide +kernel)) rfl, good_in (List.mem_of_getElem? (i := 39) (by decide +kernel)) rfl⟩
theorem lk_X2_67 : lk_ok RX2 67 yX2_addUp := Or.inl (good_in (List.mem_of_getElem? (i := 842) (by decide +kernel)) rfl)
theorem mk_X2_holdsWith : mk_ok yX2_holdsWith cX2_holdsWith 5 (some .boolean) 3 := ⟨good_in (List.mem_of_getElem? (i := 849) (by decide +kernel)) rfl, good_in (List.mem_of_getElem? (i := 87) (by decide +kernel)) rfl, by decide +kernel⟩
theorem iv_X2_holdsWith : Cond.instanceMethod yX2_holdsWith ∈ lw_good ∧ Cond.selects yX2_holdsWith.cls yX2_holdsWith yX2_holdsWith ∈ lw_good := ⟨good_in (List.mem_of_getElem? (i := 848) (by decide +kernel)) rfl, good_in (List.mem_of_getElem? (i := 40) (by decide +kernel)) rfl⟩
theorem lk_X2_71 : lk_ok RX2 71 yX2_holdsWith := Or.inl (good_in (List.mem_of_getElem? (i := 846) (by decide +kernel)) rfl)
theorem mk_X2_usefulForTrust : mk_ok yX2_usefulForTrust cX2_usefulForTrust 4 (some .int) 1 := ⟨good_in (List.mem_of_getElem? (i := 866) (by decide +kernel)) rfl, good_in (List.mem_of_getElem? (i := 87) (by decide +kernel)) rfl, by decide +kernel⟩
theorem iv_X2_usefulForTrust : Cond.instanceMethod yX2_usefulForTrust ∈ lw_good ∧ Cond.selects yX2_usefulForTrust.cls yX2_usefulForTrust yX2_usefulForTrust ∈ lw_good := ⟨good_in (List.mem_of_getElem? (i := 865) (by decide +kernel)) rfl, good_in (List.mem_of_getElem? (i := 43) (by decide +kernel)) rfl⟩
theorem lk_X2_75 : lk_ok RX2 75 yX2_usefulForTrust := Or.inl (good_in (List.mem_of_getElem? (i := 863) (by decide +kernel)) rfl)
theorem mk_X4_bounded : mk_ok yX4_bounded cX4_bounded 1 (some .int) 1 := ⟨good_in (List.mem_of_getElem? (i := 735) (by decide +kernel)) rfl, good_in (List.mem_of_getElem? (i := 82) (by decide +kernel)) rfl, by decide +kernel⟩
theorem is_X4_bounded : Cond.static yX4_bounded ∈ lw_good := good_in (List.mem_of_getElem? (i := 734) (by decide +kernel)) rfl
theorem lk_X2_79 : lk_ok RX2 79 yX4_bounded := Or.inr ⟨"OneManDesk", nest_in (List.mem_of_getElem? (i := 867) (by decide +kernel)) rfl⟩
theorem mk_X3_knows : mk_ok yX3_knows cX3_knows 6 (some .boolean) 2 := ⟨good_in (List.mem_of_getElem? (i := 725) (by decide +kernel)) rfl, good_in (List.mem_of_getElem? (i := 84) (by decide +kernel)) rfl, by decide +kernel⟩
theorem iv_X3_knows : Cond.instanceMethod yX3_knows ∈ lw_good ∧ Cond.selects yX3_knows.cls yX3_knows yX3_knows ∈ lw_good := ⟨good_in (List.mem_of_getElem? (i := 724) (by decide +kernel)) rfl, good_in (List.mem_of_getElem? (i := 25) (by decide +kernel)) rfl⟩
theorem lk_X2_90 : lk_ok RX2 90 yX3_knows := Or.inr ⟨"OneManDesk", nest_in (List.mem_of_getElem? (i := 822) (by decide +kernel)) rfl⟩
theorem mk_X8_valueOf : mk_ok yX8_valueOf cX8_valueOf 6 (some .int) 1 := ⟨good_in (List.mem_of_getElem? (i := 454) (by decide +kernel)) rfl, good_in (List.mem_of_getElem? (i := 80) (by decide +kernel)) rfl, by decide +kernel⟩
theorem iv_X8_valueOf : Cond.instanceMethod yX8_valueOf ∈ lw_good ∧ Cond.selects yX8_valueOf.cls yX8_valueOf yX8_valueOf ∈ lw_good := ⟨good_in (List.mem_of_getElem? (i := 453) (by decide +kernel)) rfl, good_in (List.mem_of_getElem? (i := 1) (by decide +kernel)) rfl⟩
theorem lk_X2_96 : lk_ok RX2 96 yX8_valueOf := Or.inr ⟨"OneManDesk", nest_in (List.mem_of_getElem? (i := 823) (by decide +kernel)) rfl⟩
theorem lc_X3_36 : Cond.methodLink RX3 36 arraycopyName ∈ lw_good := good_in (List.mem_of_getElem? (i := 601) (by decide +kernel)) rfl
theorem lk_X3_53 : lk_ok RX3 53 yX9_dayOf := Or.inr ⟨"OneManDesk", nest_in (List.mem_of_getElem? (i := 726) (by decide +kernel)) rfl⟩
theorem lk_X3_57 : lk_ok RX3 57 yX9_placeOf := Or.inr ⟨"OneManDesk", nest_in (List.mem_of_getElem? (i := 727) (by decide +kernel)) rfl⟩
theorem lk_X4_102 : lk_ok RX4 102 yX4_heaviest := Or.inl (good_in (List.mem_of_getElem? (i := 756) (by decide +kernel)) rfl)
theorem lk_X4_26 : lk_ok RX4 26 yX1_cameOn := Or.inr ⟨"OneManDesk", nest_in (List.mem_of_getElem? (i := 721) (by decide +kernel)) rfl⟩
theorem lk_X4_35 : lk_ok RX4 35 yX3_knows := Or.inr ⟨"OneManDesk", nest_in (List.mem_of_getElem? (i := 722) (by decide +kernel)) rfl⟩
theorem lk_X4_41 : lk_ok RX4 41 yX8_valueOf := Or.inr ⟨"OneManDesk", nest_in (List.mem_of_getElem? (i := 728) (by decide +kernel)) rfl⟩
theorem lk_X4_52 : lk_ok RX4 52 yX9_dayOf := Or.inr ⟨"OneManDesk", nest_in (List.mem_of_getElem? (i := 729) (by decide +kernel)) rfl⟩
theorem mk_J9_max_7cf53 : mk_ok yJ9_max_7cf53 cJ9_max_7cf53 2 (some .int) 2 := ⟨good_in (List.mem_of_getElem? (i := 732) (by decide +kernel)) rfl, good_in (List.mem_of_getElem? (i := 95) (by decide +kernel)) rfl, by decide +kernel⟩
theorem is_J9_max_7cf53 : Cond.static yJ9_max_7cf53 ∈ lw_good := good_in (List.mem_of_getElem? (i := 731) (by decide +kernel)) rfl
theorem lk_X4_55 : lk_ok RX4 55 yJ9_max_7cf53 := Or.inl (good_in (List.mem_of_getElem? (i := 730) (by decide +kernel)) rfl)
theorem lk_X4_68 : lk_ok RX4 68 yX4_gain := Or.inl (good_in (List.mem_of_getElem? (i := 717) (by decide +kernel)) rfl)
theorem lk_X4_72 : lk_ok RX4 72 yX4_sumTrust := Or.inl (good_in (List.mem_of_getElem? (i := 713) (by decide +kernel)) rfl)
theorem lk_X4_76 : lk_ok RX4 76 yX4_bounded := Or.inl (good_in (List.mem_of_getElem? (i := 733) (by decide +kernel)) rfl)
theorem mk_J9_min_7cf53 : mk_ok yJ9_min_7cf53 cJ9_min_7cf53 2 (some .int) 2 := ⟨good_in (List.mem_of_getElem? (i := 674) (by decide +kernel)) rfl, good_in (List.mem_of_getElem? (i := 95) (by decide +kernel)) rfl, by decide +kernel⟩
theorem is_J9_min_7cf53 : Cond.static yJ9_min_7cf53 ∈ lw_good := good_in (List.mem_of_getElem? (i := 673) (by decide +kernel)) rfl
theorem lk_X4_79 : lk_ok RX4 79 yJ9_min_7cf53 := Or.inl (good_in (List.mem_of_getElem? (i := 736) (by decide +kernel)) rfl)
theorem mk_J6_bitCount_0f7a4 : mk_ok yJ6_bitCount_0f7a4 cJ6_bitCount_0f7a4 1 (some .int) 1 := ⟨good_in (List.mem_of_getElem? (i := 766) (by decide +kernel)) rfl, good_in (List.mem_of_getElem? (i := 96) (by decide +kernel)) rfl, by decide +kernel⟩
theorem is_J6_bitCount_0f7a4 : Cond.static yJ6_bitCount_0f7a4 ∈ lw_good := good_in (List.mem_of_getElem? (i := 765) (by decide +kernel)) rfl
theorem lk_X4_82 : lk_ok RX4 82 yJ6_bitCount_0f7a4 := Or.inl (good_in (List.mem_of_getElem? (i := 764) (by decide +kernel)) rfl)
theorem lk_X4_87 : lk_ok RX4 87 yX9_hasBit := Or.inr ⟨"OneManDesk", nest_in (List.mem_of_getElem? (i := 770) (by decide +kernel)) rfl⟩
theorem mk_X4_weigh : mk_ok yX4_weigh cX4_weigh 5 (some .int) 2 := ⟨good_in (List.mem_of_getElem? (i := 763) (by decide +kernel)) rfl, good_in (List.mem_of_getElem? (i := 82) (by decide +kernel)) rfl, by decide +kernel⟩
theorem iv_X4_weigh : Cond.instanceMethod yX4_weigh ∈ lw_good ∧ Cond.selects yX4_weigh.cls yX4_weigh yX4_weigh ∈ lw_good := ⟨good_in (List.mem_of_getElem? (i := 762) (by decide +kernel)) rfl, good_in (List.mem_of_getElem? (i := 30) (by decide +kernel)) rfl⟩
theorem lk_X4_90 : lk_ok RX4 90 yX4_weigh := Or.inl (good_in (List.mem_of_getElem? (i := 760) (by decide +kernel)) rfl)
theorem mk_X4_judge : mk_ok yX4_judge cX4_judge 4 (some .int) 3 := ⟨good_in (List.mem_of_getElem? (i := 751) (by decide +kernel)) rfl, good_in (List.mem_of_getElem? (i := 82) (by decide +kernel)) rfl, by decide +kernel⟩
theorem iv_X4_judge : Cond.instanceMethod yX4_judge ∈ lw_good ∧ Cond.selects yX4_judge.cls yX4_judge yX4_judge ∈ lw_good := ⟨good_in (List.mem_of_getElem? (i := 750) (by decide +kernel)) rfl, good_in (List.mem_of_getElem? (i := 27) (by decide +kernel)) rfl⟩
theorem lk_X4_94 : lk_ok RX4 94 yX4_judge := Or.inl (good_in (List.mem_of_getElem? (i := 748) (by decide +kernel)) rfl)
theorem lk_X4_98 : lk_ok RX4 98 yX4_gather := Or.inl (good_in (List.mem_of_getElem? (i := 752) (by decide +kernel)) rfl)
theorem mk_X5_add : mk_ok yX5_add cX5_add 4 (some .int) 3 := ⟨good_in (List.mem_of_getElem? (i := 879) (by decide +kernel)) rfl, good_in (List.mem_of_getElem? (i := 88) (by decide +kernel)) rfl, by decide +kernel⟩
theorem iv_X5_add : Cond.instanceMethod yX5_add ∈ lw_good ∧ Cond.selects yX5_add.cls yX5_add yX5_add ∈ lw_good := ⟨good_in (List.mem_of_getElem? (i := 878) (by decide +kernel)) rfl, good_in (List.mem_of_getElem? (i := 45) (by decide +kernel)) rfl⟩
theorem lk_X5_25 : lk_ok RX5 25 yX5_add := Or.inl (good_in (List.mem_of_getElem? (i := 876) (by decide +kernel)) rfl)
theorem mk_X4_conclude : mk_ok yX4_conclude cX4_conclude 4 (some .int) 3 := ⟨good_in (List.mem_of_getElem? (i := 747) (by decide +kernel)) rfl, good_in (List.mem_of_getElem? (i := 82) (by decide +kernel)) rfl, by decide +kernel⟩
theorem iv_X4_conclude : Cond.instanceMethod yX4_conclude ∈ lw_good ∧ Cond.selects yX4_conclude.cls yX4_conclude yX4_conclude ∈ lw_good := ⟨good_in (List.mem_of_getElem? (i := 746) (by decide +kernel)) rfl, good_in (List.mem_of_getElem? (i := 26) (by decide +kernel)) rfl⟩
theorem lk_X5_29 : lk_ok RX5 29 yX4_conclude := Or.inr ⟨"OneManDesk", nest_in (List.mem_of_getElem? (i := 896) (by decide +kernel)) rfl⟩
theorem mk_X4_trustIn : mk_ok yX4_trustIn cX4_trustIn 4 (some .int) 3 := ⟨good_in (List.mem_of_getElem? (i := 712) (by decide +kernel)) rfl, good_in (List.mem_of_getElem? (i := 82) (by decide +kernel)) rfl, by decide +kernel⟩
theorem iv_X4_trustIn : Cond.instanceMethod yX4_trustIn ∈ lw_good ∧ Cond.selects yX4_trustIn.cls yX4_trustIn yX4_trustIn ∈ lw_good := ⟨good_in (List.mem_of_getElem? (i := 711) (by decide +kernel)) rfl, good_in (List.mem_of_getElem? (i := 22) (by decide +kernel)) rfl⟩
theorem lk_X5_35 : lk_ok RX5 35 yX4_trustIn := Or.inr ⟨"OneManDesk", nest_in (List.mem_of_getElem? (i := 897) (by decide +kernel)) rfl⟩
theorem mk_X7_nextToken : mk_ok yX7_nextToken cX7_nextToken 3 none 0 := ⟨good_in (List.mem_of_getElem? (i := 500) (by decide +kernel)) rfl, good_in (List.mem_of_getElem? (i := 85) (by decide +kernel)) rfl, by decide +kernel⟩
theorem iv_X7_nextToken : Cond.instanceMethod yX7_nextToken ∈ lw_good ∧ Cond.selects yX7_nextToken.cls yX7_nextToken yX7_nextToken ∈ lw_good := ⟨good_in (List.mem_of_getElem? (i := 499) (by decide +kernel)) rfl, good_in (List.mem_of_getElem? (i := 6) (by decide +kernel)) rfl⟩
theorem lk_X7_39 : lk_ok RX7 39 yX7_nextToken := Or.inl (good_in (List.mem_of_getElem? (i := 497) (by decide +kernel)) rfl)
theorem mk_X7_readLifeLine : mk_ok yX7_readLifeLine cX7_readLifeLine 1 (some .boolean) 0 := ⟨good_in (List.mem_of_getElem? (i := 510) (by decide +kernel)) rfl, good_in (List.mem_of_getElem? (i := 85) (by decide +kernel)) rfl, by decide +kernel⟩
theorem iv_X7_readLifeLine : Cond.instanceMethod yX7_readLifeLine ∈ lw_good ∧ Cond.selects yX7_readLifeLine.cls yX7_readLifeLine yX7_readLifeLine ∈ lw_good := ⟨good_in (List.mem_of_getElem? (i := 509) (by decide +kernel)) rfl, good_in (List.mem_of_getElem? (i := 7) (by decide +kernel)) rfl⟩
theorem lk_X7_42 : lk_ok RX7 42 yX7_readLifeLine := Or.inl (good_in (List.mem_of_getElem? (i := 507) (by decide +kernel)) rfl)
theorem mk_X7_readTableLine : mk_ok yX7_readTableLine cX7_readTableLine 2 (some .boolean) 0 := ⟨good_in (List.mem_of_getElem? (i := 573) (by decide +kernel)) rfl, good_in (List.mem_of_getElem? (i := 85) (by decide +kernel)) rfl, by decide +kernel⟩
theorem iv_X7_readTableLine : Cond.instanceMethod yX7_readTableLine ∈ lw_good ∧ Cond.selects yX7_readTableLine.cls yX7_readTableLine yX7_readTableLine ∈ lw_good := ⟨good_in (List.mem_of_getElem? (i := 572) (by decide +kernel)) rfl, good_in (List.mem_of_getElem? (i := 10) (by decide +kernel)) rfl⟩
theorem lk_X7_46 : lk_ok RX7 46 yX7_readTableLine := Or.inl (good_in (List.mem_of_getElem? (i := 570) (by decide +kernel)) rfl)
theorem mk_X7_passWord : mk_ok yX7_passWord cX7_passWord 3 (some .boolean) 1 := ⟨good_in (List.mem_of_getElem? (i := 515) (by decide +kernel)) rfl, good_in (List.mem_of_getElem? (i := 85) (by decide +kernel)) rfl, by decide +kernel⟩
theorem iv_X7_passWord : Cond.instanceMethod yX7_passWord ∈ lw_good ∧ Cond.selects yX7_passWord.cls yX7_passWord yX7_passWord ∈ lw_good := ⟨good_in (List.mem_of_getElem? (i := 514) (by decide +kernel)) rfl, good_in (List.mem_of_getElem? (i := 8) (by decide +kernel)) rfl⟩
theorem lk_X7_51 : lk_ok RX7 51 yX7_passWord := Or.inl (good_in (List.mem_of_getElem? (i := 512) (by decide +kernel)) rfl)
theorem mk_X7_passNumber : mk_ok yX7_passNumber cX7_passNumber 6 (some .int) 2 := ⟨good_in (List.mem_of_getElem? (i := 567) (by decide +kernel)) rfl, good_in (List.mem_of_getElem? (i := 85) (by decide +kernel)) rfl, by decide +kernel⟩
theorem iv_X7_passNumber : Cond.instanceMethod yX7_passNumber ∈ lw_good ∧ Cond.selects yX7_passNumber.cls yX7_passNumber yX7_passNumber ∈ lw_good := ⟨good_in (List.mem_of_getElem? (i := 566) (by decide +kernel)) rfl, good_in (List.mem_of_getElem? (i := 9) (by decide +kernel)) rfl⟩
theorem lk_X7_57 : lk_ok RX7 57 yX7_passNumber := Or.inl (good_in (List.mem_of_getElem? (i := 564) (by decide +kernel)) rfl)
theorem mk_X7_tableWord : mk_ok yX7_tableWord cX7_tableWord 1 (some (.object "java/lang/String")) 1 := ⟨good_in (List.mem_of_getElem? (i := 576) (by decide +kernel)) rfl, good_in (List.mem_of_getElem? (i := 85) (by decide +kernel)) rfl, by decide +kernel⟩
theorem is_X7_tableWord : Cond.static yX7_tableWord ∈ lw_good := good_in (List.mem_of_getElem? (i := 575) (by decide +kernel)) rfl
theorem lk_X7_65 : lk_ok RX7 65 yX7_tableWord := Or.inl (good_in (List.mem_of_getElem? (i := 574) (by decide +kernel)) rfl)
theorem mk_J0_length_8abf5 : mk_ok yJ0_length_8abf5 cJ0_length_8abf5 1 (some .int) 0 := ⟨good_in (List.mem_of_getElem? (i := 519) (by decide +kernel)) rfl, good_in (List.mem_of_getElem? (i := 90) (by decide +kernel)) rfl, by decide +kernel⟩
theorem iv_J0_length_8abf5 : Cond.instanceMethod yJ0_length_8abf5 ∈ lw_good ∧ Cond.selects yJ0_length_8abf5.cls yJ0_length_8abf5 yJ0_length_8abf5 ∈ lw_good := ⟨good_in (List.mem_of_getElem? (i := 517) (by decide +kernel)) rfl, good_in (List.mem_of_getElem? (i := 518) (by decide +kernel)) rfl⟩
theorem lk_X7_81 : lk_ok RX7 81 yJ0_length_8abf5 := Or.inl (good_in (List.mem_of_getElem? (i := 516) (by decide +kernel)) rfl)
theorem mk_J0_charAt_5068e : mk_ok yJ0_charAt_5068e cJ0_charAt_5068e 2 (some .char) 1 := ⟨good_in (List.mem_of_getElem? (i := 529) (by decide +kernel)) rfl, good_in (List.mem_of_getElem? (i := 90) (by decide +kernel)) rfl, by decide +kernel⟩
theorem iv_J0_charAt_5068e : Cond.instanceMethod yJ0_charAt_5068e ∈ lw_good ∧ Cond.selects yJ0_charAt_5068e.cls yJ0_charAt_5068e yJ0_charAt_5068e ∈ lw_good := ⟨good_in (List.mem_of_getElem? (i := 527) (by decide +kernel)) rfl, good_in (List.mem_of_getElem? (i := 528) (by decide +kernel)) rfl⟩
theorem lk_X7_86 : lk_ok RX7 86 yJ0_charAt_5068e := Or.inl (good_in (List.mem_of_getElem? (i := 526) (by decide +kernel)) rfl)
theorem mk_X7_isDigit : mk_ok yX7_isDigit cX7_isDigit 1 (some .boolean) 1 := ⟨good_in (List.mem_of_getElem? (i := 506) (by decide +kernel)) rfl, good_in (List.mem_of_getElem? (i := 85) (by decide +kernel)) rfl, by decide +kernel⟩
theorem is_X7_isDigit : Cond.static yX7_isDigit ∈ lw_good := good_in (List.mem_of_getElem? (i := 505) (by decide +kernel)) rfl
theorem lk_X7_90 : lk_ok RX7 90 yX7_isDigit := Or.inl (good_in (List.mem_of_getElem? (i := 504) (by decide +kernel)) rfl)
theorem mk_X7_isLetter : mk_ok yX7_isLetter cX7_isLetter 1 (some .boolean) 1 := ⟨good_in (List.mem_of_getElem? (i := 503) (by decide +kernel)) rfl, good_in (List.mem_of_getElem? (i := 85) (by decide +kernel)) rfl, by decide +kernel⟩
theorem is_X7_isLetter : Cond.static yX7_isLetter ∈ lw_good := good_in (List.mem_of_getElem? (i := 502) (by decide +kernel)) rfl
theorem lk_X7_94 : lk_ok RX7 94 yX7_isLetter := Or.inl (good_in (List.mem_of_getElem? (i := 501) (by decide +kernel)) rfl)
theorem lk_X8_38 : lk_ok RX8 38 yX9_placeOf := Or.inr ⟨"OneManDesk", nest_in (List.mem_of_getElem? (i := 455) (by decide +kernel)) rfl⟩
theorem lk_X8_42 : lk_ok RX8 42 yX9_kindOf := Or.inr ⟨"OneManDesk", nest_in (List.mem_of_getElem? (i := 458) (by decide +kernel)) rfl⟩
theorem lk_X8_45 : lk_ok RX8 45 yX9_dayOf := Or.inr ⟨"OneManDesk", nest_in (List.mem_of_getElem? (i := 461) (by decide +kernel)) rfl⟩
theorem lk_X8_48 : lk_ok RX8 48 yX8_tells := Or.inl (good_in (List.mem_of_getElem? (i := 464) (by decide +kernel)) rfl)
theorem mk_X0_placeOn : mk_ok yX0_placeOn cX0_placeOn 3 (some .int) 1 := ⟨good_in (List.mem_of_getElem? (i := 614) (by decide +kernel)) rfl, good_in (List.mem_of_getElem? (i := 83) (by decide +kernel)) rfl, by decide +kernel⟩
theorem iv_X0_placeOn : Cond.instanceMethod yX0_placeOn ∈ lw_good ∧ Cond.selects yX0_placeOn.cls yX0_placeOn yX0_placeOn ∈ lw_good := ⟨good_in (List.mem_of_getElem? (i := 613) (by decide +kernel)) rfl, good_in (List.mem_of_getElem? (i := 13) (by decide +kernel)) rfl⟩
theorem lk_X8_52 : lk_ok RX8 52 yX0_placeOn := Or.inr ⟨"OneManDesk", nest_in (List.mem_of_getElem? (i := 623) (by decide +kernel)) rfl⟩
theorem lk_X8_57 : lk_ok RX8 57 yJ9_min_7cf53 := Or.inl (good_in (List.mem_of_getElem? (i := 672) (by decide +kernel)) rfl)
theorem mk_X8_seenBy : mk_ok yX8_seenBy cX8_seenBy 3 (some .int) 2 := ⟨good_in (List.mem_of_getElem? (i := 622) (by decide +kernel)) rfl, good_in (List.mem_of_getElem? (i := 80) (by decide +kernel)) rfl, by decide +kernel⟩
theorem iv_X8_seenBy : Cond.instanceMethod yX8_seenBy ∈ lw_good ∧ Cond.selects yX8_seenBy.cls yX8_seenBy yX8_seenBy ∈ lw_good := ⟨good_in (List.mem_of_getElem? (i := 621) (by decide +kernel)) rfl, good_in (List.mem_of_getElem? (i := 14) (by decide +kernel)) rfl⟩
theorem lk_X8_63 : lk_ok RX8 63 yX8_seenBy := Or.inl (good_in (List.mem_of_getElem? (i := 675) (by decide +kernel)) rfl)
theorem lk_X8_67 : lk_ok RX8 67 yX9_hasBit := Or.inr ⟨"OneManDesk", nest_in (List.mem_of_getElem? (i := 676) (by decide +kernel)) rfl⟩
theorem mk_X9_isSpan : mk_ok yX9_isSpan cX9_isSpan 2 (some .boolean) 2 := ⟨good_in (List.mem_of_getElem? (i := 436) (by decide +kernel)) rfl, good_in (List.mem_of_getElem? (i := 79) (by decide +kernel)) rfl, by decide +kernel⟩
theorem is_X9_isSpan : Cond.static yX9_isSpan ∈ lw_good := good_in (List.mem_of_getElem? (i := 435) (by decide +kernel)) rfl
theorem lk_X9_100 : lk_ok RX9 100 yX9_isSpan := Or.inl (good_in (List.mem_of_getElem? (i := 434) (by decide +kernel)) rfl)
theorem mk_X8_addFact : mk_ok yX8_addFact cX8_addFact 7 (some .int) 6 := ⟨good_in (List.mem_of_getElem? (i := 440) (by decide +kernel)) rfl, good_in (List.mem_of_getElem? (i := 80) (by decide +kernel)) rfl, by decide +kernel⟩
theorem iv_X8_addFact : Cond.instanceMethod yX8_addFact ∈ lw_good ∧ Cond.selects yX8_addFact.cls yX8_addFact yX8_addFact ∈ lw_good := ⟨good_in (List.mem_of_getElem? (i := 439) (by decide +kernel)) rfl, good_in (List.mem_of_getElem? (i := 0) (by decide +kernel)) rfl⟩
theorem lk_X9_103 : lk_ok RX9 103 yX8_addFact := Or.inr ⟨"OneManDesk", nest_in (List.mem_of_getElem? (i := 437) (by decide +kernel)) rfl⟩
theorem mk_X9_refuseTopic : mk_ok yX9_refuseTopic cX9_refuseTopic 3 (some .int) 3 := ⟨good_in (List.mem_of_getElem? (i := 447) (by decide +kernel)) rfl, good_in (List.mem_of_getElem? (i := 79) (by decide +kernel)) rfl, by decide +kernel⟩
theorem is_X9_refuseTopic : Cond.static yX9_refuseTopic ∈ lw_good := good_in (List.mem_of_getElem? (i := 446) (by decide +kernel)) rfl
theorem lk_X9_107 : lk_ok RX9 107 yX9_refuseTopic := Or.inl (good_in (List.mem_of_getElem? (i := 445) (by decide +kernel)) rfl)
theorem mk_X9_topicOf : mk_ok yX9_topicOf cX9_topicOf 3 (some .int) 3 := ⟨good_in (List.mem_of_getElem? (i := 450) (by decide +kernel)) rfl, good_in (List.mem_of_getElem? (i := 79) (by decide +kernel)) rfl, by decide +kernel⟩
theorem is_X9_topicOf : Cond.static yX9_topicOf ∈ lw_good := good_in (List.mem_of_getElem? (i := 449) (by decide +kernel)) rfl
theorem lk_X9_111 : lk_ok RX9 111 yX9_topicOf := Or.inl (good_in (List.mem_of_getElem? (i := 448) (by decide +kernel)) rfl)
theorem lk_X9_114 : lk_ok RX9 114 yX8_valueOf := Or.inr ⟨"OneManDesk", nest_in (List.mem_of_getElem? (i := 451) (by decide +kernel)) rfl⟩
theorem mk_X7_append : mk_ok yX7_append cX7_append 5 (some .int) 2 := ⟨good_in (List.mem_of_getElem? (i := 479) (by decide +kernel)) rfl, good_in (List.mem_of_getElem? (i := 85) (by decide +kernel)) rfl, by decide +kernel⟩
theorem iv_X7_append : Cond.instanceMethod yX7_append ∈ lw_good ∧ Cond.selects yX7_append.cls yX7_append yX7_append ∈ lw_good := ⟨good_in (List.mem_of_getElem? (i := 478) (by decide +kernel)) rfl, good_in (List.mem_of_getElem? (i := 3) (by decide +kernel)) rfl⟩
theorem lk_X9_122 : lk_ok RX9 122 yX7_append := Or.inr ⟨"OneManDesk", nest_in (List.mem_of_getElem? (i := 476) (by decide +kernel)) rfl⟩
theorem mk_X7_empty : mk_ok yX7_empty cX7_empty 2 (some .int) 0 := ⟨good_in (List.mem_of_getElem? (i := 488) (by decide +kernel)) rfl, good_in (List.mem_of_getElem? (i := 85) (by decide +kernel)) rfl, by decide +kernel⟩
theorem iv_X7_empty : Cond.instanceMethod yX7_empty ∈ lw_good ∧ Cond.selects yX7_empty.cls yX7_empty yX7_empty ∈ lw_good := ⟨good_in (List.mem_of_getElem? (i := 487) (by decide +kernel)) rfl, good_in (List.mem_of_getElem? (i := 4) (by decide +kernel)) rfl⟩
theorem lk_X9_126 : lk_ok RX9 126 yX7_empty := Or.inr ⟨"OneManDesk", nest_in (List.mem_of_getElem? (i := 485) (by decide +kernel)) rfl⟩
theorem mk_X7_firstFault : mk_ok yX7_firstFault cX7_firstFault 2 (some .int) 1 := ⟨good_in (List.mem_of_getElem? (i := 496) (by decide +kernel)) rfl, good_in (List.mem_of_getElem? (i := 85) (by decide +kernel)) rfl, by decide +kernel⟩
theorem iv_X7_firstFault : Cond.instanceMethod yX7_firstFault ∈ lw_good ∧ Cond.selects yX7_firstFault.cls yX7_firstFault yX7_firstFault ∈ lw_good := ⟨good_in (List.mem_of_getElem? (i := 495) (by decide +kernel)) rfl, good_in (List.mem_of_getElem? (i := 5) (by decide +kernel)) rfl⟩
theorem lk_X9_130 : lk_ok RX9 130 yX7_firstFault := Or.inr ⟨"OneManDesk", nest_in (List.mem_of_getElem? (i := 493) (by decide +kernel)) rfl⟩
theorem mk_X0_live : mk_ok yX0_live cX0_live 3 (some .int) 1 := ⟨good_in (List.mem_of_getElem? (i := 592) (by decide +kernel)) rfl, good_in (List.mem_of_getElem? (i := 83) (by decide +kernel)) rfl, by decide +kernel⟩
theorem iv_X0_live : Cond.instanceMethod yX0_live ∈ lw_good ∧ Cond.selects yX0_live.cls yX0_live yX0_live ∈ lw_good := ⟨good_in (List.mem_of_getElem? (i := 591) (by decide +kernel)) rfl, good_in (List.mem_of_getElem? (i := 11) (by decide +kernel)) rfl⟩
theorem lk_X9_134 : lk_ok RX9 134 yX0_live := Or.inr ⟨"OneManDesk", nest_in (List.mem_of_getElem? (i := 589) (by decide +kernel)) rfl⟩
theorem mk_X3_weighBy : mk_ok yX3_weighBy cX3_weighBy 3 (some .int) 1 := ⟨good_in (List.mem_of_getElem? (i := 600) (by decide +kernel)) rfl, good_in (List.mem_of_getElem? (i := 84) (by decide +kernel)) rfl, by decide +kernel⟩
theorem iv_X3_weighBy : Cond.instanceMethod yX3_weighBy ∈ lw_good ∧ Cond.selects yX3_weighBy.cls yX3_weighBy yX3_weighBy ∈ lw_good := ⟨good_in (List.mem_of_getElem? (i := 599) (by decide +kernel)) rfl, good_in (List.mem_of_getElem? (i := 12) (by decide +kernel)) rfl⟩
theorem lk_X9_138 : lk_ok RX9 138 yX3_weighBy := Or.inr ⟨"OneManDesk", nest_in (List.mem_of_getElem? (i := 597) (by decide +kernel)) rfl⟩
theorem mk_X9_refuseDayOf : mk_ok yX9_refuseDayOf cX9_refuseDayOf 3 (some .int) 3 := ⟨good_in (List.mem_of_getElem? (i := 610) (by decide +kernel)) rfl, good_in (List.mem_of_getElem? (i := 79) (by decide +kernel)) rfl, by decide +kernel⟩
theorem is_X9_refuseDayOf : Cond.static yX9_refuseDayOf ∈ lw_good := good_in (List.mem_of_getElem? (i := 609) (by decide +kernel)) rfl
theorem lk_X9_141 : lk_ok RX9 141 yX9_refuseDayOf := Or.inl (good_in (List.mem_of_getElem? (i := 608) (by decide +kernel)) rfl)
theorem lk_X9_144 : lk_ok RX9 144 yX0_placeOn := Or.inr ⟨"OneManDesk", nest_in (List.mem_of_getElem? (i := 611) (by decide +kernel)) rfl⟩
theorem lk_X9_147 : lk_ok RX9 147 yX8_seenBy := Or.inr ⟨"OneManDesk", nest_in (List.mem_of_getElem? (i := 619) (by decide +kernel)) rfl⟩
theorem mk_X9_refuseLetter : mk_ok yX9_refuseLetter cX9_refuseLetter 8 (some .int) 7 := ⟨good_in (List.mem_of_getElem? (i := 634) (by decide +kernel)) rfl, good_in (List.mem_of_getElem? (i := 79) (by decide +kernel)) rfl, by decide +kernel⟩
theorem is_X9_refuseLetter : Cond.static yX9_refuseLetter ∈ lw_good := good_in (List.mem_of_getElem? (i := 633) (by decide +kernel)) rfl
theorem lk_X9_151 : lk_ok RX9 151 yX9_refuseLetter := Or.inl (good_in (List.mem_of_getElem? (i := 632) (by decide +kernel)) rfl)
theorem mk_X1_add : mk_ok yX1_add cX1_add 6 (some .int) 5 := ⟨good_in (List.mem_of_getElem? (i := 638) (by decide +kernel)) rfl, good_in (List.mem_of_getElem? (i := 81) (by decide +kernel)) rfl, by decide +kernel⟩
theorem iv_X1_add : Cond.instanceMethod yX1_add ∈ lw_good ∧ Cond.selects yX1_add.cls yX1_add yX1_add ∈ lw_good := ⟨good_in (List.mem_of_getElem? (i := 637) (by decide +kernel)) rfl, good_in (List.mem_of_getElem? (i := 15) (by decide +kernel)) rfl⟩
theorem lk_X9_155 : lk_ok RX9 155 yX1_add := Or.inr ⟨"OneManDesk", nest_in (List.mem_of_getElem? (i := 635) (by decide +kernel)) rfl⟩
theorem lk_X9_168 : lk_ok RX9 168 yX1_cameOn := Or.inr ⟨"OneManDesk", nest_in (List.mem_of_getElem? (i := 647) (by decide +kernel)) rfl⟩
theorem lk_X9_171 : lk_ok RX9 171 yX9_dayOf := Or.inl (good_in (List.mem_of_getElem? (i := 655) (by decide +kernel)) rfl)
theorem lk_X9_177 : lk_ok RX9 177 yX9_placeOf := Or.inl (good_in (List.mem_of_getElem? (i := 656) (by decide +kernel)) rfl)
theorem lk_X9_180 : lk_ok RX9 180 yX9_hasBit := Or.inl (good_in (List.mem_of_getElem? (i := 657) (by decide +kernel)) rfl)
theorem mk_X1_unlike : mk_ok yX1_unlike cX1_unlike 4 (some .int) 1 := ⟨good_in (List.mem_of_getElem? (i := 663) (by decide +kernel)) rfl, good_in (List.mem_of_getElem? (i := 81) (by decide +kernel)) rfl, by decide +kernel⟩
theorem iv_X1_unlike : Cond.instanceMethod yX1_unlike ∈ lw_good ∧ Cond.selects yX1_unlike.cls yX1_unlike yX1_unlike ∈ lw_good := ⟨good_in (List.mem_of_getElem? (i := 662) (by decide +kernel)) rfl, good_in (List.mem_of_getElem? (i := 17) (by decide +kernel)) rfl⟩
theorem lk_X9_186 : lk_ok RX9 186 yX1_unlike := Or.inr ⟨"OneManDesk", nest_in (List.mem_of_getElem? (i := 660) (by decide +kernel)) rfl⟩
theorem mk_X8_wasSeen : mk_ok yX8_wasSeen cX8_wasSeen 6 (some .boolean) 3 := ⟨good_in (List.mem_of_getElem? (i := 671) (by decide +kernel)) rfl, good_in (List.mem_of_getElem? (i := 80) (by decide +kernel)) rfl, by decide +kernel⟩
theorem iv_X8_wasSeen : Cond.instanceMethod yX8_wasSeen ∈ lw_good ∧ Cond.selects yX8_wasSeen.cls yX8_wasSeen yX8_wasSeen ∈ lw_good := ⟨good_in (List.mem_of_getElem? (i := 670) (by decide +kernel)) rfl, good_in (List.mem_of_getElem? (i := 18) (by decide +kernel)) rfl⟩
theorem lk_X9_192 : lk_ok RX9 192 yX8_wasSeen := Or.inr ⟨"OneManDesk", nest_in (List.mem_of_getElem? (i := 668) (by decide +kernel)) rfl⟩
theorem mk_X1_mention : mk_ok yX1_mention cX1_mention 6 (some .boolean) 4 := ⟨good_in (List.mem_of_getElem? (i := 680) (by decide +kernel)) rfl, good_in (List.mem_of_getElem? (i := 81) (by decide +kernel)) rfl, by decide +kernel⟩
theorem iv_X1_mention : Cond.instanceMethod yX1_mention ∈ lw_good ∧ Cond.selects yX1_mention.cls yX1_mention yX1_mention ∈ lw_good := ⟨good_in (List.mem_of_getElem? (i := 679) (by decide +kernel)) rfl, good_in (List.mem_of_getElem? (i := 19) (by decide +kernel)) rfl⟩
theorem lk_X9_196 : lk_ok RX9 196 yX1_mention := Or.inr ⟨"OneManDesk", nest_in (List.mem_of_getElem? (i := 677) (by decide +kernel)) rfl⟩
theorem mk_X8_showsSecret : mk_ok yX8_showsSecret cX8_showsSecret 5 (some .boolean) 2 := ⟨good_in (List.mem_of_getElem? (i := 692) (by decide +kernel)) rfl, good_in (List.mem_of_getElem? (i := 80) (by decide +kernel)) rfl, by decide +kernel⟩
theorem iv_X8_showsSecret : Cond.instanceMethod yX8_showsSecret ∈ lw_good ∧ Cond.selects yX8_showsSecret.cls yX8_showsSecret yX8_showsSecret ∈ lw_good := ⟨good_in (List.mem_of_getElem? (i := 691) (by decide +kernel)) rfl, good_in (List.mem_of_getElem? (i := 20) (by decide +kernel)) rfl⟩
theorem lk_X9_200 : lk_ok RX9 200 yX8_showsSecret := Or.inr ⟨"OneManDesk", nest_in (List.mem_of_getElem? (i := 689) (by decide +kernel)) rfl⟩
theorem mk_X3_addEyes : mk_ok yX3_addEyes cX3_addEyes 4 (some .int) 3 := ⟨good_in (List.mem_of_getElem? (i := 700) (by decide +kernel)) rfl, good_in (List.mem_of_getElem? (i := 84) (by decide +kernel)) rfl, by decide +kernel⟩
theorem iv_X3_addEyes : Cond.instanceMethod yX3_addEyes ∈ lw_good ∧ Cond.selects yX3_addEyes.cls yX3_addEyes yX3_addEyes ∈ lw_good := ⟨good_in (List.mem_of_getElem? (i := 699) (by decide +kernel)) rfl, good_in (List.mem_of_getElem? (i := 21) (by decide +kernel)) rfl⟩
theorem lk_X9_204 : lk_ok RX9 204 yX3_addEyes := Or.inr ⟨"OneManDesk", nest_in (List.mem_of_getElem? (i := 697) (by decide +kernel)) rfl⟩
theorem lk_X9_210 : lk_ok RX9 210 yX4_trustIn := Or.inr ⟨"OneManDesk", nest_in (List.mem_of_getElem? (i := 709) (by decide +kernel)) rfl⟩
theorem mk_X9_refuseReading : mk_ok yX9_refuseReading cX9_refuseReading 6 (some .int) 5 := ⟨good_in (List.mem_of_getElem? (i := 743) (by decide +kernel)) rfl, good_in (List.mem_of_getElem? (i := 79) (by decide +kernel)) rfl, by decide +kernel⟩
theorem is_X9_refuseReading : Cond.static yX9_refuseReading ∈ lw_good := good_in (List.mem_of_getElem? (i := 742) (by decide +kernel)) rfl
theorem lk_X9_214 : lk_ok RX9 214 yX9_refuseReading := Or.inl (good_in (List.mem_of_getElem? (i := 741) (by decide +kernel)) rfl)
theorem lk_X9_217 : lk_ok RX9 217 yX4_conclude := Or.inr ⟨"OneManDesk", nest_in (List.mem_of_getElem? (i := 744) (by decide +kernel)) rfl⟩
theorem lk_X9_220 : lk_ok RX9 220 yX4_sumTrust := Or.inr ⟨"OneManDesk", nest_in (List.mem_of_getElem? (i := 775) (by decide +kernel)) rfl⟩
theorem lk_X9_224 : lk_ok RX9 224 yX4_gather := Or.inr ⟨"OneManDesk", nest_in (List.mem_of_getElem? (i := 776) (by decide +kernel)) rfl⟩
theorem lk_X9_228 : lk_ok RX9 228 yX4_weigh := Or.inr ⟨"OneManDesk", nest_in (List.mem_of_getElem? (i := 777) (by decide +kernel)) rfl⟩
theorem mk_X6_add : mk_ok yX6_add cX6_add 3 (some .int) 2 := ⟨good_in (List.mem_of_getElem? (i := 785) (by decide +kernel)) rfl, good_in (List.mem_of_getElem? (i := 86) (by decide +kernel)) rfl, by decide +kernel⟩
theorem iv_X6_add : Cond.instanceMethod yX6_add ∈ lw_good ∧ Cond.selects yX6_add.cls yX6_add yX6_add ∈ lw_good := ⟨good_in (List.mem_of_getElem? (i := 784) (by decide +kernel)) rfl, good_in (List.mem_of_getElem? (i := 31) (by decide +kernel)) rfl⟩
theorem lk_X9_232 : lk_ok RX9 232 yX6_add := Or.inr ⟨"OneManDesk", nest_in (List.mem_of_getElem? (i := 782) (by decide +kernel)) rfl⟩
theorem mk_X4_heldLines : mk_ok yX4_heldLines cX4_heldLines 6 (some .int) 3 := ⟨good_in (List.mem_of_getElem? (i := 793) (by decide +kernel)) rfl, good_in (List.mem_of_getElem? (i := 82) (by decide +kernel)) rfl, by decide +kernel⟩
theorem iv_X4_heldLines : Cond.instanceMethod yX4_heldLines ∈ lw_good ∧ Cond.selects yX4_heldLines.cls yX4_heldLines yX4_heldLines ∈ lw_good := ⟨good_in (List.mem_of_getElem? (i := 792) (by decide +kernel)) rfl, good_in (List.mem_of_getElem? (i := 32) (by decide +kernel)) rfl⟩
theorem lk_X9_235 : lk_ok RX9 235 yX4_heldLines := Or.inr ⟨"OneManDesk", nest_in (List.mem_of_getElem? (i := 790) (by decide +kernel)) rfl⟩
theorem mk_X6_allLines : mk_ok yX6_allLines cX6_allLines 1 (some .int) 0 := ⟨good_in (List.mem_of_getElem? (i := 801) (by decide +kernel)) rfl, good_in (List.mem_of_getElem? (i := 86) (by decide +kernel)) rfl, by decide +kernel⟩
theorem iv_X6_allLines : Cond.instanceMethod yX6_allLines ∈ lw_good ∧ Cond.selects yX6_allLines.cls yX6_allLines yX6_allLines ∈ lw_good := ⟨good_in (List.mem_of_getElem? (i := 800) (by decide +kernel)) rfl, good_in (List.mem_of_getElem? (i := 33) (by decide +kernel)) rfl⟩
theorem lk_X9_239 : lk_ok RX9 239 yX6_allLines := Or.inr ⟨"OneManDesk", nest_in (List.mem_of_getElem? (i := 798) (by decide +kernel)) rfl⟩
theorem mk_X2_leastRisk : mk_ok yX2_leastRisk cX2_leastRisk 9 (some .int) 3 := ⟨good_in (List.mem_of_getElem? (i := 817) (by decide +kernel)) rfl, good_in (List.mem_of_getElem? (i := 87) (by decide +kernel)) rfl, by decide +kernel⟩
theorem iv_X2_leastRisk : Cond.instanceMethod yX2_leastRisk ∈ lw_good ∧ Cond.selects yX2_leastRisk.cls yX2_leastRisk yX2_leastRisk ∈ lw_good := ⟨good_in (List.mem_of_getElem? (i := 816) (by decide +kernel)) rfl, good_in (List.mem_of_getElem? (i := 34) (by decide +kernel)) rfl⟩
theorem lk_X9_248 : lk_ok RX9 248 yX2_leastRisk := Or.inr ⟨"OneManDesk", nest_in (List.mem_of_getElem? (i := 814) (by decide +kernel)) rfl⟩
theorem mk_X2_leastCost : mk_ok yX2_leastCost cX2_leastCost 10 (some .int) 4 := ⟨good_in (List.mem_of_getElem? (i := 862) (by decide +kernel)) rfl, good_in (List.mem_of_getElem? (i := 87) (by decide +kernel)) rfl, by decide +kernel⟩
theorem iv_X2_leastCost : Cond.instanceMethod yX2_leastCost ∈ lw_good ∧ Cond.selects yX2_leastCost.cls yX2_leastCost yX2_leastCost ∈ lw_good := ⟨good_in (List.mem_of_getElem? (i := 861) (by decide +kernel)) rfl, good_in (List.mem_of_getElem? (i := 42) (by decide +kernel)) rfl⟩
theorem lk_X9_251 : lk_ok RX9 251 yX2_leastCost := Or.inr ⟨"OneManDesk", nest_in (List.mem_of_getElem? (i := 859) (by decide +kernel)) rfl⟩
theorem mk_X5_addQuestion : mk_ok yX5_addQuestion cX5_addQuestion 3 (some .int) 2 := ⟨good_in (List.mem_of_getElem? (i := 875) (by decide +kernel)) rfl, good_in (List.mem_of_getElem? (i := 88) (by decide +kernel)) rfl, by decide +kernel⟩
theorem iv_X5_addQuestion : Cond.instanceMethod yX5_addQuestion ∈ lw_good ∧ Cond.selects yX5_addQuestion.cls yX5_addQuestion yX5_addQuestion ∈ lw_good := ⟨good_in (List.mem_of_getElem? (i := 874) (by decide +kernel)) rfl, good_in (List.mem_of_getElem? (i := 44) (by decide +kernel)) rfl⟩
theorem lk_X9_255 : lk_ok RX9 255 yX5_addQuestion := Or.inr ⟨"OneManDesk", nest_in (List.mem_of_getElem? (i := 872) (by decide +kernel)) rfl⟩
theorem mk_X5_addPay : mk_ok yX5_addPay cX5_addPay 3 (some .int) 2 := ⟨good_in (List.mem_of_getElem? (i := 887) (by decide +kernel)) rfl, good_in (List.mem_of_getElem? (i := 88) (by decide +kernel)) rfl, by decide +kernel⟩
theorem iv_X5_addPay : Cond.instanceMethod yX5_addPay ∈ lw_good ∧ Cond.selects yX5_addPay.cls yX5_addPay yX5_addPay ∈ lw_good := ⟨good_in (List.mem_of_getElem? (i := 886) (by decide +kernel)) rfl, good_in (List.mem_of_getElem? (i := 46) (by decide +kernel)) rfl⟩
theorem lk_X9_258 : lk_ok RX9 258 yX5_addPay := Or.inr ⟨"OneManDesk", nest_in (List.mem_of_getElem? (i := 884) (by decide +kernel)) rfl⟩
theorem mk_X5_fit : mk_ok yX5_fit cX5_fit 5 (some .boolean) 2 := ⟨good_in (List.mem_of_getElem? (i := 895) (by decide +kernel)) rfl, good_in (List.mem_of_getElem? (i := 88) (by decide +kernel)) rfl, by decide +kernel⟩
theorem iv_X5_fit : Cond.instanceMethod yX5_fit ∈ lw_good ∧ Cond.selects yX5_fit.cls yX5_fit yX5_fit ∈ lw_good := ⟨good_in (List.mem_of_getElem? (i := 894) (by decide +kernel)) rfl, good_in (List.mem_of_getElem? (i := 47) (by decide +kernel)) rfl⟩
theorem lk_X9_261 : lk_ok RX9 261 yX5_fit := Or.inr ⟨"OneManDesk", nest_in (List.mem_of_getElem? (i := 892) (by decide +kernel)) rfl⟩
theorem lk_X9_265 : lk_ok RX9 265 yJ9_max_7cf53 := Or.inl (good_in (List.mem_of_getElem? (i := 902) (by decide +kernel)) rfl)
theorem mk_X9_isBelow : mk_ok yX9_isBelow cX9_isBelow 2 (some .boolean) 2 := ⟨good_in (List.mem_of_getElem? (i := 429) (by decide +kernel)) rfl, good_in (List.mem_of_getElem? (i := 79) (by decide +kernel)) rfl, by decide +kernel⟩
theorem is_X9_isBelow : Cond.static yX9_isBelow ∈ lw_good := good_in (List.mem_of_getElem? (i := 428) (by decide +kernel)) rfl
theorem lk_X9_93 : lk_ok RX9 93 yX9_isBelow := Or.inl (good_in (List.mem_of_getElem? (i := 427) (by decide +kernel)) rfl)
theorem mk_X10_told : mk_ok yX10_told cX10_told 3 (some .int) 2 := ⟨good_in (List.mem_of_getElem? (i := 1253) (by decide +kernel)) rfl, good_in (List.mem_of_getElem? (i := 89) (by decide +kernel)) rfl, by decide +kernel⟩
theorem iv_X10_told : Cond.instanceMethod yX10_told ∈ lw_good ∧ Cond.selects yX10_told.cls yX10_told yX10_told ∈ lw_good := ⟨good_in (List.mem_of_getElem? (i := 1251) (by decide +kernel)) rfl, good_in (List.mem_of_getElem? (i := 1252) (by decide +kernel)) rfl⟩
theorem lk_L_102 : lk_ok RL 102 yX10_told := Or.inl (good_in (List.mem_of_getElem? (i := 1250) (by decide +kernel)) rfl)
theorem mk_X9_trust : mk_ok yX9_trust cX9_trust 4 (some .int) 3 := ⟨good_in (List.mem_of_getElem? (i := 708) (by decide +kernel)) rfl, good_in (List.mem_of_getElem? (i := 79) (by decide +kernel)) rfl, by decide +kernel⟩
theorem iv_X9_trust : Cond.instanceMethod yX9_trust ∈ lw_good ∧ Cond.selects yX9_trust.cls yX9_trust yX9_trust ∈ lw_good := ⟨good_in (List.mem_of_getElem? (i := 706) (by decide +kernel)) rfl, good_in (List.mem_of_getElem? (i := 707) (by decide +kernel)) rfl⟩
theorem lk_L_103 : lk_ok RL 103 yX9_trust := Or.inl (good_in (List.mem_of_getElem? (i := 705) (by decide +kernel)) rfl)
theorem mk_X10_trust : mk_ok yX10_trust cX10_trust 4 (some .int) 3 := ⟨good_in (List.mem_of_getElem? (i := 1257) (by decide +kernel)) rfl, good_in (List.mem_of_getElem? (i := 89) (by decide +kernel)) rfl, by decide +kernel⟩
theorem iv_X10_trust : Cond.instanceMethod yX10_trust ∈ lw_good ∧ Cond.selects yX10_trust.cls yX10_trust yX10_trust ∈ lw_good := ⟨good_in (List.mem_of_getElem? (i := 1255) (by decide +kernel)) rfl, good_in (List.mem_of_getElem? (i := 1256) (by decide +kernel)) rfl⟩
theorem lk_L_106 : lk_ok RL 106 yX10_trust := Or.inl (good_in (List.mem_of_getElem? (i := 1254) (by decide +kernel)) rfl)
theorem mk_X9_concluded : mk_ok yX9_concluded cX9_concluded 7 (some .int) 5 := ⟨good_in (List.mem_of_getElem? (i := 740) (by decide +kernel)) rfl, good_in (List.mem_of_getElem? (i := 79) (by decide +kernel)) rfl, by decide +kernel⟩
theorem iv_X9_concluded : Cond.instanceMethod yX9_concluded ∈ lw_good ∧ Cond.selects yX9_concluded.cls yX9_concluded yX9_concluded ∈ lw_good := ⟨good_in (List.mem_of_getElem? (i := 738) (by decide +kernel)) rfl, good_in (List.mem_of_getElem? (i := 739) (by decide +kernel)) rfl⟩
theorem lk_L_107 : lk_ok RL 107 yX9_concluded := Or.inl (good_in (List.mem_of_getElem? (i := 737) (by decide +kernel)) rfl)
theorem mk_X10_concluded : mk_ok yX10_concluded cX10_concluded 6 (some .int) 5 := ⟨good_in (List.mem_of_getElem? (i := 1273) (by decide +kernel)) rfl, good_in (List.mem_of_getElem? (i := 89) (by decide +kernel)) rfl, by decide +kernel⟩
theorem iv_X10_concluded : Cond.instanceMethod yX10_concluded ∈ lw_good ∧ Cond.selects yX10_concluded.cls yX10_concluded yX10_concluded ∈ lw_good := ⟨good_in (List.mem_of_getElem? (i := 1271) (by decide +kernel)) rfl, good_in (List.mem_of_getElem? (i := 1272) (by decide +kernel)) rfl⟩
theorem lk_L_111 : lk_ok RL 111 yX10_concluded := Or.inl (good_in (List.mem_of_getElem? (i := 1270) (by decide +kernel)) rfl)
theorem mk_X9_weight : mk_ok yX9_weight cX9_weight 8 (some .int) 6 := ⟨good_in (List.mem_of_getElem? (i := 774) (by decide +kernel)) rfl, good_in (List.mem_of_getElem? (i := 79) (by decide +kernel)) rfl, by decide +kernel⟩
theorem iv_X9_weight : Cond.instanceMethod yX9_weight ∈ lw_good ∧ Cond.selects yX9_weight.cls yX9_weight yX9_weight ∈ lw_good := ⟨good_in (List.mem_of_getElem? (i := 772) (by decide +kernel)) rfl, good_in (List.mem_of_getElem? (i := 773) (by decide +kernel)) rfl⟩
theorem lk_L_112 : lk_ok RL 112 yX9_weight := Or.inl (good_in (List.mem_of_getElem? (i := 771) (by decide +kernel)) rfl)
theorem mk_X10_weight : mk_ok yX10_weight cX10_weight 7 (some .int) 6 := ⟨good_in (List.mem_of_getElem? (i := 1289) (by decide +kernel)) rfl, good_in (List.mem_of_getElem? (i := 89) (by decide +kernel)) rfl, by decide +kernel⟩
theorem iv_X10_weight : Cond.instanceMethod yX10_weight ∈ lw_good ∧ Cond.selects yX10_weight.cls yX10_weight yX10_weight ∈ lw_good := ⟨good_in (List.mem_of_getElem? (i := 1287) (by decide +kernel)) rfl, good_in (List.mem_of_getElem? (i := 1288) (by decide +kernel)) rfl⟩
theorem lk_L_116 : lk_ok RL 116 yX10_weight := Or.inl (good_in (List.mem_of_getElem? (i := 1286) (by decide +kernel)) rfl)
theorem mk_X9_story : mk_ok yX9_story cX9_story 6 (some .int) 4 := ⟨good_in (List.mem_of_getElem? (i := 781) (by decide +kernel)) rfl, good_in (List.mem_of_getElem? (i := 79) (by decide +kernel)) rfl, by decide +kernel⟩
theorem iv_X9_story : Cond.instanceMethod yX9_story ∈ lw_good ∧ Cond.selects yX9_story.cls yX9_story yX9_story ∈ lw_good := ⟨good_in (List.mem_of_getElem? (i := 779) (by decide +kernel)) rfl, good_in (List.mem_of_getElem? (i := 780) (by decide +kernel)) rfl⟩
theorem lk_L_117 : lk_ok RL 117 yX9_story := Or.inl (good_in (List.mem_of_getElem? (i := 778) (by decide +kernel)) rfl)
theorem mk_X10_story : mk_ok yX10_story cX10_story 5 (some .int) 4 := ⟨good_in (List.mem_of_getElem? (i := 1293) (by decide +kernel)) rfl, good_in (List.mem_of_getElem? (i := 89) (by decide +kernel)) rfl, by decide +kernel⟩
theorem iv_X10_story : Cond.instanceMethod yX10_story ∈ lw_good ∧ Cond.selects yX10_story.cls yX10_story yX10_story ∈ lw_good := ⟨good_in (List.mem_of_getElem? (i := 1291) (by decide +kernel)) rfl, good_in (List.mem_of_getElem? (i := 1292) (by decide +kernel)) rfl⟩
theorem lk_L_120 : lk_ok RL 120 yX10_story := Or.inl (good_in (List.mem_of_getElem? (i := 1290) (by decide +kernel)) rfl)
theorem mk_X9_holds : mk_ok yX9_holds cX9_holds 4 (some .int) 2 := ⟨good_in (List.mem_of_getElem? (i := 789) (by decide +kernel)) rfl, good_in (List.mem_of_getElem? (i := 79) (by decide +kernel)) rfl, by decide +kernel⟩
theorem iv_X9_holds : Cond.instanceMethod yX9_holds ∈ lw_good ∧ Cond.selects yX9_holds.cls yX9_holds yX9_holds ∈ lw_good := ⟨good_in (List.mem_of_getElem? (i := 787) (by decide +kernel)) rfl, good_in (List.mem_of_getElem? (i := 788) (by decide +kernel)) rfl⟩
theorem lk_L_121 : lk_ok RL 121 yX9_holds := Or.inl (good_in (List.mem_of_getElem? (i := 786) (by decide +kernel)) rfl)
theorem mk_X10_holds : mk_ok yX10_holds cX10_holds 3 (some .int) 2 := ⟨good_in (List.mem_of_getElem? (i := 1297) (by decide +kernel)) rfl, good_in (List.mem_of_getElem? (i := 89) (by decide +kernel)) rfl, by decide +kernel⟩
theorem iv_X10_holds : Cond.instanceMethod yX10_holds ∈ lw_good ∧ Cond.selects yX10_holds.cls yX10_holds yX10_holds ∈ lw_good := ⟨good_in (List.mem_of_getElem? (i := 1295) (by decide +kernel)) rfl, good_in (List.mem_of_getElem? (i := 1296) (by decide +kernel)) rfl⟩
theorem lk_L_124 : lk_ok RL 124 yX10_holds := Or.inl (good_in (List.mem_of_getElem? (i := 1294) (by decide +kernel)) rfl)
theorem mk_X9_keeps : mk_ok yX9_keeps cX9_keeps 5 (some .int) 2 := ⟨good_in (List.mem_of_getElem? (i := 797) (by decide +kernel)) rfl, good_in (List.mem_of_getElem? (i := 79) (by decide +kernel)) rfl, by decide +kernel⟩
theorem iv_X9_keeps : Cond.instanceMethod yX9_keeps ∈ lw_good ∧ Cond.selects yX9_keeps.cls yX9_keeps yX9_keeps ∈ lw_good := ⟨good_in (List.mem_of_getElem? (i := 795) (by decide +kernel)) rfl, good_in (List.mem_of_getElem? (i := 796) (by decide +kernel)) rfl⟩
theorem lk_L_125 : lk_ok RL 125 yX9_keeps := Or.inl (good_in (List.mem_of_getElem? (i := 794) (by decide +kernel)) rfl)
theorem mk_X10_keeps : mk_ok yX10_keeps cX10_keeps 4 (some .int) 2 := ⟨good_in (List.mem_of_getElem? (i := 1305) (by decide +kernel)) rfl, good_in (List.mem_of_getElem? (i := 89) (by decide +kernel)) rfl, by decide +kernel⟩
theorem iv_X10_keeps : Cond.instanceMethod yX10_keeps ∈ lw_good ∧ Cond.selects yX10_keeps.cls yX10_keeps yX10_keeps ∈ lw_good := ⟨good_in (List.mem_of_getElem? (i := 1303) (by decide +kernel)) rfl, good_in (List.mem_of_getElem? (i := 1304) (by decide +kernel)) rfl⟩
theorem lk_L_128 : lk_ok RL 128 yX10_keeps := Or.inl (good_in (List.mem_of_getElem? (i := 1302) (by decide +kernel)) rfl)
theorem mk_X9_draft : mk_ok yX9_draft cX9_draft 9 (some .int) 7 := ⟨good_in (List.mem_of_getElem? (i := 805) (by decide +kernel)) rfl, good_in (List.mem_of_getElem? (i := 79) (by decide +kernel)) rfl, by decide +kernel⟩
theorem iv_X9_draft : Cond.instanceMethod yX9_draft ∈ lw_good ∧ Cond.selects yX9_draft.cls yX9_draft yX9_draft ∈ lw_good := ⟨good_in (List.mem_of_getElem? (i := 803) (by decide +kernel)) rfl, good_in (List.mem_of_getElem? (i := 804) (by decide +kernel)) rfl⟩
theorem lk_L_129 : lk_ok RL 129 yX9_draft := Or.inl (good_in (List.mem_of_getElem? (i := 802) (by decide +kernel)) rfl)
theorem mk_X9_view : mk_ok yX9_view cX9_view 4 (some .int) 2 := ⟨good_in (List.mem_of_getElem? (i := 426) (by decide +kernel)) rfl, good_in (List.mem_of_getElem? (i := 79) (by decide +kernel)) rfl, by decide +kernel⟩
theorem iv_X9_view : Cond.instanceMethod yX9_view ∈ lw_good ∧ Cond.selects yX9_view.cls yX9_view yX9_view ∈ lw_good := ⟨good_in (List.mem_of_getElem? (i := 424) (by decide +kernel)) rfl, good_in (List.mem_of_getElem? (i := 425) (by decide +kernel)) rfl⟩
theorem lk_L_13 : lk_ok RL 13 yX9_view := Or.inl (good_in (List.mem_of_getElem? (i := 423) (by decide +kernel)) rfl)
theorem mk_X10_draft : mk_ok yX10_draft cX10_draft 9 (some .int) 7 := ⟨good_in (List.mem_of_getElem? (i := 1313) (by decide +kernel)) rfl, good_in (List.mem_of_getElem? (i := 89) (by decide +kernel)) rfl, by decide +kernel⟩
theorem iv_X10_draft : Cond.instanceMethod yX10_draft ∈ lw_good ∧ Cond.selects yX10_draft.cls yX10_draft yX10_draft ∈ lw_good := ⟨good_in (List.mem_of_getElem? (i := 1311) (by decide +kernel)) rfl, good_in (List.mem_of_getElem? (i := 1312) (by decide +kernel)) rfl⟩
theorem lk_L_132 : lk_ok RL 132 yX10_draft := Or.inl (good_in (List.mem_of_getElem? (i := 1310) (by decide +kernel)) rfl)
theorem mk_X9_mark : mk_ok yX9_mark cX9_mark 6 (some .int) 3 := ⟨good_in (List.mem_of_getElem? (i := 809) (by decide +kernel)) rfl, good_in (List.mem_of_getElem? (i := 79) (by decide +kernel)) rfl, by decide +kernel⟩
theorem iv_X9_mark : Cond.instanceMethod yX9_mark ∈ lw_good ∧ Cond.selects yX9_mark.cls yX9_mark yX9_mark ∈ lw_good := ⟨good_in (List.mem_of_getElem? (i := 807) (by decide +kernel)) rfl, good_in (List.mem_of_getElem? (i := 808) (by decide +kernel)) rfl⟩
theorem lk_L_133 : lk_ok RL 133 yX9_mark := Or.inl (good_in (List.mem_of_getElem? (i := 806) (by decide +kernel)) rfl)
theorem mk_X10_mark : mk_ok yX10_mark cX10_mark 5 (some .int) 3 := ⟨good_in (List.mem_of_getElem? (i := 1317) (by decide +kernel)) rfl, good_in (List.mem_of_getElem? (i := 89) (by decide +kernel)) rfl, by decide +kernel⟩
theorem iv_X10_mark : Cond.instanceMethod yX10_mark ∈ lw_good ∧ Cond.selects yX10_mark.cls yX10_mark yX10_mark ∈ lw_good := ⟨good_in (List.mem_of_getElem? (i := 1315) (by decide +kernel)) rfl, good_in (List.mem_of_getElem? (i := 1316) (by decide +kernel)) rfl⟩
theorem lk_L_136 : lk_ok RL 136 yX10_mark := Or.inl (good_in (List.mem_of_getElem? (i := 1314) (by decide +kernel)) rfl)
theorem mk_X9_make : mk_ok yX9_make cX9_make 2 (some .int) 1 := ⟨good_in (List.mem_of_getElem? (i := 813) (by decide +kernel)) rfl, good_in (List.mem_of_getElem? (i := 79) (by decide +kernel)) rfl, by decide +kernel⟩
theorem iv_X9_make : Cond.instanceMethod yX9_make ∈ lw_good ∧ Cond.selects yX9_make.cls yX9_make yX9_make ∈ lw_good := ⟨good_in (List.mem_of_getElem? (i := 811) (by decide +kernel)) rfl, good_in (List.mem_of_getElem? (i := 812) (by decide +kernel)) rfl⟩
theorem lk_L_137 : lk_ok RL 137 yX9_make := Or.inl (good_in (List.mem_of_getElem? (i := 810) (by decide +kernel)) rfl)
theorem mk_X10_make : mk_ok yX10_make cX10_make 6 (some .int) 1 := ⟨good_in (List.mem_of_getElem? (i := 1322) (by decide +kernel)) rfl, good_in (List.mem_of_getElem? (i := 89) (by decide +kernel)) rfl, by decide +kernel⟩
theorem iv_X10_make : Cond.instanceMethod yX10_make ∈ lw_good ∧ Cond.selects yX10_make.cls yX10_make yX10_make ∈ lw_good := ⟨good_in (List.mem_of_getElem? (i := 1320) (by decide +kernel)) rfl, good_in (List.mem_of_getElem? (i := 1321) (by decide +kernel)) rfl⟩
theorem lk_L_140 : lk_ok RL 140 yX10_make := Or.inl (good_in (List.mem_of_getElem? (i := 1319) (by decide +kernel)) rfl)
theorem mk_X9_buy : mk_ok yX9_buy cX9_buy 4 (some .int) 3 := ⟨good_in (List.mem_of_getElem? (i := 858) (by decide +kernel)) rfl, good_in (List.mem_of_getElem? (i := 79) (by decide +kernel)) rfl, by decide +kernel⟩
theorem iv_X9_buy : Cond.instanceMethod yX9_buy ∈ lw_good ∧ Cond.selects yX9_buy.cls yX9_buy yX9_buy ∈ lw_good := ⟨good_in (List.mem_of_getElem? (i := 856) (by decide +kernel)) rfl, good_in (List.mem_of_getElem? (i := 857) (by decide +kernel)) rfl⟩
theorem lk_L_141 : lk_ok RL 141 yX9_buy := Or.inl (good_in (List.mem_of_getElem? (i := 855) (by decide +kernel)) rfl)
theorem mk_X10_buy : mk_ok yX10_buy cX10_buy 9 (some .int) 3 := ⟨good_in (List.mem_of_getElem? (i := 1331) (by decide +kernel)) rfl, good_in (List.mem_of_getElem? (i := 89) (by decide +kernel)) rfl, by decide +kernel⟩
theorem iv_X10_buy : Cond.instanceMethod yX10_buy ∈ lw_good ∧ Cond.selects yX10_buy.cls yX10_buy yX10_buy ∈ lw_good := ⟨good_in (List.mem_of_getElem? (i := 1329) (by decide +kernel)) rfl, good_in (List.mem_of_getElem? (i := 1330) (by decide +kernel)) rfl⟩
theorem lk_L_144 : lk_ok RL 144 yX10_buy := Or.inl (good_in (List.mem_of_getElem? (i := 1328) (by decide +kernel)) rfl)
theorem mk_X9_question : mk_ok yX9_question cX9_question 6 (some .int) 4 := ⟨good_in (List.mem_of_getElem? (i := 871) (by decide +kernel)) rfl, good_in (List.mem_of_getElem? (i := 79) (by decide +kernel)) rfl, by decide +kernel⟩
theorem iv_X9_question : Cond.instanceMethod yX9_question ∈ lw_good ∧ Cond.selects yX9_question.cls yX9_question yX9_question ∈ lw_good := ⟨good_in (List.mem_of_getElem? (i := 869) (by decide +kernel)) rfl, good_in (List.mem_of_getElem? (i := 870) (by decide +kernel)) rfl⟩
theorem lk_L_145 : lk_ok RL 145 yX9_question := Or.inl (good_in (List.mem_of_getElem? (i := 868) (by decide +kernel)) rfl)
theorem mk_X10_question : mk_ok yX10_question cX10_question 5 (some .int) 4 := ⟨good_in (List.mem_of_getElem? (i := 1340) (by decide +kernel)) rfl, good_in (List.mem_of_getElem? (i := 89) (by decide +kernel)) rfl, by decide +kernel⟩
theorem iv_X10_question : Cond.instanceMethod yX10_question ∈ lw_good ∧ Cond.selects yX10_question.cls yX10_question yX10_question ∈ lw_good := ⟨good_in (List.mem_of_getElem? (i := 1338) (by decide +kernel)) rfl, good_in (List.mem_of_getElem? (i := 1339) (by decide +kernel)) rfl⟩
theorem lk_L_148 : lk_ok RL 148 yX10_question := Or.inl (good_in (List.mem_of_getElem? (i := 1337) (by decide +kernel)) rfl)
theorem mk_X9_pay : mk_ok yX9_pay cX9_pay 4 (some .int) 2 := ⟨good_in (List.mem_of_getElem? (i := 883) (by decide +kernel)) rfl, good_in (List.mem_of_getElem? (i := 79) (by decide +kernel)) rfl, by decide +kernel⟩
theorem iv_X9_pay : Cond.instanceMethod yX9_pay ∈ lw_good ∧ Cond.selects yX9_pay.cls yX9_pay yX9_pay ∈ lw_good := ⟨good_in (List.mem_of_getElem? (i := 881) (by decide +kernel)) rfl, good_in (List.mem_of_getElem? (i := 882) (by decide +kernel)) rfl⟩
theorem lk_L_149 : lk_ok RL 149 yX9_pay := Or.inl (good_in (List.mem_of_getElem? (i := 880) (by decide +kernel)) rfl)
theorem mk_X10_pay : mk_ok yX10_pay cX10_pay 3 (some .int) 2 := ⟨good_in (List.mem_of_getElem? (i := 1348) (by decide +kernel)) rfl, good_in (List.mem_of_getElem? (i := 89) (by decide +kernel)) rfl, by decide +kernel⟩
theorem iv_X10_pay : Cond.instanceMethod yX10_pay ∈ lw_good ∧ Cond.selects yX10_pay.cls yX10_pay yX10_pay ∈ lw_good := ⟨good_in (List.mem_of_getElem? (i := 1346) (by decide +kernel)) rfl, good_in (List.mem_of_getElem? (i := 1347) (by decide +kernel)) rfl⟩
theorem lk_L_152 : lk_ok RL 152 yX10_pay := Or.inl (good_in (List.mem_of_getElem? (i := 1345) (by decide +kernel)) rfl)
theorem mk_X9_which : mk_ok yX9_which cX9_which 3 (some .int) 0 := ⟨good_in (List.mem_of_getElem? (i := 891) (by decide +kernel)) rfl, good_in (List.mem_of_getElem? (i := 79) (by decide +kernel)) rfl, by decide +kernel⟩
theorem iv_X9_which : Cond.instanceMethod yX9_which ∈ lw_good ∧ Cond.selects yX9_which.cls yX9_which yX9_which ∈ lw_good := ⟨good_in (List.mem_of_getElem? (i := 889) (by decide +kernel)) rfl, good_in (List.mem_of_getElem? (i := 890) (by decide +kernel)) rfl⟩
theorem lk_L_153 : lk_ok RL 153 yX9_which := Or.inl (good_in (List.mem_of_getElem? (i := 888) (by decide +kernel)) rfl)
theorem mk_X10_which : mk_ok yX10_which cX10_which 5 (some .int) 0 := ⟨good_in (List.mem_of_getElem? (i := 1352) (by decide +kernel)) rfl, good_in (List.mem_of_getElem? (i := 89) (by decide +kernel)) rfl, by decide +kernel⟩
theorem iv_X10_which : Cond.instanceMethod yX10_which ∈ lw_good ∧ Cond.selects yX10_which.cls yX10_which yX10_which ∈ lw_good := ⟨good_in (List.mem_of_getElem? (i := 1350) (by decide +kernel)) rfl, good_in (List.mem_of_getElem? (i := 1351) (by decide +kernel)) rfl⟩
theorem lk_L_156 : lk_ok RL 156 yX10_which := Or.inl (good_in (List.mem_of_getElem? (i := 1349) (by decide +kernel)) rfl)
theorem mk_X9_warning : mk_ok yX9_warning cX9_warning 6 (some .int) 3 := ⟨good_in (List.mem_of_getElem? (i := 901) (by decide +kernel)) rfl, good_in (List.mem_of_getElem? (i := 79) (by decide +kernel)) rfl, by decide +kernel⟩
theorem iv_X9_warning : Cond.instanceMethod yX9_warning ∈ lw_good ∧ Cond.selects yX9_warning.cls yX9_warning yX9_warning ∈ lw_good := ⟨good_in (List.mem_of_getElem? (i := 899) (by decide +kernel)) rfl, good_in (List.mem_of_getElem? (i := 900) (by decide +kernel)) rfl⟩
theorem lk_L_157 : lk_ok RL 157 yX9_warning := Or.inl (good_in (List.mem_of_getElem? (i := 898) (by decide +kernel)) rfl)
theorem mk_X10_warning : mk_ok yX10_warning cX10_warning 5 (some .int) 3 := ⟨good_in (List.mem_of_getElem? (i := 1356) (by decide +kernel)) rfl, good_in (List.mem_of_getElem? (i := 89) (by decide +kernel)) rfl, by decide +kernel⟩
theorem iv_X10_warning : Cond.instanceMethod yX10_warning ∈ lw_good ∧ Cond.selects yX10_warning.cls yX10_warning yX10_warning ∈ lw_good := ⟨good_in (List.mem_of_getElem? (i := 1354) (by decide +kernel)) rfl, good_in (List.mem_of_getElem? (i := 1355) (by decide +kernel)) rfl⟩
theorem lk_L_160 : lk_ok RL 160 yX10_warning := Or.inl (good_in (List.mem_of_getElem? (i := 1353) (by decide +kernel)) rfl)
theorem mk_X9_count : mk_ok yX9_count cX9_count 2 (some .int) 1 := ⟨good_in (List.mem_of_getElem? (i := 906) (by decide +kernel)) rfl, good_in (List.mem_of_getElem? (i := 79) (by decide +kernel)) rfl, by decide +kernel⟩
theorem iv_X9_count : Cond.instanceMethod yX9_count ∈ lw_good ∧ Cond.selects yX9_count.cls yX9_count yX9_count ∈ lw_good := ⟨good_in (List.mem_of_getElem? (i := 904) (by decide +kernel)) rfl, good_in (List.mem_of_getElem? (i := 905) (by decide +kernel)) rfl⟩
theorem lk_L_161 : lk_ok RL 161 yX9_count := Or.inl (good_in (List.mem_of_getElem? (i := 903) (by decide +kernel)) rfl)
theorem mk_X10_count : mk_ok yX10_count cX10_count 2 (some .int) 1 := ⟨good_in (List.mem_of_getElem? (i := 1360) (by decide +kernel)) rfl, good_in (List.mem_of_getElem? (i := 89) (by decide +kernel)) rfl, by decide +kernel⟩
theorem iv_X10_count : Cond.instanceMethod yX10_count ∈ lw_good ∧ Cond.selects yX10_count.cls yX10_count yX10_count ∈ lw_good := ⟨good_in (List.mem_of_getElem? (i := 1358) (by decide +kernel)) rfl, good_in (List.mem_of_getElem? (i := 1359) (by decide +kernel)) rfl⟩
theorem lk_L_164 : lk_ok RL 164 yX10_count := Or.inl (good_in (List.mem_of_getElem? (i := 1357) (by decide +kernel)) rfl)
theorem mk_X10_view : mk_ok yX10_view cX10_view 4 (some .int) 2 := ⟨good_in (List.mem_of_getElem? (i := 1061) (by decide +kernel)) rfl, good_in (List.mem_of_getElem? (i := 89) (by decide +kernel)) rfl, by decide +kernel⟩
theorem iv_X10_view : Cond.instanceMethod yX10_view ∈ lw_good ∧ Cond.selects yX10_view.cls yX10_view yX10_view ∈ lw_good := ⟨good_in (List.mem_of_getElem? (i := 1059) (by decide +kernel)) rfl, good_in (List.mem_of_getElem? (i := 1060) (by decide +kernel)) rfl⟩
theorem lk_L_17 : lk_ok RL 17 yX10_view := Or.inl (good_in (List.mem_of_getElem? (i := 1058) (by decide +kernel)) rfl)
theorem mk_X9_fact : mk_ok yX9_fact cX9_fact 7 (some .int) 6 := ⟨good_in (List.mem_of_getElem? (i := 433) (by decide +kernel)) rfl, good_in (List.mem_of_getElem? (i := 79) (by decide +kernel)) rfl, by decide +kernel⟩
theorem iv_X9_fact : Cond.instanceMethod yX9_fact ∈ lw_good ∧ Cond.selects yX9_fact.cls yX9_fact yX9_fact ∈ lw_good := ⟨good_in (List.mem_of_getElem? (i := 431) (by decide +kernel)) rfl, good_in (List.mem_of_getElem? (i := 432) (by decide +kernel)) rfl⟩
theorem lk_L_18 : lk_ok RL 18 yX9_fact := Or.inl (good_in (List.mem_of_getElem? (i := 430) (by decide +kernel)) rfl)
theorem mk_X10_fact : mk_ok yX10_fact cX10_fact 7 (some .int) 6 := ⟨good_in (List.mem_of_getElem? (i := 1073) (by decide +kernel)) rfl, good_in (List.mem_of_getElem? (i := 89) (by decide +kernel)) rfl, by decide +kernel⟩
theorem iv_X10_fact : Cond.instanceMethod yX10_fact ∈ lw_good ∧ Cond.selects yX10_fact.cls yX10_fact yX10_fact ∈ lw_good := ⟨good_in (List.mem_of_getElem? (i := 1071) (by decide +kernel)) rfl, good_in (List.mem_of_getElem? (i := 1072) (by decide +kernel)) rfl⟩
theorem lk_L_22 : lk_ok RL 22 yX10_fact := Or.inl (good_in (List.mem_of_getElem? (i := 1070) (by decide +kernel)) rfl)
theorem mk_X9_world : mk_ok yX9_world cX9_world 5 (some .int) 3 := ⟨good_in (List.mem_of_getElem? (i := 444) (by decide +kernel)) rfl, good_in (List.mem_of_getElem? (i := 79) (by decide +kernel)) rfl, by decide +kernel⟩
theorem iv_X9_world : Cond.instanceMethod yX9_world ∈ lw_good ∧ Cond.selects yX9_world.cls yX9_world yX9_world ∈ lw_good := ⟨good_in (List.mem_of_getElem? (i := 442) (by decide +kernel)) rfl, good_in (List.mem_of_getElem? (i := 443) (by decide +kernel)) rfl⟩
theorem lk_L_23 : lk_ok RL 23 yX9_world := Or.inl (good_in (List.mem_of_getElem? (i := 441) (by decide +kernel)) rfl)
theorem mk_X10_world : mk_ok yX10_world cX10_world 4 (some .int) 3 := ⟨good_in (List.mem_of_getElem? (i := 1086) (by decide +kernel)) rfl, good_in (List.mem_of_getElem? (i := 89) (by decide +kernel)) rfl, by decide +kernel⟩
theorem iv_X10_world : Cond.instanceMethod yX10_world ∈ lw_good ∧ Cond.selects yX10_world.cls yX10_world yX10_world ∈ lw_good := ⟨good_in (List.mem_of_getElem? (i := 1084) (by decide +kernel)) rfl, good_in (List.mem_of_getElem? (i := 1085) (by decide +kernel)) rfl⟩
theorem lk_L_27 : lk_ok RL 27 yX10_world := Or.inl (good_in (List.mem_of_getElem? (i := 1083) (by decide +kernel)) rfl)
theorem mk_X9_home : mk_ok yX9_home cX9_home 4 (some .int) 2 := ⟨good_in (List.mem_of_getElem? (i := 471) (by decide +kernel)) rfl, good_in (List.mem_of_getElem? (i := 79) (by decide +kernel)) rfl, by decide +kernel⟩
theorem iv_X9_home : Cond.instanceMethod yX9_home ∈ lw_good ∧ Cond.selects yX9_home.cls yX9_home yX9_home ∈ lw_good := ⟨good_in (List.mem_of_getElem? (i := 469) (by decide +kernel)) rfl, good_in (List.mem_of_getElem? (i := 470) (by decide +kernel)) rfl⟩
theorem lk_L_28 : lk_ok RL 28 yX9_home := Or.inl (good_in (List.mem_of_getElem? (i := 468) (by decide +kernel)) rfl)
theorem mk_X10_home : mk_ok yX10_home cX10_home 4 (some .int) 2 := ⟨good_in (List.mem_of_getElem? (i := 1094) (by decide +kernel)) rfl, good_in (List.mem_of_getElem? (i := 89) (by decide +kernel)) rfl, by decide +kernel⟩
theorem iv_X10_home : Cond.instanceMethod yX10_home ∈ lw_good ∧ Cond.selects yX10_home.cls yX10_home yX10_home ∈ lw_good := ⟨good_in (List.mem_of_getElem? (i := 1092) (by decide +kernel)) rfl, good_in (List.mem_of_getElem? (i := 1093) (by decide +kernel)) rfl⟩
theorem lk_L_31 : lk_ok RL 31 yX10_home := Or.inl (good_in (List.mem_of_getElem? (i := 1091) (by decide +kernel)) rfl)
theorem mk_X9_write : mk_ok yX9_write cX9_write 4 (some .int) 2 := ⟨good_in (List.mem_of_getElem? (i := 475) (by decide +kernel)) rfl, good_in (List.mem_of_getElem? (i := 79) (by decide +kernel)) rfl, by decide +kernel⟩
theorem iv_X9_write : Cond.instanceMethod yX9_write ∈ lw_good ∧ Cond.selects yX9_write.cls yX9_write yX9_write ∈ lw_good := ⟨good_in (List.mem_of_getElem? (i := 473) (by decide +kernel)) rfl, good_in (List.mem_of_getElem? (i := 474) (by decide +kernel)) rfl⟩
theorem lk_L_34 : lk_ok RL 34 yX9_write := Or.inl (good_in (List.mem_of_getElem? (i := 472) (by decide +kernel)) rfl)
theorem mk_X10_write : mk_ok yX10_write cX10_write 5 (some .int) 2 := ⟨good_in (List.mem_of_getElem? (i := 1102) (by decide +kernel)) rfl, good_in (List.mem_of_getElem? (i := 89) (by decide +kernel)) rfl, by decide +kernel⟩
theorem iv_X10_write : Cond.instanceMethod yX10_write ∈ lw_good ∧ Cond.selects yX10_write.cls yX10_write yX10_write ∈ lw_good := ⟨good_in (List.mem_of_getElem? (i := 1100) (by decide +kernel)) rfl, good_in (List.mem_of_getElem? (i := 1101) (by decide +kernel)) rfl⟩
theorem lk_L_38 : lk_ok RL 38 yX10_write := Or.inl (good_in (List.mem_of_getElem? (i := 1099) (by decide +kernel)) rfl)
theorem mk_X9_erase : mk_ok yX9_erase cX9_erase 1 (some .int) 0 := ⟨good_in (List.mem_of_getElem? (i := 484) (by decide +kernel)) rfl, good_in (List.mem_of_getElem? (i := 79) (by decide +kernel)) rfl, by decide +kernel⟩
theorem iv_X9_erase : Cond.instanceMethod yX9_erase ∈ lw_good ∧ Cond.selects yX9_erase.cls yX9_erase yX9_erase ∈ lw_good := ⟨good_in (List.mem_of_getElem? (i := 482) (by decide +kernel)) rfl, good_in (List.mem_of_getElem? (i := 483) (by decide +kernel)) rfl⟩
theorem lk_L_39 : lk_ok RL 39 yX9_erase := Or.inl (good_in (List.mem_of_getElem? (i := 481) (by decide +kernel)) rfl)
theorem mk_X10_erase : mk_ok yX10_erase cX10_erase 2 (some .int) 0 := ⟨good_in (List.mem_of_getElem? (i := 1107) (by decide +kernel)) rfl, good_in (List.mem_of_getElem? (i := 89) (by decide +kernel)) rfl, by decide +kernel⟩
theorem iv_X10_erase : Cond.instanceMethod yX10_erase ∈ lw_good ∧ Cond.selects yX10_erase.cls yX10_erase yX10_erase ∈ lw_good := ⟨good_in (List.mem_of_getElem? (i := 1105) (by decide +kernel)) rfl, good_in (List.mem_of_getElem? (i := 1106) (by decide +kernel)) rfl⟩
theorem lk_L_43 : lk_ok RL 43 yX10_erase := Or.inl (good_in (List.mem_of_getElem? (i := 1104) (by decide +kernel)) rfl)
theorem mk_X9_fault : mk_ok yX9_fault cX9_fault 2 (some .int) 1 := ⟨good_in (List.mem_of_getElem? (i := 492) (by decide +kernel)) rfl, good_in (List.mem_of_getElem? (i := 79) (by decide +kernel)) rfl, by decide +kernel⟩
theorem iv_X9_fault : Cond.instanceMethod yX9_fault ∈ lw_good ∧ Cond.selects yX9_fault.cls yX9_fault yX9_fault ∈ lw_good := ⟨good_in (List.mem_of_getElem? (i := 490) (by decide +kernel)) rfl, good_in (List.mem_of_getElem? (i := 491) (by decide +kernel)) rfl⟩
theorem lk_L_44 : lk_ok RL 44 yX9_fault := Or.inl (good_in (List.mem_of_getElem? (i := 489) (by decide +kernel)) rfl)
theorem mk_X10_fault : mk_ok yX10_fault cX10_fault 2 (some .int) 1 := ⟨good_in (List.mem_of_getElem? (i := 1111) (by decide +kernel)) rfl, good_in (List.mem_of_getElem? (i := 89) (by decide +kernel)) rfl, by decide +kernel⟩
theorem iv_X10_fault : Cond.instanceMethod yX10_fault ∈ lw_good ∧ Cond.selects yX10_fault.cls yX10_fault yX10_fault ∈ lw_good := ⟨good_in (List.mem_of_getElem? (i := 1109) (by decide +kernel)) rfl, good_in (List.mem_of_getElem? (i := 1110) (by decide +kernel)) rfl⟩
theorem lk_L_48 : lk_ok RL 48 yX10_fault := Or.inl (good_in (List.mem_of_getElem? (i := 1108) (by decide +kernel)) rfl)
theorem mk_X9_life : mk_ok yX9_life cX9_life 2 (some .int) 1 := ⟨good_in (List.mem_of_getElem? (i := 588) (by decide +kernel)) rfl, good_in (List.mem_of_getElem? (i := 79) (by decide +kernel)) rfl, by decide +kernel⟩
theorem iv_X9_life : Cond.instanceMethod yX9_life ∈ lw_good ∧ Cond.selects yX9_life.cls yX9_life yX9_life ∈ lw_good := ⟨good_in (List.mem_of_getElem? (i := 586) (by decide +kernel)) rfl, good_in (List.mem_of_getElem? (i := 587) (by decide +kernel)) rfl⟩
theorem lk_L_49 : lk_ok RL 49 yX9_life := Or.inl (good_in (List.mem_of_getElem? (i := 585) (by decide +kernel)) rfl)
theorem mk_X10_life : mk_ok yX10_life cX10_life 3 (some .int) 1 := ⟨good_in (List.mem_of_getElem? (i := 1157) (by decide +kernel)) rfl, good_in (List.mem_of_getElem? (i := 89) (by decide +kernel)) rfl, by decide +kernel⟩
theorem iv_X10_life : Cond.instanceMethod yX10_life ∈ lw_good ∧ Cond.selects yX10_life.cls yX10_life yX10_life ∈ lw_good := ⟨good_in (List.mem_of_getElem? (i := 1155) (by decide +kernel)) rfl, good_in (List.mem_of_getElem? (i := 1156) (by decide +kernel)) rfl⟩
theorem lk_L_52 : lk_ok RL 52 yX10_life := Or.inl (good_in (List.mem_of_getElem? (i := 1154) (by decide +kernel)) rfl)
theorem mk_X9_table : mk_ok yX9_table cX9_table 2 (some .int) 1 := ⟨good_in (List.mem_of_getElem? (i := 596) (by decide +kernel)) rfl, good_in (List.mem_of_getElem? (i := 79) (by decide +kernel)) rfl, by decide +kernel⟩
theorem iv_X9_table : Cond.instanceMethod yX9_table ∈ lw_good ∧ Cond.selects yX9_table.cls yX9_table yX9_table ∈ lw_good := ⟨good_in (List.mem_of_getElem? (i := 594) (by decide +kernel)) rfl, good_in (List.mem_of_getElem? (i := 595) (by decide +kernel)) rfl⟩
theorem lk_L_53 : lk_ok RL 53 yX9_table := Or.inl (good_in (List.mem_of_getElem? (i := 593) (by decide +kernel)) rfl)
theorem mk_X10_table : mk_ok yX10_table cX10_table 3 (some .int) 1 := ⟨good_in (List.mem_of_getElem? (i := 1161) (by decide +kernel)) rfl, good_in (List.mem_of_getElem? (i := 89) (by decide +kernel)) rfl, by decide +kernel⟩
theorem iv_X10_table : Cond.instanceMethod yX10_table ∈ lw_good ∧ Cond.selects yX10_table.cls yX10_table yX10_table ∈ lw_good := ⟨good_in (List.mem_of_getElem? (i := 1159) (by decide +kernel)) rfl, good_in (List.mem_of_getElem? (i := 1160) (by decide +kernel)) rfl⟩
theorem lk_L_56 : lk_ok RL 56 yX10_table := Or.inl (good_in (List.mem_of_getElem? (i := 1158) (by decide +kernel)) rfl)
theorem mk_X9_where : mk_ok yX9_where cX9_where 4 (some .int) 2 := ⟨good_in (List.mem_of_getElem? (i := 607) (by decide +kernel)) rfl, good_in (List.mem_of_getElem? (i := 79) (by decide +kernel)) rfl, by decide +kernel⟩
theorem iv_X9_where : Cond.instanceMethod yX9_where ∈ lw_good ∧ Cond.selects yX9_where.cls yX9_where yX9_where ∈ lw_good := ⟨good_in (List.mem_of_getElem? (i := 605) (by decide +kernel)) rfl, good_in (List.mem_of_getElem? (i := 606) (by decide +kernel)) rfl⟩
theorem lk_L_57 : lk_ok RL 57 yX9_where := Or.inl (good_in (List.mem_of_getElem? (i := 604) (by decide +kernel)) rfl)
theorem mk_X10_where : mk_ok yX10_where cX10_where 3 (some .int) 2 := ⟨good_in (List.mem_of_getElem? (i := 1168) (by decide +kernel)) rfl, good_in (List.mem_of_getElem? (i := 89) (by decide +kernel)) rfl, by decide +kernel⟩
theorem iv_X10_where : Cond.instanceMethod yX10_where ∈ lw_good ∧ Cond.selects yX10_where.cls yX10_where yX10_where ∈ lw_good := ⟨good_in (List.mem_of_getElem? (i := 1166) (by decide +kernel)) rfl, good_in (List.mem_of_getElem? (i := 1167) (by decide +kernel)) rfl⟩
theorem lk_L_60 : lk_ok RL 60 yX10_where := Or.inl (good_in (List.mem_of_getElem? (i := 1165) (by decide +kernel)) rfl)
theorem mk_X9_saw : mk_ok yX9_saw cX9_saw 4 (some .int) 2 := ⟨good_in (List.mem_of_getElem? (i := 618) (by decide +kernel)) rfl, good_in (List.mem_of_getElem? (i := 79) (by decide +kernel)) rfl, by decide +kernel⟩
theorem iv_X9_saw : Cond.instanceMethod yX9_saw ∈ lw_good ∧ Cond.selects yX9_saw.cls yX9_saw yX9_saw ∈ lw_good := ⟨good_in (List.mem_of_getElem? (i := 616) (by decide +kernel)) rfl, good_in (List.mem_of_getElem? (i := 617) (by decide +kernel)) rfl⟩
theorem lk_L_61 : lk_ok RL 61 yX9_saw := Or.inl (good_in (List.mem_of_getElem? (i := 615) (by decide +kernel)) rfl)
theorem mk_X10_saw : mk_ok yX10_saw cX10_saw 3 (some .int) 2 := ⟨good_in (List.mem_of_getElem? (i := 1176) (by decide +kernel)) rfl, good_in (List.mem_of_getElem? (i := 89) (by decide +kernel)) rfl, by decide +kernel⟩
theorem iv_X10_saw : Cond.instanceMethod yX10_saw ∈ lw_good ∧ Cond.selects yX10_saw.cls yX10_saw yX10_saw ∈ lw_good := ⟨good_in (List.mem_of_getElem? (i := 1174) (by decide +kernel)) rfl, good_in (List.mem_of_getElem? (i := 1175) (by decide +kernel)) rfl⟩
theorem lk_L_64 : lk_ok RL 64 yX10_saw := Or.inl (good_in (List.mem_of_getElem? (i := 1173) (by decide +kernel)) rfl)
theorem mk_X9_post : mk_ok yX9_post cX9_post 4 (some .int) 2 := ⟨good_in (List.mem_of_getElem? (i := 627) (by decide +kernel)) rfl, good_in (List.mem_of_getElem? (i := 79) (by decide +kernel)) rfl, by decide +kernel⟩
theorem iv_X9_post : Cond.instanceMethod yX9_post ∈ lw_good ∧ Cond.selects yX9_post.cls yX9_post yX9_post ∈ lw_good := ⟨good_in (List.mem_of_getElem? (i := 625) (by decide +kernel)) rfl, good_in (List.mem_of_getElem? (i := 626) (by decide +kernel)) rfl⟩
theorem lk_L_65 : lk_ok RL 65 yX9_post := Or.inl (good_in (List.mem_of_getElem? (i := 624) (by decide +kernel)) rfl)
theorem mk_X10_post : mk_ok yX10_post cX10_post 4 (some .int) 2 := ⟨good_in (List.mem_of_getElem? (i := 1180) (by decide +kernel)) rfl, good_in (List.mem_of_getElem? (i := 89) (by decide +kernel)) rfl, by decide +kernel⟩
theorem iv_X10_post : Cond.instanceMethod yX10_post ∈ lw_good ∧ Cond.selects yX10_post.cls yX10_post yX10_post ∈ lw_good := ⟨good_in (List.mem_of_getElem? (i := 1178) (by decide +kernel)) rfl, good_in (List.mem_of_getElem? (i := 1179) (by decide +kernel)) rfl⟩
theorem lk_L_68 : lk_ok RL 68 yX10_post := Or.inl (good_in (List.mem_of_getElem? (i := 1177) (by decide +kernel)) rfl)
theorem mk_X9_send : mk_ok yX9_send cX9_send 9 (some .int) 7 := ⟨good_in (List.mem_of_getElem? (i := 631) (by decide +kernel)) rfl, good_in (List.mem_of_getElem? (i := 79) (by decide +kernel)) rfl, by decide +kernel⟩
theorem iv_X9_send : Cond.instanceMethod yX9_send ∈ lw_good ∧ Cond.selects yX9_send.cls yX9_send yX9_send ∈ lw_good := ⟨good_in (List.mem_of_getElem? (i := 629) (by decide +kernel)) rfl, good_in (List.mem_of_getElem? (i := 630) (by decide +kernel)) rfl⟩
theorem lk_L_69 : lk_ok RL 69 yX9_send := Or.inl (good_in (List.mem_of_getElem? (i := 628) (by decide +kernel)) rfl)
theorem mk_X10_send : mk_ok yX10_send cX10_send 9 (some .int) 7 := ⟨good_in (List.mem_of_getElem? (i := 1189) (by decide +kernel)) rfl, good_in (List.mem_of_getElem? (i := 89) (by decide +kernel)) rfl, by decide +kernel⟩
theorem iv_X10_send : Cond.instanceMethod yX10_send ∈ lw_good ∧ Cond.selects yX10_send.cls yX10_send yX10_send ∈ lw_good := ⟨good_in (List.mem_of_getElem? (i := 1187) (by decide +kernel)) rfl, good_in (List.mem_of_getElem? (i := 1188) (by decide +kernel)) rfl⟩
theorem lk_L_73 : lk_ok RL 73 yX10_send := Or.inl (good_in (List.mem_of_getElem? (i := 1186) (by decide +kernel)) rfl)
theorem mk_X9_right : mk_ok yX9_right cX9_right 2 (some .int) 1 := ⟨good_in (List.mem_of_getElem? (i := 642) (by decide +kernel)) rfl, good_in (List.mem_of_getElem? (i := 79) (by decide +kernel)) rfl, by decide +kernel⟩
theorem iv_X9_right : Cond.instanceMethod yX9_right ∈ lw_good ∧ Cond.selects yX9_right.cls yX9_right yX9_right ∈ lw_good := ⟨good_in (List.mem_of_getElem? (i := 640) (by decide +kernel)) rfl, good_in (List.mem_of_getElem? (i := 641) (by decide +kernel)) rfl⟩
theorem lk_L_74 : lk_ok RL 74 yX9_right := Or.inl (good_in (List.mem_of_getElem? (i := 639) (by decide +kernel)) rfl)
theorem mk_X10_right : mk_ok yX10_right cX10_right 2 (some .int) 1 := ⟨good_in (List.mem_of_getElem? (i := 1201) (by decide +kernel)) rfl, good_in (List.mem_of_getElem? (i := 89) (by decide +kernel)) rfl, by decide +kernel⟩
theorem iv_X10_right : Cond.instanceMethod yX10_right ∈ lw_good ∧ Cond.selects yX10_right.cls yX10_right yX10_right ∈ lw_good := ⟨good_in (List.mem_of_getElem? (i := 1199) (by decide +kernel)) rfl, good_in (List.mem_of_getElem? (i := 1200) (by decide +kernel)) rfl⟩
theorem lk_L_77 : lk_ok RL 77 yX10_right := Or.inl (good_in (List.mem_of_getElem? (i := 1198) (by decide +kernel)) rfl)
theorem mk_X9_comes : mk_ok yX9_comes cX9_comes 2 (some .int) 1 := ⟨good_in (List.mem_of_getElem? (i := 646) (by decide +kernel)) rfl, good_in (List.mem_of_getElem? (i := 79) (by decide +kernel)) rfl, by decide +kernel⟩
theorem iv_X9_comes : Cond.instanceMethod yX9_comes ∈ lw_good ∧ Cond.selects yX9_comes.cls yX9_comes yX9_comes ∈ lw_good := ⟨good_in (List.mem_of_getElem? (i := 644) (by decide +kernel)) rfl, good_in (List.mem_of_getElem? (i := 645) (by decide +kernel)) rfl⟩
theorem lk_L_78 : lk_ok RL 78 yX9_comes := Or.inl (good_in (List.mem_of_getElem? (i := 643) (by decide +kernel)) rfl)
theorem mk_X10_comes : mk_ok yX10_comes cX10_comes 2 (some .int) 1 := ⟨good_in (List.mem_of_getElem? (i := 1213) (by decide +kernel)) rfl, good_in (List.mem_of_getElem? (i := 89) (by decide +kernel)) rfl, by decide +kernel⟩
theorem iv_X10_comes : Cond.instanceMethod yX10_comes ∈ lw_good ∧ Cond.selects yX10_comes.cls yX10_comes yX10_comes ∈ lw_good := ⟨good_in (List.mem_of_getElem? (i := 1211) (by decide +kernel)) rfl, good_in (List.mem_of_getElem? (i := 1212) (by decide +kernel)) rfl⟩
theorem lk_L_81 : lk_ok RL 81 yX10_comes := Or.inl (good_in (List.mem_of_getElem? (i := 1210) (by decide +kernel)) rfl)
theorem mk_X9_slips : mk_ok yX9_slips cX9_slips 6 (some .int) 1 := ⟨good_in (List.mem_of_getElem? (i := 654) (by decide +kernel)) rfl, good_in (List.mem_of_getElem? (i := 79) (by decide +kernel)) rfl, by decide +kernel⟩
theorem iv_X9_slips : Cond.instanceMethod yX9_slips ∈ lw_good ∧ Cond.selects yX9_slips.cls yX9_slips yX9_slips ∈ lw_good := ⟨good_in (List.mem_of_getElem? (i := 652) (by decide +kernel)) rfl, good_in (List.mem_of_getElem? (i := 653) (by decide +kernel)) rfl⟩
theorem lk_L_82 : lk_ok RL 82 yX9_slips := Or.inl (good_in (List.mem_of_getElem? (i := 651) (by decide +kernel)) rfl)
theorem mk_X10_slips : mk_ok yX10_slips cX10_slips 5 (some .int) 1 := ⟨good_in (List.mem_of_getElem? (i := 1221) (by decide +kernel)) rfl, good_in (List.mem_of_getElem? (i := 89) (by decide +kernel)) rfl, by decide +kernel⟩
theorem iv_X10_slips : Cond.instanceMethod yX10_slips ∈ lw_good ∧ Cond.selects yX10_slips.cls yX10_slips yX10_slips ∈ lw_good := ⟨good_in (List.mem_of_getElem? (i := 1219) (by decide +kernel)) rfl, good_in (List.mem_of_getElem? (i := 1220) (by decide +kernel)) rfl⟩
theorem lk_L_85 : lk_ok RL 85 yX10_slips := Or.inl (good_in (List.mem_of_getElem? (i := 1218) (by decide +kernel)) rfl)
theorem mk_X9_lacks : mk_ok yX9_lacks cX9_lacks 6 (some .int) 2 := ⟨good_in (List.mem_of_getElem? (i := 667) (by decide +kernel)) rfl, good_in (List.mem_of_getElem? (i := 79) (by decide +kernel)) rfl, by decide +kernel⟩
theorem iv_X9_lacks : Cond.instanceMethod yX9_lacks ∈ lw_good ∧ Cond.selects yX9_lacks.cls yX9_lacks yX9_lacks ∈ lw_good := ⟨good_in (List.mem_of_getElem? (i := 665) (by decide +kernel)) rfl, good_in (List.mem_of_getElem? (i := 666) (by decide +kernel)) rfl⟩
theorem lk_L_86 : lk_ok RL 86 yX9_lacks := Or.inl (good_in (List.mem_of_getElem? (i := 664) (by decide +kernel)) rfl)
theorem mk_X10_lacks : mk_ok yX10_lacks cX10_lacks 5 (some .int) 2 := ⟨good_in (List.mem_of_getElem? (i := 1233) (by decide +kernel)) rfl, good_in (List.mem_of_getElem? (i := 89) (by decide +kernel)) rfl, by decide +kernel⟩
theorem iv_X10_lacks : Cond.instanceMethod yX10_lacks ∈ lw_good ∧ Cond.selects yX10_lacks.cls yX10_lacks yX10_lacks ∈ lw_good := ⟨good_in (List.mem_of_getElem? (i := 1231) (by decide +kernel)) rfl, good_in (List.mem_of_getElem? (i := 1232) (by decide +kernel)) rfl⟩
theorem lk_L_89 : lk_ok RL 89 yX10_lacks := Or.inl (good_in (List.mem_of_getElem? (i := 1230) (by decide +kernel)) rfl)
theorem mk_X9_ill : mk_ok yX9_ill cX9_ill 3 (some .int) 1 := ⟨good_in (List.mem_of_getElem? (i := 688) (by decide +kernel)) rfl, good_in (List.mem_of_getElem? (i := 79) (by decide +kernel)) rfl, by decide +kernel⟩
theorem iv_X9_ill : Cond.instanceMethod yX9_ill ∈ lw_good ∧ Cond.selects yX9_ill.cls yX9_ill yX9_ill ∈ lw_good := ⟨good_in (List.mem_of_getElem? (i := 686) (by decide +kernel)) rfl, good_in (List.mem_of_getElem? (i := 687) (by decide +kernel)) rfl⟩
theorem lk_L_90 : lk_ok RL 90 yX9_ill := Or.inl (good_in (List.mem_of_getElem? (i := 685) (by decide +kernel)) rfl)
theorem mk_X10_ill : mk_ok yX10_ill cX10_ill 4 (some .int) 1 := ⟨good_in (List.mem_of_getElem? (i := 1245) (by decide +kernel)) rfl, good_in (List.mem_of_getElem? (i := 89) (by decide +kernel)) rfl, by decide +kernel⟩
theorem iv_X10_ill : Cond.instanceMethod yX10_ill ∈ lw_good ∧ Cond.selects yX10_ill.cls yX10_ill yX10_ill ∈ lw_good := ⟨good_in (List.mem_of_getElem? (i := 1243) (by decide +kernel)) rfl, good_in (List.mem_of_getElem? (i := 1244) (by decide +kernel)) rfl⟩
theorem lk_L_93 : lk_ok RL 93 yX10_ill := Or.inl (good_in (List.mem_of_getElem? (i := 1242) (by decide +kernel)) rfl)
theorem mk_X9_eyes : mk_ok yX9_eyes cX9_eyes 5 (some .int) 4 := ⟨good_in (List.mem_of_getElem? (i := 696) (by decide +kernel)) rfl, good_in (List.mem_of_getElem? (i := 79) (by decide +kernel)) rfl, by decide +kernel⟩
theorem iv_X9_eyes : Cond.instanceMethod yX9_eyes ∈ lw_good ∧ Cond.selects yX9_eyes.cls yX9_eyes yX9_eyes ∈ lw_good := ⟨good_in (List.mem_of_getElem? (i := 694) (by decide +kernel)) rfl, good_in (List.mem_of_getElem? (i := 695) (by decide +kernel)) rfl⟩
theorem lk_L_94 : lk_ok RL 94 yX9_eyes := Or.inl (good_in (List.mem_of_getElem? (i := 693) (by decide +kernel)) rfl)
theorem mk_X10_eyes : mk_ok yX10_eyes cX10_eyes 6 (some .int) 4 := ⟨good_in (List.mem_of_getElem? (i := 1249) (by decide +kernel)) rfl, good_in (List.mem_of_getElem? (i := 89) (by decide +kernel)) rfl, by decide +kernel⟩
theorem iv_X10_eyes : Cond.instanceMethod yX10_eyes ∈ lw_good ∧ Cond.selects yX10_eyes.cls yX10_eyes yX10_eyes ∈ lw_good := ⟨good_in (List.mem_of_getElem? (i := 1247) (by decide +kernel)) rfl, good_in (List.mem_of_getElem? (i := 1248) (by decide +kernel)) rfl⟩
theorem lk_L_98 : lk_ok RL 98 yX10_eyes := Or.inl (good_in (List.mem_of_getElem? (i := 1246) (by decide +kernel)) rfl)
theorem mk_X9_told : mk_ok yX9_told cX9_told 3 (some .int) 2 := ⟨good_in (List.mem_of_getElem? (i := 704) (by decide +kernel)) rfl, good_in (List.mem_of_getElem? (i := 79) (by decide +kernel)) rfl, by decide +kernel⟩
theorem iv_X9_told : Cond.instanceMethod yX9_told ∈ lw_good ∧ Cond.selects yX9_told.cls yX9_told yX9_told ∈ lw_good := ⟨good_in (List.mem_of_getElem? (i := 702) (by decide +kernel)) rfl, good_in (List.mem_of_getElem? (i := 703) (by decide +kernel)) rfl⟩
theorem lk_L_99 : lk_ok RL 99 yX9_told := Or.inl (good_in (List.mem_of_getElem? (i := 701) (by decide +kernel)) rfl)
theorem mk_X10_in : mk_ok yX10_in cX10_in 6 (some .boolean) 3 := ⟨good_in (List.mem_of_getElem? (i := 1068) (by decide +kernel)) rfl, good_in (List.mem_of_getElem? (i := 89) (by decide +kernel)) rfl, by decide +kernel⟩
theorem is_X10_in : Cond.static yX10_in ∈ lw_good := good_in (List.mem_of_getElem? (i := 1067) (by decide +kernel)) rfl
theorem lk_X10_121 : lk_ok RX10 121 yX10_in := Or.inl (good_in (List.mem_of_getElem? (i := 1066) (by decide +kernel)) rfl)
theorem mk_X10_isPlace : mk_ok yX10_isPlace cX10_isPlace 1 (some .boolean) 1 := ⟨good_in (List.mem_of_getElem? (i := 1064) (by decide +kernel)) rfl, good_in (List.mem_of_getElem? (i := 89) (by decide +kernel)) rfl, by decide +kernel⟩
theorem is_X10_isPlace : Cond.static yX10_isPlace ∈ lw_good := good_in (List.mem_of_getElem? (i := 1063) (by decide +kernel)) rfl
theorem lk_X10_133 : lk_ok RX10 133 yX10_isPlace := Or.inl (good_in (List.mem_of_getElem? (i := 1062) (by decide +kernel)) rfl)
theorem mk_X10_isKind : mk_ok yX10_isKind cX10_isKind 1 (some .boolean) 1 := ⟨good_in (List.mem_of_getElem? (i := 1076) (by decide +kernel)) rfl, good_in (List.mem_of_getElem? (i := 89) (by decide +kernel)) rfl, by decide +kernel⟩
theorem is_X10_isKind : Cond.static yX10_isKind ∈ lw_good := good_in (List.mem_of_getElem? (i := 1075) (by decide +kernel)) rfl
theorem lk_X10_139 : lk_ok RX10 139 yX10_isKind := Or.inl (good_in (List.mem_of_getElem? (i := 1074) (by decide +kernel)) rfl)
theorem mk_X10_isDay : mk_ok yX10_isDay cX10_isDay 1 (some .boolean) 1 := ⟨good_in (List.mem_of_getElem? (i := 1080) (by decide +kernel)) rfl, good_in (List.mem_of_getElem? (i := 89) (by decide +kernel)) rfl, by decide +kernel⟩
theorem is_X10_isDay : Cond.static yX10_isDay ∈ lw_good := good_in (List.mem_of_getElem? (i := 1079) (by decide +kernel)) rfl
theorem lk_X10_142 : lk_ok RX10 142 yX10_isDay := Or.inl (good_in (List.mem_of_getElem? (i := 1078) (by decide +kernel)) rfl)
theorem mk_X10_worldOf : mk_ok yX10_worldOf cX10_worldOf 6 (some .int) 3 := ⟨good_in (List.mem_of_getElem? (i := 1090) (by decide +kernel)) rfl, good_in (List.mem_of_getElem? (i := 89) (by decide +kernel)) rfl, by decide +kernel⟩
theorem iv_X10_worldOf : Cond.instanceMethod yX10_worldOf ∈ lw_good ∧ Cond.selects yX10_worldOf.cls yX10_worldOf yX10_worldOf ∈ lw_good := ⟨good_in (List.mem_of_getElem? (i := 1089) (by decide +kernel)) rfl, good_in (List.mem_of_getElem? (i := 48) (by decide +kernel)) rfl⟩
theorem lk_X10_151 : lk_ok RX10 151 yX10_worldOf := Or.inl (good_in (List.mem_of_getElem? (i := 1087) (by decide +kernel)) rfl)
theorem mk_X10_isAgent : mk_ok yX10_isAgent cX10_isAgent 1 (some .boolean) 1 := ⟨good_in (List.mem_of_getElem? (i := 1097) (by decide +kernel)) rfl, good_in (List.mem_of_getElem? (i := 89) (by decide +kernel)) rfl, by decide +kernel⟩
theorem is_X10_isAgent : Cond.static yX10_isAgent ∈ lw_good := good_in (List.mem_of_getElem? (i := 1096) (by decide +kernel)) rfl
theorem lk_X10_155 : lk_ok RX10 155 yX10_isAgent := Or.inl (good_in (List.mem_of_getElem? (i := 1095) (by decide +kernel)) rfl)
theorem mk_X10_sort : mk_ok yX10_sort cX10_sort 1 (some .int) 1 := ⟨good_in (List.mem_of_getElem? (i := 1122) (by decide +kernel)) rfl, good_in (List.mem_of_getElem? (i := 89) (by decide +kernel)) rfl, by decide +kernel⟩
theorem is_X10_sort : Cond.static yX10_sort ∈ lw_good := good_in (List.mem_of_getElem? (i := 1121) (by decide +kernel)) rfl
theorem lk_X10_169 : lk_ok RX10 169 yX10_sort := Or.inl (good_in (List.mem_of_getElem? (i := 1120) (by decide +kernel)) rfl)
theorem mk_X10_isWord : mk_ok yX10_isWord cX10_isWord 5 (some .boolean) 2 := ⟨good_in (List.mem_of_getElem? (i := 1138) (by decide +kernel)) rfl, good_in (List.mem_of_getElem? (i := 89) (by decide +kernel)) rfl, by decide +kernel⟩
theorem iv_X10_isWord : Cond.instanceMethod yX10_isWord ∈ lw_good ∧ Cond.selects yX10_isWord.cls yX10_isWord yX10_isWord ∈ lw_good := ⟨good_in (List.mem_of_getElem? (i := 1137) (by decide +kernel)) rfl, good_in (List.mem_of_getElem? (i := 54) (by decide +kernel)) rfl⟩
theorem lk_X10_176 : lk_ok RX10 176 yX10_isWord := Or.inl (good_in (List.mem_of_getElem? (i := 1135) (by decide +kernel)) rfl)
theorem mk_X10_token : mk_ok yX10_token cX10_token 1 none 0 := ⟨good_in (List.mem_of_getElem? (i := 1119) (by decide +kernel)) rfl, good_in (List.mem_of_getElem? (i := 89) (by decide +kernel)) rfl, by decide +kernel⟩
theorem iv_X10_token : Cond.instanceMethod yX10_token ∈ lw_good ∧ Cond.selects yX10_token.cls yX10_token yX10_token ∈ lw_good := ⟨good_in (List.mem_of_getElem? (i := 1118) (by decide +kernel)) rfl, good_in (List.mem_of_getElem? (i := 50) (by decide +kernel)) rfl⟩
theorem lk_X10_180 : lk_ok RX10 180 yX10_token := Or.inl (good_in (List.mem_of_getElem? (i := 1116) (by decide +kernel)) rfl)
theorem mk_X10_skips : mk_ok yX10_skips cX10_skips 4 (some .boolean) 2 := ⟨good_in (List.mem_of_getElem? (i := 1134) (by decide +kernel)) rfl, good_in (List.mem_of_getElem? (i := 89) (by decide +kernel)) rfl, by decide +kernel⟩
theorem iv_X10_skips : Cond.instanceMethod yX10_skips ∈ lw_good ∧ Cond.selects yX10_skips.cls yX10_skips yX10_skips ∈ lw_good := ⟨good_in (List.mem_of_getElem? (i := 1133) (by decide +kernel)) rfl, good_in (List.mem_of_getElem? (i := 53) (by decide +kernel)) rfl⟩
theorem lk_X10_189 : lk_ok RX10 189 yX10_skips := Or.inl (good_in (List.mem_of_getElem? (i := 1131) (by decide +kernel)) rfl)
theorem mk_X10_skipsNumber : mk_ok yX10_skipsNumber cX10_skipsNumber 5 (some .boolean) 2 := ⟨good_in (List.mem_of_getElem? (i := 1142) (by decide +kernel)) rfl, good_in (List.mem_of_getElem? (i := 89) (by decide +kernel)) rfl, by decide +kernel⟩
theorem iv_X10_skipsNumber : Cond.instanceMethod yX10_skipsNumber ∈ lw_good ∧ Cond.selects yX10_skipsNumber.cls yX10_skipsNumber yX10_skipsNumber ∈ lw_good := ⟨good_in (List.mem_of_getElem? (i := 1141) (by decide +kernel)) rfl, good_in (List.mem_of_getElem? (i := 55) (by decide +kernel)) rfl⟩
theorem lk_X10_192 : lk_ok RX10 192 yX10_skipsNumber := Or.inl (good_in (List.mem_of_getElem? (i := 1139) (by decide +kernel)) rfl)
theorem mk_X10_readsLife : mk_ok yX10_readsLife cX10_readsLife 2 (some .boolean) 0 := ⟨good_in (List.mem_of_getElem? (i := 1130) (by decide +kernel)) rfl, good_in (List.mem_of_getElem? (i := 89) (by decide +kernel)) rfl, by decide +kernel⟩
theorem iv_X10_readsLife : Cond.instanceMethod yX10_readsLife ∈ lw_good ∧ Cond.selects yX10_readsLife.cls yX10_readsLife yX10_readsLife ∈ lw_good := ⟨good_in (List.mem_of_getElem? (i := 1129) (by decide +kernel)) rfl, good_in (List.mem_of_getElem? (i := 52) (by decide +kernel)) rfl⟩
theorem lk_X10_202 : lk_ok RX10 202 yX10_readsLife := Or.inl (good_in (List.mem_of_getElem? (i := 1127) (by decide +kernel)) rfl)
theorem mk_X10_readsTable : mk_ok yX10_readsTable cX10_readsTable 2 (some .boolean) 0 := ⟨good_in (List.mem_of_getElem? (i := 1147) (by decide +kernel)) rfl, good_in (List.mem_of_getElem? (i := 89) (by decide +kernel)) rfl, by decide +kernel⟩
theorem iv_X10_readsTable : Cond.instanceMethod yX10_readsTable ∈ lw_good ∧ Cond.selects yX10_readsTable.cls yX10_readsTable yX10_readsTable ∈ lw_good := ⟨good_in (List.mem_of_getElem? (i := 1146) (by decide +kernel)) rfl, good_in (List.mem_of_getElem? (i := 56) (by decide +kernel)) rfl⟩
theorem lk_X10_206 : lk_ok RX10 206 yX10_readsTable := Or.inl (good_in (List.mem_of_getElem? (i := 1144) (by decide +kernel)) rfl)
theorem mk_X10_readsOne : mk_ok yX10_readsOne cX10_readsOne 2 (some .boolean) 1 := ⟨good_in (List.mem_of_getElem? (i := 1126) (by decide +kernel)) rfl, good_in (List.mem_of_getElem? (i := 89) (by decide +kernel)) rfl, by decide +kernel⟩
theorem iv_X10_readsOne : Cond.instanceMethod yX10_readsOne ∈ lw_good ∧ Cond.selects yX10_readsOne.cls yX10_readsOne yX10_readsOne ∈ lw_good := ⟨good_in (List.mem_of_getElem? (i := 1125) (by decide +kernel)) rfl, good_in (List.mem_of_getElem? (i := 51) (by decide +kernel)) rfl⟩
theorem lk_X10_209 : lk_ok RX10 209 yX10_readsOne := Or.inl (good_in (List.mem_of_getElem? (i := 1123) (by decide +kernel)) rfl)
theorem mk_X10_faultAs : mk_ok yX10_faultAs cX10_faultAs 3 (some .int) 1 := ⟨good_in (List.mem_of_getElem? (i := 1115) (by decide +kernel)) rfl, good_in (List.mem_of_getElem? (i := 89) (by decide +kernel)) rfl, by decide +kernel⟩
theorem iv_X10_faultAs : Cond.instanceMethod yX10_faultAs ∈ lw_good ∧ Cond.selects yX10_faultAs.cls yX10_faultAs yX10_faultAs ∈ lw_good := ⟨good_in (List.mem_of_getElem? (i := 1114) (by decide +kernel)) rfl, good_in (List.mem_of_getElem? (i := 49) (by decide +kernel)) rfl⟩
theorem lk_X10_212 : lk_ok RX10 212 yX10_faultAs := Or.inl (good_in (List.mem_of_getElem? (i := 1112) (by decide +kernel)) rfl)
theorem mk_X10_isReader : mk_ok yX10_isReader cX10_isReader 1 (some .boolean) 1 := ⟨good_in (List.mem_of_getElem? (i := 1164) (by decide +kernel)) rfl, good_in (List.mem_of_getElem? (i := 89) (by decide +kernel)) rfl, by decide +kernel⟩
theorem is_X10_isReader : Cond.static yX10_isReader ∈ lw_good := good_in (List.mem_of_getElem? (i := 1163) (by decide +kernel)) rfl
theorem lk_X10_215 : lk_ok RX10 215 yX10_isReader := Or.inl (good_in (List.mem_of_getElem? (i := 1162) (by decide +kernel)) rfl)
theorem mk_X10_whereIs : mk_ok yX10_whereIs cX10_whereIs 5 (some .int) 2 := ⟨good_in (List.mem_of_getElem? (i := 1172) (by decide +kernel)) rfl, good_in (List.mem_of_getElem? (i := 89) (by decide +kernel)) rfl, by decide +kernel⟩
theorem iv_X10_whereIs : Cond.instanceMethod yX10_whereIs ∈ lw_good ∧ Cond.selects yX10_whereIs.cls yX10_whereIs yX10_whereIs ∈ lw_good := ⟨good_in (List.mem_of_getElem? (i := 1171) (by decide +kernel)) rfl, good_in (List.mem_of_getElem? (i := 57) (by decide +kernel)) rfl⟩
theorem lk_X10_218 : lk_ok RX10 218 yX10_whereIs := Or.inl (good_in (List.mem_of_getElem? (i := 1169) (by decide +kernel)) rfl)
theorem mk_X10_isWay : mk_ok yX10_isWay cX10_isWay 1 (some .boolean) 1 := ⟨good_in (List.mem_of_getElem? (i := 1183) (by decide +kernel)) rfl, good_in (List.mem_of_getElem? (i := 89) (by decide +kernel)) rfl, by decide +kernel⟩
theorem is_X10_isWay : Cond.static yX10_isWay ∈ lw_good := good_in (List.mem_of_getElem? (i := 1182) (by decide +kernel)) rfl
theorem lk_X10_222 : lk_ok RX10 222 yX10_isWay := Or.inl (good_in (List.mem_of_getElem? (i := 1181) (by decide +kernel)) rfl)
theorem mk_X10_refuses : mk_ok yX10_refuses cX10_refuses 8 (some .int) 7 := ⟨good_in (List.mem_of_getElem? (i := 1193) (by decide +kernel)) rfl, good_in (List.mem_of_getElem? (i := 89) (by decide +kernel)) rfl, by decide +kernel⟩
theorem iv_X10_refuses : Cond.instanceMethod yX10_refuses ∈ lw_good ∧ Cond.selects yX10_refuses.cls yX10_refuses yX10_refuses ∈ lw_good := ⟨good_in (List.mem_of_getElem? (i := 1192) (by decide +kernel)) rfl, good_in (List.mem_of_getElem? (i := 58) (by decide +kernel)) rfl⟩
theorem lk_X10_227 : lk_ok RX10 227 yX10_refuses := Or.inl (good_in (List.mem_of_getElem? (i := 1190) (by decide +kernel)) rfl)
theorem mk_X10_lay : mk_ok yX10_lay cX10_lay 9 none 8 := ⟨good_in (List.mem_of_getElem? (i := 1197) (by decide +kernel)) rfl, good_in (List.mem_of_getElem? (i := 89) (by decide +kernel)) rfl, by decide +kernel⟩
theorem iv_X10_lay : Cond.instanceMethod yX10_lay ∈ lw_good ∧ Cond.selects yX10_lay.cls yX10_lay yX10_lay ∈ lw_good := ⟨good_in (List.mem_of_getElem? (i := 1196) (by decide +kernel)) rfl, good_in (List.mem_of_getElem? (i := 59) (by decide +kernel)) rfl⟩
theorem lk_X10_234 : lk_ok RX10 234 yX10_lay := Or.inl (good_in (List.mem_of_getElem? (i := 1194) (by decide +kernel)) rfl)
theorem mk_X10_isLetter : mk_ok yX10_isLetter cX10_isLetter 2 (some .boolean) 1 := ⟨good_in (List.mem_of_getElem? (i := 1205) (by decide +kernel)) rfl, good_in (List.mem_of_getElem? (i := 89) (by decide +kernel)) rfl, by decide +kernel⟩
theorem iv_X10_isLetter : Cond.instanceMethod yX10_isLetter ∈ lw_good ∧ Cond.selects yX10_isLetter.cls yX10_isLetter yX10_isLetter ∈ lw_good := ⟨good_in (List.mem_of_getElem? (i := 1204) (by decide +kernel)) rfl, good_in (List.mem_of_getElem? (i := 60) (by decide +kernel)) rfl⟩
theorem lk_X10_238 : lk_ok RX10 238 yX10_isLetter := Or.inl (good_in (List.mem_of_getElem? (i := 1202) (by decide +kernel)) rfl)
theorem mk_X10_isRight : mk_ok yX10_isRight cX10_isRight 2 (some .boolean) 1 := ⟨good_in (List.mem_of_getElem? (i := 1209) (by decide +kernel)) rfl, good_in (List.mem_of_getElem? (i := 89) (by decide +kernel)) rfl, by decide +kernel⟩
theorem iv_X10_isRight : Cond.instanceMethod yX10_isRight ∈ lw_good ∧ Cond.selects yX10_isRight.cls yX10_isRight yX10_isRight ∈ lw_good := ⟨good_in (List.mem_of_getElem? (i := 1208) (by decide +kernel)) rfl, good_in (List.mem_of_getElem? (i := 61) (by decide +kernel)) rfl⟩
theorem lk_X10_241 : lk_ok RX10 241 yX10_isRight := Or.inl (good_in (List.mem_of_getElem? (i := 1206) (by decide +kernel)) rfl)
theorem mk_X10_comesOn : mk_ok yX10_comesOn cX10_comesOn 2 (some .int) 1 := ⟨good_in (List.mem_of_getElem? (i := 1217) (by decide +kernel)) rfl, good_in (List.mem_of_getElem? (i := 89) (by decide +kernel)) rfl, by decide +kernel⟩
theorem iv_X10_comesOn : Cond.instanceMethod yX10_comesOn ∈ lw_good ∧ Cond.selects yX10_comesOn.cls yX10_comesOn yX10_comesOn ∈ lw_good := ⟨good_in (List.mem_of_getElem? (i := 1216) (by decide +kernel)) rfl, good_in (List.mem_of_getElem? (i := 62) (by decide +kernel)) rfl⟩
theorem lk_X10_244 : lk_ok RX10 244 yX10_comesOn := Or.inl (good_in (List.mem_of_getElem? (i := 1214) (by decide +kernel)) rfl)
theorem mk_X10_sawPlace : mk_ok yX10_sawPlace cX10_sawPlace 4 (some .boolean) 3 := ⟨good_in (List.mem_of_getElem? (i := 1225) (by decide +kernel)) rfl, good_in (List.mem_of_getElem? (i := 89) (by decide +kernel)) rfl, by decide +kernel⟩
theorem iv_X10_sawPlace : Cond.instanceMethod yX10_sawPlace ∈ lw_good ∧ Cond.selects yX10_sawPlace.cls yX10_sawPlace yX10_sawPlace ∈ lw_good := ⟨good_in (List.mem_of_getElem? (i := 1224) (by decide +kernel)) rfl, good_in (List.mem_of_getElem? (i := 63) (by decide +kernel)) rfl⟩
theorem lk_X10_247 : lk_ok RX10 247 yX10_sawPlace := Or.inl (good_in (List.mem_of_getElem? (i := 1222) (by decide +kernel)) rfl)
theorem mk_X10_areOfOne : mk_ok yX10_areOfOne cX10_areOfOne 3 (some .boolean) 2 := ⟨good_in (List.mem_of_getElem? (i := 1229) (by decide +kernel)) rfl, good_in (List.mem_of_getElem? (i := 89) (by decide +kernel)) rfl, by decide +kernel⟩
theorem iv_X10_areOfOne : Cond.instanceMethod yX10_areOfOne ∈ lw_good ∧ Cond.selects yX10_areOfOne.cls yX10_areOfOne yX10_areOfOne ∈ lw_good := ⟨good_in (List.mem_of_getElem? (i := 1228) (by decide +kernel)) rfl, good_in (List.mem_of_getElem? (i := 64) (by decide +kernel)) rfl⟩
theorem lk_X10_251 : lk_ok RX10 251 yX10_areOfOne := Or.inl (good_in (List.mem_of_getElem? (i := 1226) (by decide +kernel)) rfl)
theorem mk_X10_sawFact : mk_ok yX10_sawFact cX10_sawFact 6 (some .boolean) 3 := ⟨good_in (List.mem_of_getElem? (i := 1237) (by decide +kernel)) rfl, good_in (List.mem_of_getElem? (i := 89) (by decide +kernel)) rfl, by decide +kernel⟩
theorem iv_X10_sawFact : Cond.instanceMethod yX10_sawFact ∈ lw_good ∧ Cond.selects yX10_sawFact.cls yX10_sawFact yX10_sawFact ∈ lw_good := ⟨good_in (List.mem_of_getElem? (i := 1236) (by decide +kernel)) rfl, good_in (List.mem_of_getElem? (i := 65) (by decide +kernel)) rfl⟩
theorem lk_X10_254 : lk_ok RX10 254 yX10_sawFact := Or.inl (good_in (List.mem_of_getElem? (i := 1234) (by decide +kernel)) rfl)
theorem mk_X10_toldFact : mk_ok yX10_toldFact cX10_toldFact 6 (some .boolean) 3 := ⟨good_in (List.mem_of_getElem? (i := 1241) (by decide +kernel)) rfl, good_in (List.mem_of_getElem? (i := 89) (by decide +kernel)) rfl, by decide +kernel⟩
theorem iv_X10_toldFact : Cond.instanceMethod yX10_toldFact ∈ lw_good ∧ Cond.selects yX10_toldFact.cls yX10_toldFact yX10_toldFact ∈ lw_good := ⟨good_in (List.mem_of_getElem? (i := 1240) (by decide +kernel)) rfl, good_in (List.mem_of_getElem? (i := 66) (by decide +kernel)) rfl⟩
theorem lk_X10_257 : lk_ok RX10 257 yX10_toldFact := Or.inl (good_in (List.mem_of_getElem? (i := 1238) (by decide +kernel)) rfl)
theorem mk_X10_isSent : mk_ok yX10_isSent cX10_isSent 2 (some .boolean) 1 := ⟨good_in (List.mem_of_getElem? (i := 1265) (by decide +kernel)) rfl, good_in (List.mem_of_getElem? (i := 89) (by decide +kernel)) rfl, by decide +kernel⟩
theorem iv_X10_isSent : Cond.instanceMethod yX10_isSent ∈ lw_good ∧ Cond.selects yX10_isSent.cls yX10_isSent yX10_isSent ∈ lw_good := ⟨good_in (List.mem_of_getElem? (i := 1264) (by decide +kernel)) rfl, good_in (List.mem_of_getElem? (i := 68) (by decide +kernel)) rfl⟩
theorem lk_X10_266 : lk_ok RX10 266 yX10_isSent := Or.inl (good_in (List.mem_of_getElem? (i := 1262) (by decide +kernel)) rfl)
theorem mk_X10_knows : mk_ok yX10_knows cX10_knows 7 (some .boolean) 4 := ⟨good_in (List.mem_of_getElem? (i := 1269) (by decide +kernel)) rfl, good_in (List.mem_of_getElem? (i := 89) (by decide +kernel)) rfl, by decide +kernel⟩
theorem iv_X10_knows : Cond.instanceMethod yX10_knows ∈ lw_good ∧ Cond.selects yX10_knows.cls yX10_knows yX10_knows ∈ lw_good := ⟨good_in (List.mem_of_getElem? (i := 1268) (by decide +kernel)) rfl, good_in (List.mem_of_getElem? (i := 69) (by decide +kernel)) rfl⟩
theorem lk_X10_269 : lk_ok RX10 269 yX10_knows := Or.inl (good_in (List.mem_of_getElem? (i := 1266) (by decide +kernel)) rfl)
theorem mk_X10_trustOf : mk_ok yX10_trustOf cX10_trustOf 8 (some .int) 3 := ⟨good_in (List.mem_of_getElem? (i := 1261) (by decide +kernel)) rfl, good_in (List.mem_of_getElem? (i := 89) (by decide +kernel)) rfl, by decide +kernel⟩
theorem iv_X10_trustOf : Cond.instanceMethod yX10_trustOf ∈ lw_good ∧ Cond.selects yX10_trustOf.cls yX10_trustOf yX10_trustOf ∈ lw_good := ⟨good_in (List.mem_of_getElem? (i := 1260) (by decide +kernel)) rfl, good_in (List.mem_of_getElem? (i := 67) (by decide +kernel)) rfl⟩
theorem lk_X10_273 : lk_ok RX10 273 yX10_trustOf := Or.inl (good_in (List.mem_of_getElem? (i := 1258) (by decide +kernel)) rfl)
theorem mk_X10_tellers : mk_ok yX10_tellers cX10_tellers 9 (some .int) 5 := ⟨good_in (List.mem_of_getElem? (i := 1281) (by decide +kernel)) rfl, good_in (List.mem_of_getElem? (i := 89) (by decide +kernel)) rfl, by decide +kernel⟩
theorem iv_X10_tellers : Cond.instanceMethod yX10_tellers ∈ lw_good ∧ Cond.selects yX10_tellers.cls yX10_tellers yX10_tellers ∈ lw_good := ⟨good_in (List.mem_of_getElem? (i := 1280) (by decide +kernel)) rfl, good_in (List.mem_of_getElem? (i := 71) (by decide +kernel)) rfl⟩
theorem lk_X10_276 : lk_ok RX10 276 yX10_tellers := Or.inl (good_in (List.mem_of_getElem? (i := 1278) (by decide +kernel)) rfl)
theorem mk_X10_weightOf : mk_ok yX10_weightOf cX10_weightOf 7 (some .int) 3 := ⟨good_in (List.mem_of_getElem? (i := 1285) (by decide +kernel)) rfl, good_in (List.mem_of_getElem? (i := 89) (by decide +kernel)) rfl, by decide +kernel⟩
theorem iv_X10_weightOf : Cond.instanceMethod yX10_weightOf ∈ lw_good ∧ Cond.selects yX10_weightOf.cls yX10_weightOf yX10_weightOf ∈ lw_good := ⟨good_in (List.mem_of_getElem? (i := 1284) (by decide +kernel)) rfl, good_in (List.mem_of_getElem? (i := 72) (by decide +kernel)) rfl⟩
theorem lk_X10_280 : lk_ok RX10 280 yX10_weightOf := Or.inl (good_in (List.mem_of_getElem? (i := 1282) (by decide +kernel)) rfl)
theorem mk_X10_concludes : mk_ok yX10_concludes cX10_concludes 11 (some .int) 5 := ⟨good_in (List.mem_of_getElem? (i := 1277) (by decide +kernel)) rfl, good_in (List.mem_of_getElem? (i := 89) (by decide +kernel)) rfl, by decide +kernel⟩
theorem iv_X10_concludes : Cond.instanceMethod yX10_concludes ∈ lw_good ∧ Cond.selects yX10_concludes.cls yX10_concludes yX10_concludes ∈ lw_good := ⟨good_in (List.mem_of_getElem? (i := 1276) (by decide +kernel)) rfl, good_in (List.mem_of_getElem? (i := 70) (by decide +kernel)) rfl⟩
theorem lk_X10_283 : lk_ok RX10 283 yX10_concludes := Or.inl (good_in (List.mem_of_getElem? (i := 1274) (by decide +kernel)) rfl)
theorem mk_X10_heldOn : mk_ok yX10_heldOn cX10_heldOn 5 (some .int) 2 := ⟨good_in (List.mem_of_getElem? (i := 1301) (by decide +kernel)) rfl, good_in (List.mem_of_getElem? (i := 89) (by decide +kernel)) rfl, by decide +kernel⟩
theorem iv_X10_heldOn : Cond.instanceMethod yX10_heldOn ∈ lw_good ∧ Cond.selects yX10_heldOn.cls yX10_heldOn yX10_heldOn ∈ lw_good := ⟨good_in (List.mem_of_getElem? (i := 1300) (by decide +kernel)) rfl, good_in (List.mem_of_getElem? (i := 73) (by decide +kernel)) rfl⟩
theorem lk_X10_289 : lk_ok RX10 289 yX10_heldOn := Or.inl (good_in (List.mem_of_getElem? (i := 1298) (by decide +kernel)) rfl)
theorem mk_X10_isHeld : mk_ok yX10_isHeld cX10_isHeld 3 (some .boolean) 2 := ⟨good_in (List.mem_of_getElem? (i := 1309) (by decide +kernel)) rfl, good_in (List.mem_of_getElem? (i := 89) (by decide +kernel)) rfl, by decide +kernel⟩
theorem iv_X10_isHeld : Cond.instanceMethod yX10_isHeld ∈ lw_good ∧ Cond.selects yX10_isHeld.cls yX10_isHeld yX10_isHeld ∈ lw_good := ⟨good_in (List.mem_of_getElem? (i := 1308) (by decide +kernel)) rfl, good_in (List.mem_of_getElem? (i := 74) (by decide +kernel)) rfl⟩
theorem lk_X10_292 : lk_ok RX10 292 yX10_isHeld := Or.inl (good_in (List.mem_of_getElem? (i := 1306) (by decide +kernel)) rfl)
theorem mk_X10_riskOf : mk_ok yX10_riskOf cX10_riskOf 4 (some .int) 1 := ⟨good_in (List.mem_of_getElem? (i := 1327) (by decide +kernel)) rfl, good_in (List.mem_of_getElem? (i := 89) (by decide +kernel)) rfl, by decide +kernel⟩
theorem iv_X10_riskOf : Cond.instanceMethod yX10_riskOf ∈ lw_good ∧ Cond.selects yX10_riskOf.cls yX10_riskOf yX10_riskOf ∈ lw_good := ⟨good_in (List.mem_of_getElem? (i := 1326) (by decide +kernel)) rfl, good_in (List.mem_of_getElem? (i := 75) (by decide +kernel)) rfl⟩
theorem lk_X10_298 : lk_ok RX10 298 yX10_riskOf := Or.inl (good_in (List.mem_of_getElem? (i := 1324) (by decide +kernel)) rfl)
theorem mk_X10_costOf : mk_ok yX10_costOf cX10_costOf 4 (some .int) 1 := ⟨good_in (List.mem_of_getElem? (i := 1336) (by decide +kernel)) rfl, good_in (List.mem_of_getElem? (i := 89) (by decide +kernel)) rfl, by decide +kernel⟩
theorem iv_X10_costOf : Cond.instanceMethod yX10_costOf ∈ lw_good ∧ Cond.selects yX10_costOf.cls yX10_costOf yX10_costOf ∈ lw_good := ⟨good_in (List.mem_of_getElem? (i := 1335) (by decide +kernel)) rfl, good_in (List.mem_of_getElem? (i := 76) (by decide +kernel)) rfl⟩
theorem lk_X10_303 : lk_ok RX10 303 yX10_costOf := Or.inl (good_in (List.mem_of_getElem? (i := 1333) (by decide +kernel)) rfl)
theorem mk_X10_sign : mk_ok yX10_sign cX10_sign 5 (some .int) 4 := ⟨good_in (List.mem_of_getElem? (i := 1344) (by decide +kernel)) rfl, good_in (List.mem_of_getElem? (i := 89) (by decide +kernel)) rfl, by decide +kernel⟩
theorem iv_X10_sign : Cond.instanceMethod yX10_sign ∈ lw_good ∧ Cond.selects yX10_sign.cls yX10_sign yX10_sign ∈ lw_good := ⟨good_in (List.mem_of_getElem? (i := 1343) (by decide +kernel)) rfl, good_in (List.mem_of_getElem? (i := 77) (by decide +kernel)) rfl⟩
theorem lk_X10_309 : lk_ok RX10 309 yX10_sign := Or.inl (good_in (List.mem_of_getElem? (i := 1341) (by decide +kernel)) rfl)
theorem mk_J0_coder_7d493 : mk_ok yJ0_coder_7d493 cJ0_coder_7d493 1 (some .byte) 0 := ⟨good_in (List.mem_of_getElem? (i := 523) (by decide +kernel)) rfl, good_in (List.mem_of_getElem? (i := 90) (by decide +kernel)) rfl, by decide +kernel⟩
theorem iv_J0_coder_7d493 : Cond.instanceMethod yJ0_coder_7d493 ∈ lw_good ∧ Cond.selects yJ0_coder_7d493.cls yJ0_coder_7d493 yJ0_coder_7d493 ∈ lw_good := ⟨good_in (List.mem_of_getElem? (i := 521) (by decide +kernel)) rfl, good_in (List.mem_of_getElem? (i := 522) (by decide +kernel)) rfl⟩
theorem lk_J0_335 : lk_ok RJ0 335 yJ0_coder_7d493 := Or.inl (good_in (List.mem_of_getElem? (i := 520) (by decide +kernel)) rfl)
theorem mk_J0_isLatin1_aae02 : mk_ok yJ0_isLatin1_aae02 cJ0_isLatin1_aae02 1 (some .boolean) 0 := ⟨good_in (List.mem_of_getElem? (i := 533) (by decide +kernel)) rfl, good_in (List.mem_of_getElem? (i := 90) (by decide +kernel)) rfl, by decide +kernel⟩
theorem iv_J0_isLatin1_aae02 : Cond.instanceMethod yJ0_isLatin1_aae02 ∈ lw_good ∧ Cond.selects yJ0_isLatin1_aae02.cls yJ0_isLatin1_aae02 yJ0_isLatin1_aae02 ∈ lw_good := ⟨good_in (List.mem_of_getElem? (i := 531) (by decide +kernel)) rfl, good_in (List.mem_of_getElem? (i := 532) (by decide +kernel)) rfl⟩
theorem lk_J0_492 : lk_ok RJ0 492 yJ0_isLatin1_aae02 := Or.inl (good_in (List.mem_of_getElem? (i := 530) (by decide +kernel)) rfl)
theorem mk_J1_charAt_3b067 : mk_ok yJ1_charAt_3b067 cJ1_charAt_3b067 2 (some .char) 2 := ⟨good_in (List.mem_of_getElem? (i := 536) (by decide +kernel)) rfl, good_in (List.mem_of_getElem? (i := 91) (by decide +kernel)) rfl, by decide +kernel⟩
theorem is_J1_charAt_3b067 : Cond.static yJ1_charAt_3b067 ∈ lw_good := good_in (List.mem_of_getElem? (i := 535) (by decide +kernel)) rfl
theorem lk_J0_495 : lk_ok RJ0 495 yJ1_charAt_3b067 := Or.inl (good_in (List.mem_of_getElem? (i := 534) (by decide +kernel)) rfl)
theorem mk_J0_checkIndex_df160 : mk_ok yJ0_checkIndex_df160 cJ0_checkIndex_df160 2 none 2 := ⟨good_in (List.mem_of_getElem? (i := 539) (by decide +kernel)) rfl, good_in (List.mem_of_getElem? (i := 90) (by decide +kernel)) rfl, by decide +kernel⟩
theorem is_J0_checkIndex_df160 : Cond.static yJ0_checkIndex_df160 ∈ lw_good := good_in (List.mem_of_getElem? (i := 538) (by decide +kernel)) rfl
theorem lk_J1_9 : lk_ok RJ1 9 yJ0_checkIndex_df160 := Or.inl (good_in (List.mem_of_getElem? (i := 537) (by decide +kernel)) rfl)
theorem mk_J3_checkIndex_8e157 : mk_ok yJ3_checkIndex_8e157 cJ3_checkIndex_8e157 3 (some .int) 3 := ⟨good_in (List.mem_of_getElem? (i := 544) (by decide +kernel)) rfl, good_in (List.mem_of_getElem? (i := 92) (by decide +kernel)) rfl, by decide +kernel⟩
theorem is_J3_checkIndex_8e157 : Cond.static yJ3_checkIndex_8e157 ∈ lw_good := good_in (List.mem_of_getElem? (i := 543) (by decide +kernel)) rfl
theorem lk_J0_1059 : lk_ok RJ0 1059 yJ3_checkIndex_8e157 := Or.inl (good_in (List.mem_of_getElem? (i := 542) (by decide +kernel)) rfl)
theorem kc_X10_195 : Cond.constant RX10 195 441926 ∈ lw_good := good_in (List.mem_of_getElem? (i := 1143) (by decide +kernel)) rfl
theorem kc_X10_196 : Cond.constant RX10 196 14982306 ∈ lw_good := good_in (List.mem_of_getElem? (i := 1148) (by decide +kernel)) rfl
theorem kc_X10_197 : Cond.constant RX10 197 21241138 ∈ lw_good := good_in (List.mem_of_getElem? (i := 1149) (by decide +kernel)) rfl
theorem kc_X10_198 : Cond.constant RX10 198 7814743 ∈ lw_good := good_in (List.mem_of_getElem? (i := 1150) (by decide +kernel)) rfl
theorem kc_X10_199 : Cond.constant RX10 199 184364 ∈ lw_good := good_in (List.mem_of_getElem? (i := 1151) (by decide +kernel)) rfl
theorem kc_X10_200 : Cond.constant RX10 200 5612929 ∈ lw_good := good_in (List.mem_of_getElem? (i := 1152) (by decide +kernel)) rfl
theorem kc_X10_201 : Cond.constant RX10 201 136366 ∈ lw_good := good_in (List.mem_of_getElem? (i := 1153) (by decide +kernel)) rfl
theorem kc_X10_297 : Cond.constant RX10 297 268435456 ∈ lw_good := good_in (List.mem_of_getElem? (i := 1323) (by decide +kernel)) rfl
theorem kc_J6_265 : Cond.constant RJ6 265 1431655765 ∈ lw_good := good_in (List.mem_of_getElem? (i := 767) (by decide +kernel)) rfl
theorem kc_J6_266 : Cond.constant RJ6 266 858993459 ∈ lw_good := good_in (List.mem_of_getElem? (i := 768) (by decide +kernel)) rfl
theorem kc_J6_267 : Cond.constant RJ6 267 252645135 ∈ lw_good := good_in (List.mem_of_getElem? (i := 769) (by decide +kernel)) rfl
theorem kc_X7_37 : Cond.constantLong RX7 37 255 ∈ lw_good := good_in (List.mem_of_getElem? (i := 480) (by decide +kernel)) rfl
theorem kc_L_32 : Cond.constantLong RL 32 4294967295 ∈ lw_good := good_in (List.mem_of_getElem? (i := 1361) (by decide +kernel)) rfl
theorem kc_X10_119 : Cond.constantLong RX10 119 7 ∈ lw_good := good_in (List.mem_of_getElem? (i := 1065) (by decide +kernel)) rfl
theorem kc_X10_125 : Cond.constantLong RX10 125 3 ∈ lw_good := good_in (List.mem_of_getElem? (i := 1077) (by decide +kernel)) rfl
theorem kc_X10_127 : Cond.constantLong RX10 127 60 ∈ lw_good := good_in (List.mem_of_getElem? (i := 1081) (by decide +kernel)) rfl
theorem kc_X10_129 : Cond.constantLong RX10 129 5 ∈ lw_good := good_in (List.mem_of_getElem? (i := 1098) (by decide +kernel)) rfl
theorem kc_X10_131 : Cond.constantLong RX10 131 2 ∈ lw_good := good_in (List.mem_of_getElem? (i := 1184) (by decide +kernel)) rfl
theorem kc_X10_137 : Cond.constantLong RX10 137 255 ∈ lw_good := good_in (List.mem_of_getElem? (i := 1069) (by decide +kernel)) rfl
theorem kc_X10_145 : Cond.constantLong RX10 145 9 ∈ lw_good := good_in (List.mem_of_getElem? (i := 1082) (by decide +kernel)) rfl
theorem kc_X10_158 : Cond.constantLong RX10 158 8 ∈ lw_good := good_in (List.mem_of_getElem? (i := 1103) (by decide +kernel)) rfl
theorem kc_X10_225 : Cond.constantLong RX10 225 20 ∈ lw_good := good_in (List.mem_of_getElem? (i := 1185) (by decide +kernel)) rfl
theorem kc_X10_295 : Cond.constantLong RX10 295 99 ∈ lw_good := good_in (List.mem_of_getElem? (i := 1318) (by decide +kernel)) rfl
theorem kc_X10_301 : Cond.constantLong RX10 301 100 ∈ lw_good := good_in (List.mem_of_getElem? (i := 1332) (by decide +kernel)) rfl
