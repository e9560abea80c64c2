set_option maxRecDepth 16384 in
theorem fw_code87 : (Jvm.Cond.code (⟨"OneManDesk$Scales", "conclude", "(LOneManDesk$Reader;II)I"⟩ : Jvm.MethodName) prog_6_method_9_code 4 (some .int)).before start1.args0 fs_about = true := su_hand_word (m := ⟨5, 8⟩) (by decide +kernel) rfl (by decide +kernel) (by decide +kernel)
set_option maxRecDepth 16384 in
theorem fw_code88 : (Jvm.Cond.code (⟨"OneManDesk$Scales", "judge", "(LOneManDesk$Reader;II)I"⟩ : Jvm.MethodName) prog_6_method_10_code 4 (some .int)).before start1.args0 fs_about = true := su_hand_word (m := ⟨5, 9⟩) (by decide +kernel) rfl (by decide +kernel) (by decide +kernel)
set_option maxRecDepth 16384 in
theorem fw_code89 : (Jvm.Cond.code (⟨"OneManDesk$Scales", "gather", "(II)V"⟩ : Jvm.MethodName) prog_6_method_6_code 4 none).before start1.args0 fs_about = true := su_hand_word (m := ⟨5, 5⟩) (by decide +kernel) rfl (by decide +kernel) (by decide +kernel)
set_option maxRecDepth 16384 in
theorem fw_code90 : (Jvm.Cond.code (⟨"OneManDesk$Scales", "heaviest", "(LOneManDesk$Reader;)I"⟩ : Jvm.MethodName) prog_6_method_8_code 6 (some .int)).before start1.args0 fs_about = true := su_hand_word (m := ⟨5, 7⟩) (by decide +kernel) rfl (by decide +kernel) (by decide +kernel)
set_option maxRecDepth 16384 in
theorem fw_code91 : (Jvm.Cond.code (⟨"OneManDesk$Scales", "weigh", "(LOneManDesk$Reader;I)I"⟩ : Jvm.MethodName) prog_6_method_7_code 5 (some .int)).before start1.args0 fs_about = true := su_hand_word (m := ⟨5, 6⟩) (by decide +kernel) rfl (by decide +kernel) (by decide +kernel)
set_option maxRecDepth 16384 in
theorem fw_code92 : (Jvm.Cond.code (⟨"java/lang/Integer", "bitCount", "(I)I"⟩ : Jvm.MethodName) prog_14_method_49_code 1 (some .int)).before start1.args0 fs_about = true := su_hand_word (m := ⟨19, 0⟩) (by decide +kernel) rfl (by decide +kernel) (by decide +kernel)
set_option maxRecDepth 16384 in
theorem fw_code93 : (Jvm.Cond.code (⟨"OneManDesk", "weight", "(IIIIII)I"⟩ : Jvm.MethodName) prog_1_method_24_code 8 (some .int)).before start1.args0 fs_about = true := su_hand_word (m := ⟨2, 23⟩) (by decide +kernel) rfl (by decide +kernel) (by decide +kernel)
set_option maxRecDepth 16384 in
theorem fw_code94 : (Jvm.Cond.code (⟨"OneManDesk", "story", "(IIII)I"⟩ : Jvm.MethodName) prog_1_method_25_code 6 (some .int)).before start1.args0 fs_about = true := su_hand_word (m := ⟨2, 24⟩) (by decide +kernel) rfl (by decide +kernel) (by decide +kernel)
set_option maxRecDepth 16384 in
theorem fw_code95 : (Jvm.Cond.code (⟨"OneManDesk$Story", "add", "(II)I"⟩ : Jvm.MethodName) prog_8_method_2_code 3 (some .int)).before start1.args0 fs_about = true := su_hand_word (m := ⟨9, 1⟩) (by decide +kernel) rfl (by decide +kernel) (by decide +kernel)
set_option maxRecDepth 16384 in
theorem fw_code96 : (Jvm.Cond.code (⟨"OneManDesk", "holds", "(II)I"⟩ : Jvm.MethodName) prog_1_method_26_code 4 (some .int)).before start1.args0 fs_about = true := su_hand_word (m := ⟨2, 25⟩) (by decide +kernel) rfl (by decide +kernel) (by decide +kernel)
set_option maxRecDepth 16384 in
theorem fw_code97 : (Jvm.Cond.code (⟨"OneManDesk$Scales", "heldLines", "(LOneManDesk$Reader;LOneManDesk$Story;I)I"⟩ : Jvm.MethodName) prog_6_method_11_code 6 (some .int)).before start1.args0 fs_about = true := su_hand_word (m := ⟨5, 10⟩) (by decide +kernel) rfl (by decide +kernel) (by decide +kernel)
set_option maxRecDepth 16384 in
theorem fw_code98 : (Jvm.Cond.code (⟨"OneManDesk", "keeps", "(II)I"⟩ : Jvm.MethodName) prog_1_method_27_code 5 (some .int)).before start1.args0 fs_about = true := su_hand_word (m := ⟨2, 26⟩) (by decide +kernel) rfl (by decide +kernel) (by decide +kernel)
set_option maxRecDepth 16384 in
theorem fw_code99 : (Jvm.Cond.code (⟨"OneManDesk$Story", "allLines", "()I"⟩ : Jvm.MethodName) prog_8_method_3_code 1 (some .int)).before start1.args0 fs_about = true := su_hand_word (m := ⟨9, 2⟩) (by decide +kernel) rfl (by decide +kernel) (by decide +kernel)
set_option maxRecDepth 16384 in
theorem fw_code100 : (Jvm.Cond.code (⟨"OneManDesk", "draft", "(IIIIIII)I"⟩ : Jvm.MethodName) prog_1_method_28_code 9 (some .int)).before start1.args0 fs_about = true := su_hand_word (m := ⟨2, 27⟩) (by decide +kernel) rfl (by decide +kernel) (by decide +kernel)
set_option maxRecDepth 16384 in
theorem fw_code101 : (Jvm.Cond.code (⟨"OneManDesk", "mark", "(III)I"⟩ : Jvm.MethodName) prog_1_method_29_code 6 (some .int)).before start1.args0 fs_about = true := su_hand_word (m := ⟨2, 28⟩) (by decide +kernel) rfl (by decide +kernel) (by decide +kernel)
set_option maxRecDepth 16384 in
theorem fw_code102 : (Jvm.Cond.code (⟨"OneManDesk", "make", "(I)I"⟩ : Jvm.MethodName) prog_1_method_30_code 2 (some .int)).before start1.args0 fs_about = true := su_hand_word (m := ⟨2, 29⟩) (by decide +kernel) rfl (by decide +kernel) (by decide +kernel)
set_option maxRecDepth 16384 in
theorem fw_code103 : (Jvm.Cond.code (⟨"OneManDesk$Plan", "leastRisk", "(LOneManDesk$Reader;LOneManDesk$Story;I)I"⟩ : Jvm.MethodName) prog_4_method_2_code 9 (some .int)).before start1.args0 fs_about = true := su_hand_word (m := ⟨10, 1⟩) (by decide +kernel) rfl (by decide +kernel) (by decide +kernel)
set_option maxRecDepth 16384 in
theorem fw_code104 : (Jvm.Cond.code (⟨"OneManDesk$Plan", "opensLines", "(LOneManDesk$Reader;LOneManDesk$Story;I)Z"⟩ : Jvm.MethodName) prog_4_method_4_code 5 (some .boolean)).before start1.args0 fs_about = true := su_hand_word (m := ⟨10, 3⟩) (by decide +kernel) rfl (by decide +kernel) (by decide +kernel)
set_option maxRecDepth 16384 in
theorem fw_code105 : (Jvm.Cond.code (⟨"OneManDesk$Plan", "sumLetters", "(LOneManDesk$Reader;I)V"⟩ : Jvm.MethodName) prog_4_method_5_code 4 none).before start1.args0 fs_about = true := su_hand_word (m := ⟨10, 4⟩) (by decide +kernel) rfl (by decide +kernel) (by decide +kernel)
set_option maxRecDepth 16384 in
theorem fw_code106 : (Jvm.Cond.code (⟨"OneManDesk$Plan", "gatherLines", "(LOneManDesk$Story;I)V"⟩ : Jvm.MethodName) prog_4_method_6_code 4 none).before start1.args0 fs_about = true := su_hand_word (m := ⟨10, 5⟩) (by decide +kernel) rfl (by decide +kernel) (by decide +kernel)
set_option maxRecDepth 16384 in
theorem fw_code107 : (Jvm.Cond.code (⟨"OneManDesk$Plan", "usefulForStory", "(LOneManDesk$Story;I)I"⟩ : Jvm.MethodName) prog_4_method_7_code 6 (some .int)).before start1.args0 fs_about = true := su_hand_word (m := ⟨10, 6⟩) (by decide +kernel) rfl (by decide +kernel) (by decide +kernel)
set_option maxRecDepth 16384 in
theorem fw_code108 : (Jvm.Cond.code (⟨"OneManDesk$Plan", "addUp", "([II)I"⟩ : Jvm.MethodName) prog_4_method_9_code 5 (some .int)).before start1.args0 fs_about = true := su_hand_word (m := ⟨10, 8⟩) (by decide +kernel) rfl (by decide +kernel) (by decide +kernel)
set_option maxRecDepth 16384 in
theorem fw_code109 : (Jvm.Cond.code (⟨"OneManDesk$Plan", "holdsWith", "(ILOneManDesk$Reader;LOneManDesk$Story;)Z"⟩ : Jvm.MethodName) prog_4_method_10_code 5 (some .boolean)).before start1.args0 fs_about = true := su_hand_word (m := ⟨10, 9⟩) (by decide +kernel) rfl (by decide +kernel) (by decide +kernel)
set_option maxRecDepth 16384 in
theorem fw_code110 : (Jvm.Cond.code (⟨"OneManDesk$Plan", "gatherWith", "(II)V"⟩ : Jvm.MethodName) prog_4_method_11_code 4 none).before start1.args0 fs_about = true := su_hand_word (m := ⟨10, 10⟩) (by decide +kernel) rfl (by decide +kernel) (by decide +kernel)
set_option maxRecDepth 16384 in
theorem fw_code111 : (Jvm.Cond.code (⟨"OneManDesk", "buy", "(III)I"⟩ : Jvm.MethodName) prog_1_method_31_code 4 (some .int)).before start1.args0 fs_about = true := su_hand_word (m := ⟨2, 30⟩) (by decide +kernel) rfl (by decide +kernel) (by decide +kernel)
set_option maxRecDepth 16384 in
theorem fw_code112 : (Jvm.Cond.code (⟨"OneManDesk$Plan", "leastCost", "(LOneManDesk$Reader;III)I"⟩ : Jvm.MethodName) prog_4_method_3_code 10 (some .int)).before start1.args0 fs_about = true := su_hand_word (m := ⟨10, 2⟩) (by decide +kernel) rfl (by decide +kernel) (by decide +kernel)
set_option maxRecDepth 16384 in
theorem fw_code113 : (Jvm.Cond.code (⟨"OneManDesk$Plan", "usefulForTrust", "(I)I"⟩ : Jvm.MethodName) prog_4_method_8_code 4 (some .int)).before start1.args0 fs_about = true := su_hand_word (m := ⟨10, 7⟩) (by decide +kernel) rfl (by decide +kernel) (by decide +kernel)
set_option maxRecDepth 16384 in
theorem fw_code114 : (Jvm.Cond.code (⟨"OneManDesk", "question", "(IIII)I"⟩ : Jvm.MethodName) prog_1_method_32_code 6 (some .int)).before start1.args0 fs_about = true := su_hand_word (m := ⟨2, 31⟩) (by decide +kernel) rfl (by decide +kernel) (by decide +kernel)
set_option maxRecDepth 16384 in
theorem fw_code115 : (Jvm.Cond.code (⟨"OneManDesk$Signs", "addQuestion", "(II)I"⟩ : Jvm.MethodName) prog_7_method_2_code 3 (some .int)).before start1.args0 fs_about = true := su_hand_word (m := ⟨11, 1⟩) (by decide +kernel) rfl (by decide +kernel) (by decide +kernel)
set_option maxRecDepth 16384 in
theorem fw_code116 : (Jvm.Cond.code (⟨"OneManDesk$Signs", "add", "(III)I"⟩ : Jvm.MethodName) prog_7_method_4_code 4 (some .int)).before start1.args0 fs_about = true := su_hand_word (m := ⟨11, 3⟩) (by decide +kernel) rfl (by decide +kernel) (by decide +kernel)
set_option maxRecDepth 16384 in
theorem fw_code117 : (Jvm.Cond.code (⟨"OneManDesk", "pay", "(II)I"⟩ : Jvm.MethodName) prog_1_method_33_code 4 (some .int)).before start1.args0 fs_about = true := su_hand_word (m := ⟨2, 32⟩) (by decide +kernel) rfl (by decide +kernel) (by decide +kernel)
set_option maxRecDepth 16384 in
theorem fw_code118 : (Jvm.Cond.code (⟨"OneManDesk$Signs", "addPay", "(II)I"⟩ : Jvm.MethodName) prog_7_method_3_code 3 (some .int)).before start1.args0 fs_about = true := su_hand_word (m := ⟨11, 2⟩) (by decide +kernel) rfl (by decide +kernel) (by decide +kernel)
set_option maxRecDepth 16384 in
theorem fw_code119 : (Jvm.Cond.code (⟨"OneManDesk", "which", "()I"⟩ : Jvm.MethodName) prog_1_method_34_code 3 (some .int)).before start1.args0 fs_about = true := su_hand_word (m := ⟨2, 33⟩) (by decide +kernel) rfl (by decide +kernel) (by decide +kernel)
set_option maxRecDepth 16384 in
theorem fw_code120 : (Jvm.Cond.code (⟨"OneManDesk$Signs", "fit", "(LOneManDesk$Reader;LOneManDesk$Scales;)Z"⟩ : Jvm.MethodName) prog_7_method_5_code 5 (some .boolean)).before start1.args0 fs_about = true := su_hand_word (m := ⟨11, 4⟩) (by decide +kernel) rfl (by decide +kernel) (by decide +kernel)
set_option maxRecDepth 16384 in
theorem fw_code121 : (Jvm.Cond.code (⟨"OneManDesk", "warning", "(III)I"⟩ : Jvm.MethodName) prog_1_method_35_code 6 (some .int)).before start1.args0 fs_about = true := su_hand_word (m := ⟨2, 34⟩) (by decide +kernel) rfl (by decide +kernel) (by decide +kernel)
set_option maxRecDepth 16384 in
theorem fw_code122 : (Jvm.Cond.code (⟨"OneManDesk", "count", "(I)I"⟩ : Jvm.MethodName) prog_1_method_36_code 2 (some .int)).before start1.args0 fs_about = true := su_hand_word (m := ⟨2, 35⟩) (by decide +kernel) rfl (by decide +kernel) (by decide +kernel)
set_option maxRecDepth 16384 in
theorem fw_code123 : (Jvm.Cond.code (⟨"OneManDeskModel", "<init>", "()V"⟩ : Jvm.MethodName) prog_12_method_1_code 1 none).before start1.args0 fs_about = true := su_hand_word (m := ⟨12, 0⟩) (by decide +kernel) rfl (by decide +kernel) (by decide +kernel)
set_option maxRecDepth 16384 in
theorem fw_code124 : (Jvm.Cond.code (⟨"OneManDeskModel", "view", "(II)I"⟩ : Jvm.MethodName) prog_12_method_9_code 4 (some .int)).before start1.args0 fs_about = true := su_hand_word (m := ⟨12, 8⟩) (by decide +kernel) rfl (by decide +kernel) (by decide +kernel)
set_option maxRecDepth 16384 in
theorem fw_code125 : (Jvm.Cond.code (⟨"OneManDeskModel", "isPlace", "(I)Z"⟩ : Jvm.MethodName) prog_12_method_3_code 1 (some .boolean)).before start1.args0 fs_about = true := su_hand_word (m := ⟨12, 2⟩) (by decide +kernel) rfl (by decide +kernel) (by decide +kernel)
set_option maxRecDepth 16384 in
theorem fw_code126 : (Jvm.Cond.code (⟨"OneManDeskModel", "in", "(JJJ)Z"⟩ : Jvm.MethodName) prog_12_method_2_code 6 (some .boolean)).before start1.args0 fs_about = true := su_hand_word (m := ⟨12, 1⟩) (by decide +kernel) rfl (by decide +kernel) (by decide +kernel)
set_option maxRecDepth 16384 in
theorem fw_code127 : (Jvm.Cond.code (⟨"OneManDeskModel", "fact", "(IIIIIZ)I"⟩ : Jvm.MethodName) prog_12_method_10_code 7 (some .int)).before start1.args0 fs_about = true := su_hand_word (m := ⟨12, 9⟩) (by decide +kernel) rfl (by decide +kernel) (by decide +kernel)
set_option maxRecDepth 16384 in
theorem fw_code128 : (Jvm.Cond.code (⟨"OneManDeskModel", "isKind", "(I)Z"⟩ : Jvm.MethodName) prog_12_method_4_code 1 (some .boolean)).before start1.args0 fs_about = true := su_hand_word (m := ⟨12, 3⟩) (by decide +kernel) rfl (by decide +kernel) (by decide +kernel)
set_option maxRecDepth 16384 in
theorem fw_code129 : (Jvm.Cond.code (⟨"OneManDeskModel", "isDay", "(I)Z"⟩ : Jvm.MethodName) prog_12_method_5_code 1 (some .boolean)).before start1.args0 fs_about = true := su_hand_word (m := ⟨12, 4⟩) (by decide +kernel) rfl (by decide +kernel) (by decide +kernel)
set_option maxRecDepth 16384 in
theorem fw_code130 : (Jvm.Cond.code (⟨"OneManDeskModel", "world", "(III)I"⟩ : Jvm.MethodName) prog_12_method_12_code 4 (some .int)).before start1.args0 fs_about = true := su_hand_word (m := ⟨12, 11⟩) (by decide +kernel) rfl (by decide +kernel) (by decide +kernel)
set_option maxRecDepth 16384 in
theorem fw_code131 : (Jvm.Cond.code (⟨"OneManDeskModel", "worldOf", "(III)I"⟩ : Jvm.MethodName) prog_12_method_11_code 6 (some .int)).before start1.args0 fs_about = true := su_hand_word (m := ⟨12, 10⟩) (by decide +kernel) rfl (by decide +kernel) (by decide +kernel)
set_option maxRecDepth 16384 in
theorem fw_code132 : (Jvm.Cond.code (⟨"OneManDeskModel", "home", "(II)I"⟩ : Jvm.MethodName) prog_12_method_13_code 4 (some .int)).before start1.args0 fs_about = true := su_hand_word (m := ⟨12, 12⟩) (by decide +kernel) rfl (by decide +kernel) (by decide +kernel)
set_option maxRecDepth 16384 in
theorem fw_code133 : (Jvm.Cond.code (⟨"OneManDeskModel", "isAgent", "(I)Z"⟩ : Jvm.MethodName) prog_12_method_6_code 1 (some .boolean)).before start1.args0 fs_about = true := su_hand_word (m := ⟨12, 5⟩) (by decide +kernel) rfl (by decide +kernel) (by decide +kernel)
set_option maxRecDepth 16384 in
theorem fw_code134 : (Jvm.Cond.code (⟨"OneManDeskModel", "write", "(JI)I"⟩ : Jvm.MethodName) prog_12_method_14_code 5 (some .int)).before start1.args0 fs_about = true := su_hand_word (m := ⟨12, 13⟩) (by decide +kernel) rfl (by decide +kernel) (by decide +kernel)
set_option maxRecDepth 16384 in
theorem fw_code135 : (Jvm.Cond.code (⟨"OneManDeskModel", "erase", "()I"⟩ : Jvm.MethodName) prog_12_method_15_code 2 (some .int)).before start1.args0 fs_about = true := su_hand_word (m := ⟨12, 14⟩) (by decide +kernel) rfl (by decide +kernel) (by decide +kernel)
set_option maxRecDepth 16384 in
theorem fw_code136 : (Jvm.Cond.code (⟨"OneManDeskModel", "fault", "(I)I"⟩ : Jvm.MethodName) prog_12_method_25_code 2 (some .int)).before start1.args0 fs_about = true := su_hand_word (m := ⟨12, 24⟩) (by decide +kernel) rfl (by decide +kernel) (by decide +kernel)
set_option maxRecDepth 16384 in
theorem fw_code137 : (Jvm.Cond.code (⟨"OneManDeskModel", "faultAs", "(I)I"⟩ : Jvm.MethodName) prog_12_method_24_code 3 (some .int)).before start1.args0 fs_about = true := su_hand_word (m := ⟨12, 23⟩) (by decide +kernel) rfl (by decide +kernel) (by decide +kernel)
set_option maxRecDepth 16384 in
theorem fw_code138 : (Jvm.Cond.code (⟨"OneManDeskModel", "token", "()V"⟩ : Jvm.MethodName) prog_12_method_17_code 1 none).before start1.args0 fs_about = true := su_hand_word (m := ⟨12, 16⟩) (by decide +kernel) rfl (by decide +kernel) (by decide +kernel)
set_option maxRecDepth 16384 in
theorem fw_code139 : (Jvm.Cond.code (⟨"OneManDeskModel", "sort", "(I)I"⟩ : Jvm.MethodName) prog_12_method_16_code 1 (some .int)).before start1.args0 fs_about = true := su_hand_word (m := ⟨12, 15⟩) (by decide +kernel) rfl (by decide +kernel) (by decide +kernel)
set_option maxRecDepth 16384 in
theorem fw_code140 : (Jvm.Cond.code (⟨"OneManDeskModel", "readsOne", "(I)Z"⟩ : Jvm.MethodName) prog_12_method_23_code 2 (some .boolean)).before start1.args0 fs_about = true := su_hand_word (m := ⟨12, 22⟩) (by decide +kernel) rfl (by decide +kernel) (by decide +kernel)
set_option maxRecDepth 16384 in
theorem fw_code141 : (Jvm.Cond.code (⟨"OneManDeskModel", "readsLife", "()Z"⟩ : Jvm.MethodName) prog_12_method_21_code 2 (some .boolean)).before start1.args0 fs_about = true := su_hand_word (m := ⟨12, 20⟩) (by decide +kernel) rfl (by decide +kernel) (by decide +kernel)
set_option maxRecDepth 16384 in
theorem fw_code142 : (Jvm.Cond.code (⟨"OneManDeskModel", "skips", "(II)Z"⟩ : Jvm.MethodName) prog_12_method_19_code 4 (some .boolean)).before start1.args0 fs_about = true := su_hand_word (m := ⟨12, 18⟩) (by decide +kernel) rfl (by decide +kernel) (by decide +kernel)
set_option maxRecDepth 16384 in
theorem fw_code143 : (Jvm.Cond.code (⟨"OneManDeskModel", "isWord", "(II)Z"⟩ : Jvm.MethodName) prog_12_method_18_code 5 (some .boolean)).before start1.args0 fs_about = true := su_hand_word (m := ⟨12, 17⟩) (by decide +kernel) rfl (by decide +kernel) (by decide +kernel)
set_option maxRecDepth 16384 in
theorem fw_code144 : (Jvm.Cond.code (⟨"OneManDeskModel", "skipsNumber", "(II)Z"⟩ : Jvm.MethodName) prog_12_method_20_code 5 (some .boolean)).before start1.args0 fs_about = true := su_hand_word (m := ⟨12, 19⟩) (by decide +kernel) rfl (by decide +kernel) (by decide +kernel)
set_option maxRecDepth 16384 in
theorem fw_code145 : (Jvm.Cond.code (⟨"OneManDeskModel", "readsTable", "()Z"⟩ : Jvm.MethodName) prog_12_method_22_code 2 (some .boolean)).before start1.args0 fs_about = true := su_hand_word (m := ⟨12, 21⟩) (by decide +kernel) rfl (by decide +kernel) (by decide +kernel)
set_option maxRecDepth 16384 in
theorem fw_code146 : (Jvm.Cond.code (⟨"OneManDeskModel", "life", "(I)I"⟩ : Jvm.MethodName) prog_12_method_26_code 3 (some .int)).before start1.args0 fs_about = true := su_hand_word (m := ⟨12, 25⟩) (by decide +kernel) rfl (by decide +kernel) (by decide +kernel)
set_option maxRecDepth 16384 in
theorem fw_code147 : (Jvm.Cond.code (⟨"OneManDeskModel", "table", "(I)I"⟩ : Jvm.MethodName) prog_12_method_27_code 3 (some .int)).before start1.args0 fs_about = true := su_hand_word (m := ⟨12, 26⟩) (by decide +kernel) rfl (by decide +kernel) (by decide +kernel)
set_option maxRecDepth 16384 in
theorem fw_code148 : (Jvm.Cond.code (⟨"OneManDeskModel", "isReader", "(I)Z"⟩ : Jvm.MethodName) prog_12_method_7_code 1 (some .boolean)).before start1.args0 fs_about = true := su_hand_word (m := ⟨12, 6⟩) (by decide +kernel) rfl (by decide +kernel) (by decide +kernel)
set_option maxRecDepth 16384 in
theorem fw_code149 : (Jvm.Cond.code (⟨"OneManDeskModel", "where", "(II)I"⟩ : Jvm.MethodName) prog_12_method_29_code 3 (some .int)).before start1.args0 fs_about = true := su_hand_word (m := ⟨12, 28⟩) (by decide +kernel) rfl (by decide +kernel) (by decide +kernel)
set_option maxRecDepth 16384 in
theorem fw_code150 : (Jvm.Cond.code (⟨"OneManDeskModel", "whereIs", "(II)I"⟩ : Jvm.MethodName) prog_12_method_28_code 5 (some .int)).before start1.args0 fs_about = true := su_hand_word (m := ⟨12, 27⟩) (by decide +kernel) rfl (by decide +kernel) (by decide +kernel)
set_option maxRecDepth 16384 in
theorem fw_code151 : (Jvm.Cond.code (⟨"OneManDeskModel", "saw", "(II)I"⟩ : Jvm.MethodName) prog_12_method_31_code 3 (some .int)).before start1.args0 fs_about = true := su_hand_word (m := ⟨12, 30⟩) (by decide +kernel) rfl (by decide +kernel) (by decide +kernel)
set_option maxRecDepth 16384 in
theorem fw_code152 : (Jvm.Cond.code (⟨"OneManDeskModel", "post", "(II)I"⟩ : Jvm.MethodName) prog_12_method_32_code 4 (some .int)).before start1.args0 fs_about = true := su_hand_word (m := ⟨12, 31⟩) (by decide +kernel) rfl (by decide +kernel) (by decide +kernel)
set_option maxRecDepth 16384 in
theorem fw_code153 : (Jvm.Cond.code (⟨"OneManDeskModel", "isWay", "(I)Z"⟩ : Jvm.MethodName) prog_12_method_8_code 1 (some .boolean)).before start1.args0 fs_about = true := su_hand_word (m := ⟨12, 7⟩) (by decide +kernel) rfl (by decide +kernel) (by decide +kernel)
set_option maxRecDepth 16384 in
theorem fw_code154 : (Jvm.Cond.code (⟨"OneManDeskModel", "send", "(IIIIIII)I"⟩ : Jvm.MethodName) prog_12_method_35_code 9 (some .int)).before start1.args0 fs_about = true := su_hand_word (m := ⟨12, 34⟩) (by decide +kernel) rfl (by decide +kernel) (by decide +kernel)
set_option maxRecDepth 16384 in
theorem fw_code155 : (Jvm.Cond.code (⟨"OneManDeskModel", "refuses", "(IIIIIII)I"⟩ : Jvm.MethodName) prog_12_method_33_code 8 (some .int)).before start1.args0 fs_about = true := su_hand_word (m := ⟨12, 32⟩) (by decide +kernel) rfl (by decide +kernel) (by decide +kernel)
set_option maxRecDepth 16384 in
theorem fw_code156 : (Jvm.Cond.code (⟨"OneManDeskModel", "lay", "(IIIIIIII)V"⟩ : Jvm.MethodName) prog_12_method_34_code 9 none).before start1.args0 fs_about = true := su_hand_word (m := ⟨12, 33⟩) (by decide +kernel) rfl (by decide +kernel) (by decide +kernel)
set_option maxRecDepth 16384 in
theorem fw_code157 : (Jvm.Cond.code (⟨"OneManDeskModel", "right", "(I)I"⟩ : Jvm.MethodName) prog_12_method_39_code 2 (some .int)).before start1.args0 fs_about = true := su_hand_word (m := ⟨12, 38⟩) (by decide +kernel) rfl (by decide +kernel) (by decide +kernel)
set_option maxRecDepth 16384 in
theorem fw_code158 : (Jvm.Cond.code (⟨"OneManDeskModel", "isLetter", "(I)Z"⟩ : Jvm.MethodName) prog_12_method_36_code 2 (some .boolean)).before start1.args0 fs_about = true := su_hand_word (m := ⟨12, 35⟩) (by decide +kernel) rfl (by decide +kernel) (by decide +kernel)
set_option maxRecDepth 16384 in
theorem fw_code159 : (Jvm.Cond.code (⟨"OneManDeskModel", "isRight", "(I)Z"⟩ : Jvm.MethodName) prog_12_method_37_code 2 (some .boolean)).before start1.args0 fs_about = true := su_hand_word (m := ⟨12, 36⟩) (by decide +kernel) rfl (by decide +kernel) (by decide +kernel)
set_option maxRecDepth 16384 in
theorem fw_code160 : (Jvm.Cond.code (⟨"OneManDeskModel", "comes", "(I)I"⟩ : Jvm.MethodName) prog_12_method_40_code 2 (some .int)).before start1.args0 fs_about = true := su_hand_word (m := ⟨12, 39⟩) (by decide +kernel) rfl (by decide +kernel) (by decide +kernel)
set_option maxRecDepth 16384 in
theorem fw_code161 : (Jvm.Cond.code (⟨"OneManDeskModel", "comesOn", "(I)I"⟩ : Jvm.MethodName) prog_12_method_38_code 2 (some .int)).before start1.args0 fs_about = true := su_hand_word (m := ⟨12, 37⟩) (by decide +kernel) rfl (by decide +kernel) (by decide +kernel)
set_option maxRecDepth 16384 in
theorem fw_code162 : (Jvm.Cond.code (⟨"OneManDeskModel", "slips", "(I)I"⟩ : Jvm.MethodName) prog_12_method_42_code 5 (some .int)).before start1.args0 fs_about = true := su_hand_word (m := ⟨12, 41⟩) (by decide +kernel) rfl (by decide +kernel) (by decide +kernel)
set_option maxRecDepth 16384 in
theorem fw_code163 : (Jvm.Cond.code (⟨"OneManDeskModel", "sawPlace", "(III)Z"⟩ : Jvm.MethodName) prog_12_method_30_code 4 (some .boolean)).before start1.args0 fs_about = true := su_hand_word (m := ⟨12, 29⟩) (by decide +kernel) rfl (by decide +kernel) (by decide +kernel)
set_option maxRecDepth 16384 in
theorem fw_code164 : (Jvm.Cond.code (⟨"OneManDeskModel", "areOfOne", "(II)Z"⟩ : Jvm.MethodName) prog_12_method_41_code 3 (some .boolean)).before start1.args0 fs_about = true := su_hand_word (m := ⟨12, 40⟩) (by decide +kernel) rfl (by decide +kernel) (by decide +kernel)
set_option maxRecDepth 16384 in
theorem fw_code165 : (Jvm.Cond.code (⟨"OneManDeskModel", "lacks", "(II)I"⟩ : Jvm.MethodName) prog_12_method_45_code 5 (some .int)).before start1.args0 fs_about = true := su_hand_word (m := ⟨12, 44⟩) (by decide +kernel) rfl (by decide +kernel) (by decide +kernel)
set_option maxRecDepth 16384 in
theorem fw_code166 : (Jvm.Cond.code (⟨"OneManDeskModel", "sawFact", "(III)Z"⟩ : Jvm.MethodName) prog_12_method_43_code 6 (some .boolean)).before start1.args0 fs_about = true := su_hand_word (m := ⟨12, 42⟩) (by decide +kernel) rfl (by decide +kernel) (by decide +kernel)
set_option maxRecDepth 16384 in
theorem fw_code167 : (Jvm.Cond.code (⟨"OneManDeskModel", "toldFact", "(III)Z"⟩ : Jvm.MethodName) prog_12_method_44_code 6 (some .boolean)).before start1.args0 fs_about = true := su_hand_word (m := ⟨12, 43⟩) (by decide +kernel) rfl (by decide +kernel) (by decide +kernel)
set_option maxRecDepth 16384 in
theorem fw_code168 : (Jvm.Cond.code (⟨"OneManDeskModel", "ill", "(I)I"⟩ : Jvm.MethodName) prog_12_method_46_code 4 (some .int)).before start1.args0 fs_about = true := su_hand_word (m := ⟨12, 45⟩) (by decide +kernel) rfl (by decide +kernel) (by decide +kernel)
set_option maxRecDepth 16384 in
theorem fw_code169 : (Jvm.Cond.code (⟨"OneManDeskModel", "eyes", "(IIII)I"⟩ : Jvm.MethodName) prog_12_method_48_code 6 (some .int)).before start1.args0 fs_about = true := su_hand_word (m := ⟨12, 47⟩) (by decide +kernel) rfl (by decide +kernel) (by decide +kernel)
set_option maxRecDepth 16384 in
theorem fw_code170 : (Jvm.Cond.code (⟨"OneManDeskModel", "told", "(II)I"⟩ : Jvm.MethodName) prog_12_method_49_code 3 (some .int)).before start1.args0 fs_about = true := su_hand_word (m := ⟨12, 48⟩) (by decide +kernel) rfl (by decide +kernel) (by decide +kernel)
set_option maxRecDepth 16384 in
theorem fw_code171 : (Jvm.Cond.code (⟨"OneManDeskModel", "trust", "(III)I"⟩ : Jvm.MethodName) prog_12_method_52_code 4 (some .int)).before start1.args0 fs_about = true := su_hand_word (m := ⟨12, 51⟩) (by decide +kernel) rfl (by decide +kernel) (by decide +kernel)
set_option maxRecDepth 16384 in
theorem fw_code172 : (Jvm.Cond.code (⟨"OneManDeskModel", "trustOf", "(III)I"⟩ : Jvm.MethodName) prog_12_method_51_code 8 (some .int)).before start1.args0 fs_about = true := su_hand_word (m := ⟨12, 50⟩) (by decide +kernel) rfl (by decide +kernel) (by decide +kernel)
set_option maxRecDepth 16384 in
theorem fw_code173 : (Jvm.Cond.code (⟨"OneManDeskModel", "isSent", "(I)Z"⟩ : Jvm.MethodName) prog_12_method_47_code 2 (some .boolean)).before start1.args0 fs_about = true := su_hand_word (m := ⟨12, 46⟩) (by decide +kernel) rfl (by decide +kernel) (by decide +kernel)
