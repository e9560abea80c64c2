set_option maxRecDepth 16384 in
theorem fw_law : (Cond.code x code maxLocals ret).before start1.args0 fs_about = true := su_hand_word (m := ⟨0, 0⟩) (by decide +kernel) rfl (by decide +kernel) (by decide +kernel)
set_option maxRecDepth 16384 in
theorem fw_code0 : (Jvm.Cond.code (⟨"OneManDesk", "<init>", "()V"⟩ : Jvm.MethodName) prog_1_method_1_code 9 none).before start1.args0 fs_about = true := su_hand_word (m := ⟨2, 0⟩) (by decide +kernel) rfl (by decide +kernel) (by decide +kernel)
set_option maxRecDepth 16384 in
theorem fw_code1 : (Jvm.Cond.code (⟨"java/lang/Object", "<init>", "()V"⟩ : Jvm.MethodName) object_method_1_code 1 none).before start1.args0 fs_about = true := su_hand_word (m := ⟨1, 0⟩) (by decide +kernel) rfl (by decide +kernel) (by decide +kernel)
set_option maxRecDepth 16384 in
theorem fw_code2 : (Jvm.Cond.code (⟨"OneManDesk$World", "<init>", "()V"⟩ : Jvm.MethodName) prog_10_method_1_code 2 none).before start1.args0 fs_about = true := su_hand_word (m := ⟨3, 0⟩) (by decide +kernel) rfl (by decide +kernel) (by decide +kernel)
set_option maxRecDepth 16384 in
theorem fw_code3 : (Jvm.Cond.code (⟨"OneManDesk$Mail", "<init>", "(I[I)V"⟩ : Jvm.MethodName) prog_3_method_1_code 3 none).before start1.args0 fs_about = true := su_hand_word (m := ⟨4, 0⟩) (by decide +kernel) rfl (by decide +kernel) (by decide +kernel)
set_option maxRecDepth 16384 in
theorem fw_code4 : (Jvm.Cond.code (⟨"OneManDesk$Scales", "<init>", "(LOneManDesk$World;LOneManDesk$Mail;)V"⟩ : Jvm.MethodName) prog_6_method_1_code 3 none).before start1.args0 fs_about = true := su_hand_word (m := ⟨5, 0⟩) (by decide +kernel) rfl (by decide +kernel) (by decide +kernel)
set_option maxRecDepth 16384 in
theorem fw_code5 : (Jvm.Cond.code (⟨"OneManDesk$Agent", "<init>", "()V"⟩ : Jvm.MethodName) prog_2_method_1_code 1 none).before start1.args0 fs_about = true := su_hand_word (m := ⟨6, 0⟩) (by decide +kernel) rfl (by decide +kernel) (by decide +kernel)
set_option maxRecDepth 16384 in
theorem fw_code6 : (Jvm.Cond.code (⟨"OneManDesk$Reader", "<init>", "()V"⟩ : Jvm.MethodName) prog_5_method_1_code 1 none).before start1.args0 fs_about = true := su_hand_word (m := ⟨7, 0⟩) (by decide +kernel) rfl (by decide +kernel) (by decide +kernel)
set_option maxRecDepth 16384 in
theorem fw_code7 : (Jvm.Cond.code (⟨"OneManDesk$Text", "<init>", "()V"⟩ : Jvm.MethodName) prog_9_method_1_code 1 none).before start1.args0 fs_about = true := su_hand_word (m := ⟨8, 0⟩) (by decide +kernel) rfl (by decide +kernel) (by decide +kernel)
set_option maxRecDepth 16384 in
theorem fw_code8 : (Jvm.Cond.code (⟨"OneManDesk$Story", "<init>", "()V"⟩ : Jvm.MethodName) prog_8_method_1_code 1 none).before start1.args0 fs_about = true := su_hand_word (m := ⟨9, 0⟩) (by decide +kernel) rfl (by decide +kernel) (by decide +kernel)
set_option maxRecDepth 16384 in
theorem fw_code9 : (Jvm.Cond.code (⟨"OneManDesk$Plan", "<init>", "(LOneManDesk$World;LOneManDesk$Scales;LOneManDesk$Mail;)V"⟩ : Jvm.MethodName) prog_4_method_1_code 4 none).before start1.args0 fs_about = true := su_hand_word (m := ⟨10, 0⟩) (by decide +kernel) rfl (by decide +kernel) (by decide +kernel)
set_option maxRecDepth 16384 in
theorem fw_code10 : (Jvm.Cond.code (⟨"OneManDesk$Signs", "<init>", "()V"⟩ : Jvm.MethodName) prog_7_method_1_code 1 none).before start1.args0 fs_about = true := su_hand_word (m := ⟨11, 0⟩) (by decide +kernel) rfl (by decide +kernel) (by decide +kernel)
set_option maxRecDepth 16384 in
theorem fw_code11 : (Jvm.Cond.code (⟨"OneManDesk", "view", "(II)I"⟩ : Jvm.MethodName) prog_1_method_2_code 4 (some .int)).before start1.args0 fs_about = true := su_hand_word (m := ⟨2, 1⟩) (by decide +kernel) rfl (by decide +kernel) (by decide +kernel)
set_option maxRecDepth 16384 in
theorem fw_code12 : (Jvm.Cond.code (⟨"OneManDesk", "isBelow", "(II)Z"⟩ : Jvm.MethodName) prog_1_method_37_code 2 (some .boolean)).before start1.args0 fs_about = true := su_hand_word (m := ⟨2, 36⟩) (by decide +kernel) rfl (by decide +kernel) (by decide +kernel)
set_option maxRecDepth 16384 in
theorem fw_code13 : (Jvm.Cond.code (⟨"OneManDesk", "fact", "(IIIIIZ)I"⟩ : Jvm.MethodName) prog_1_method_3_code 7 (some .int)).before start1.args0 fs_about = true := su_hand_word (m := ⟨2, 2⟩) (by decide +kernel) rfl (by decide +kernel) (by decide +kernel)
set_option maxRecDepth 16384 in
theorem fw_code14 : (Jvm.Cond.code (⟨"OneManDesk", "isSpan", "(II)Z"⟩ : Jvm.MethodName) prog_1_method_38_code 2 (some .boolean)).before start1.args0 fs_about = true := su_hand_word (m := ⟨2, 37⟩) (by decide +kernel) rfl (by decide +kernel) (by decide +kernel)
set_option maxRecDepth 16384 in
theorem fw_code15 : (Jvm.Cond.code (⟨"OneManDesk$World", "addFact", "(IIIIIZ)I"⟩ : Jvm.MethodName) prog_10_method_2_code 7 (some .int)).before start1.args0 fs_about = true := su_hand_word (m := ⟨3, 1⟩) (by decide +kernel) rfl (by decide +kernel) (by decide +kernel)
set_option maxRecDepth 16384 in
theorem fw_code16 : (Jvm.Cond.code (⟨"OneManDesk", "world", "(III)I"⟩ : Jvm.MethodName) prog_1_method_4_code 5 (some .int)).before start1.args0 fs_about = true := su_hand_word (m := ⟨2, 3⟩) (by decide +kernel) rfl (by decide +kernel) (by decide +kernel)
set_option maxRecDepth 16384 in
theorem fw_code17 : (Jvm.Cond.code (⟨"OneManDesk", "refuseTopic", "(III)I"⟩ : Jvm.MethodName) prog_1_method_41_code 3 (some .int)).before start1.args0 fs_about = true := su_hand_word (m := ⟨2, 40⟩) (by decide +kernel) rfl (by decide +kernel) (by decide +kernel)
set_option maxRecDepth 16384 in
theorem fw_code18 : (Jvm.Cond.code (⟨"OneManDesk", "topicOf", "(III)I"⟩ : Jvm.MethodName) prog_1_method_44_code 3 (some .int)).before start1.args0 fs_about = true := su_hand_word (m := ⟨2, 43⟩) (by decide +kernel) rfl (by decide +kernel) (by decide +kernel)
set_option maxRecDepth 16384 in
theorem fw_code19 : (Jvm.Cond.code (⟨"OneManDesk$World", "valueOf", "(I)I"⟩ : Jvm.MethodName) prog_10_method_4_code 6 (some .int)).before start1.args0 fs_about = true := su_hand_word (m := ⟨3, 3⟩) (by decide +kernel) rfl (by decide +kernel) (by decide +kernel)
set_option maxRecDepth 16384 in
theorem fw_code20 : (Jvm.Cond.code (⟨"OneManDesk", "placeOf", "(I)I"⟩ : Jvm.MethodName) prog_1_method_45_code 1 (some .int)).before start1.args0 fs_about = true := su_hand_word (m := ⟨2, 44⟩) (by decide +kernel) rfl (by decide +kernel) (by decide +kernel)
set_option maxRecDepth 16384 in
theorem fw_code21 : (Jvm.Cond.code (⟨"OneManDesk", "kindOf", "(I)I"⟩ : Jvm.MethodName) prog_1_method_46_code 1 (some .int)).before start1.args0 fs_about = true := su_hand_word (m := ⟨2, 45⟩) (by decide +kernel) rfl (by decide +kernel) (by decide +kernel)
set_option maxRecDepth 16384 in
theorem fw_code22 : (Jvm.Cond.code (⟨"OneManDesk", "dayOf", "(I)I"⟩ : Jvm.MethodName) prog_1_method_47_code 1 (some .int)).before start1.args0 fs_about = true := su_hand_word (m := ⟨2, 46⟩) (by decide +kernel) rfl (by decide +kernel) (by decide +kernel)
set_option maxRecDepth 16384 in
theorem fw_code23 : (Jvm.Cond.code (⟨"OneManDesk$World", "tells", "(IIII)Z"⟩ : Jvm.MethodName) prog_10_method_3_code 5 (some .boolean)).before start1.args0 fs_about = true := su_hand_word (m := ⟨3, 2⟩) (by decide +kernel) rfl (by decide +kernel) (by decide +kernel)
set_option maxRecDepth 16384 in
theorem fw_code24 : (Jvm.Cond.code (⟨"OneManDesk", "home", "(II)I"⟩ : Jvm.MethodName) prog_1_method_5_code 4 (some .int)).before start1.args0 fs_about = true := su_hand_word (m := ⟨2, 4⟩) (by decide +kernel) rfl (by decide +kernel) (by decide +kernel)
set_option maxRecDepth 16384 in
theorem fw_code25 : (Jvm.Cond.code (⟨"OneManDesk", "write", "(JI)I"⟩ : Jvm.MethodName) prog_1_method_6_code 4 (some .int)).before start1.args0 fs_about = true := su_hand_word (m := ⟨2, 5⟩) (by decide +kernel) rfl (by decide +kernel) (by decide +kernel)
set_option maxRecDepth 16384 in
theorem fw_code26 : (Jvm.Cond.code (⟨"OneManDesk$Text", "append", "(JI)I"⟩ : Jvm.MethodName) prog_9_method_2_code 5 (some .int)).before start1.args0 fs_about = true := su_hand_word (m := ⟨8, 1⟩) (by decide +kernel) rfl (by decide +kernel) (by decide +kernel)
set_option maxRecDepth 16384 in
theorem fw_code27 : (Jvm.Cond.code (⟨"OneManDesk", "erase", "()I"⟩ : Jvm.MethodName) prog_1_method_7_code 1 (some .int)).before start1.args0 fs_about = true := su_hand_word (m := ⟨2, 6⟩) (by decide +kernel) rfl (by decide +kernel) (by decide +kernel)
set_option maxRecDepth 16384 in
theorem fw_code28 : (Jvm.Cond.code (⟨"OneManDesk$Text", "empty", "()I"⟩ : Jvm.MethodName) prog_9_method_3_code 2 (some .int)).before start1.args0 fs_about = true := su_hand_word (m := ⟨8, 2⟩) (by decide +kernel) rfl (by decide +kernel) (by decide +kernel)
set_option maxRecDepth 16384 in
theorem fw_code29 : (Jvm.Cond.code (⟨"OneManDesk", "fault", "(I)I"⟩ : Jvm.MethodName) prog_1_method_8_code 2 (some .int)).before start1.args0 fs_about = true := su_hand_word (m := ⟨2, 7⟩) (by decide +kernel) rfl (by decide +kernel) (by decide +kernel)
set_option maxRecDepth 16384 in
theorem fw_code30 : (Jvm.Cond.code (⟨"OneManDesk$Text", "firstFault", "(Z)I"⟩ : Jvm.MethodName) prog_9_method_4_code 2 (some .int)).before start1.args0 fs_about = true := su_hand_word (m := ⟨8, 3⟩) (by decide +kernel) rfl (by decide +kernel) (by decide +kernel)
set_option maxRecDepth 16384 in
theorem fw_code31 : (Jvm.Cond.code (⟨"OneManDesk$Text", "nextToken", "()V"⟩ : Jvm.MethodName) prog_9_method_10_code 3 none).before start1.args0 fs_about = true := su_hand_word (m := ⟨8, 9⟩) (by decide +kernel) rfl (by decide +kernel) (by decide +kernel)
set_option maxRecDepth 16384 in
theorem fw_code32 : (Jvm.Cond.code (⟨"OneManDesk$Text", "isLetter", "(I)Z"⟩ : Jvm.MethodName) prog_9_method_11_code 1 (some .boolean)).before start1.args0 fs_about = true := su_hand_word (m := ⟨8, 10⟩) (by decide +kernel) rfl (by decide +kernel) (by decide +kernel)
set_option maxRecDepth 16384 in
theorem fw_code33 : (Jvm.Cond.code (⟨"OneManDesk$Text", "isDigit", "(I)Z"⟩ : Jvm.MethodName) prog_9_method_12_code 1 (some .boolean)).before start1.args0 fs_about = true := su_hand_word (m := ⟨8, 11⟩) (by decide +kernel) rfl (by decide +kernel) (by decide +kernel)
set_option maxRecDepth 16384 in
theorem fw_code34 : (Jvm.Cond.code (⟨"OneManDesk$Text", "readLifeLine", "()Z"⟩ : Jvm.MethodName) prog_9_method_5_code 1 (some .boolean)).before start1.args0 fs_about = true := su_hand_word (m := ⟨8, 4⟩) (by decide +kernel) rfl (by decide +kernel) (by decide +kernel)
set_option maxRecDepth 16384 in
theorem fw_code35 : (Jvm.Cond.code (⟨"OneManDesk$Text", "passWord", "(Ljava/lang/String;)Z"⟩ : Jvm.MethodName) prog_9_method_8_code 3 (some .boolean)).before start1.args0 fs_about = true := su_hand_word (m := ⟨8, 7⟩) (by decide +kernel) rfl (by decide +kernel) (by decide +kernel)
set_option maxRecDepth 16384 in
theorem fw_code36 : (Jvm.Cond.code (⟨"java/lang/String", "length", "()I"⟩ : Jvm.MethodName) prog_16_method_54_code 1 (some .int)).before start1.args0 fs_about = true := su_hand_word (m := ⟨13, 0⟩) (by decide +kernel) rfl (by decide +kernel) (by decide +kernel)
set_option maxRecDepth 16384 in
theorem fw_code37 : (Jvm.Cond.code (⟨"java/lang/String", "coder", "()B"⟩ : Jvm.MethodName) prog_16_method_152_code 1 (some .byte)).before start1.args0 fs_about = true := su_hand_word (m := ⟨13, 2⟩) (by decide +kernel) rfl (by decide +kernel) (by decide +kernel)
set_option maxRecDepth 16384 in
theorem fw_code38 : (Jvm.Cond.code (⟨"java/lang/String", "charAt", "(I)C"⟩ : Jvm.MethodName) prog_16_method_56_code 2 (some .char)).before start1.args0 fs_about = true := su_hand_word (m := ⟨13, 1⟩) (by decide +kernel) rfl (by decide +kernel) (by decide +kernel)
set_option maxRecDepth 16384 in
theorem fw_code39 : (Jvm.Cond.code (⟨"java/lang/String", "isLatin1", "()Z"⟩ : Jvm.MethodName) prog_16_method_154_code 1 (some .boolean)).before start1.args0 fs_about = true := su_hand_word (m := ⟨13, 3⟩) (by decide +kernel) rfl (by decide +kernel) (by decide +kernel)
set_option maxRecDepth 16384 in
theorem fw_code40 : (Jvm.Cond.code (⟨"java/lang/StringLatin1", "charAt", "([BI)C"⟩ : Jvm.MethodName) prog_17_method_2_code 2 (some .char)).before start1.args0 fs_about = true := su_hand_word (m := ⟨14, 0⟩) (by decide +kernel) rfl (by decide +kernel) (by decide +kernel)
set_option maxRecDepth 16384 in
theorem fw_code41 : (Jvm.Cond.code (⟨"java/lang/String", "checkIndex", "(II)V"⟩ : Jvm.MethodName) prog_16_method_155_code 2 none).before start1.args0 fs_about = true := su_hand_word (m := ⟨13, 4⟩) (by decide +kernel) rfl (by decide +kernel) (by decide +kernel)
set_option maxRecDepth 16384 in
theorem fw_code42 : (Jvm.Cond.code (⟨"jdk/internal/util/Preconditions", "checkIndex", "(IILjava/util/function/BiFunction;)I"⟩ : Jvm.MethodName) prog_20_method_11_code 3 (some .int)).before start1.args0 fs_about = true := su_hand_word (m := ⟨15, 0⟩) (by decide +kernel) rfl (by decide +kernel) (by decide +kernel)
set_option maxRecDepth 16384 in
theorem fw_code43 : (Jvm.Cond.code (⟨"java/lang/StringUTF16", "charAt", "([BI)C"⟩ : Jvm.MethodName) prog_18_method_83_code 2 (some .char)).before start1.args0 fs_about = true := su_hand_word (m := ⟨16, 2⟩) (by decide +kernel) rfl (by decide +kernel) (by decide +kernel)
set_option maxRecDepth 16384 in
theorem fw_code44 : (Jvm.Cond.code (⟨"java/lang/StringUTF16", "checkIndex", "(I[B)V"⟩ : Jvm.MethodName) prog_18_method_91_code 2 none).before start1.args0 fs_about = true := su_hand_word (m := ⟨16, 3⟩) (by decide +kernel) rfl (by decide +kernel) (by decide +kernel)
set_option maxRecDepth 16384 in
theorem fw_code45 : (Jvm.Cond.code (⟨"java/lang/StringUTF16", "length", "([B)I"⟩ : Jvm.MethodName) prog_18_method_6_code 1 (some .int)).before start1.args0 fs_about = true := su_hand_word (m := ⟨16, 1⟩) (by decide +kernel) rfl (by decide +kernel) (by decide +kernel)
set_option maxRecDepth 16384 in
theorem fw_code46 : (Jvm.Cond.code (⟨"java/lang/StringUTF16", "getChar", "([BI)C"⟩ : Jvm.MethodName) prog_18_method_5_code 2 (some .char)).before start1.args0 fs_about = true := su_hand_word (m := ⟨16, 0⟩) (by decide +kernel) rfl (by decide +kernel) (by decide +kernel)
set_option maxRecDepth 16384 in
theorem fw_code47 : (Jvm.Cond.code (⟨"OneManDesk$Text", "passNumber", "(II)I"⟩ : Jvm.MethodName) prog_9_method_9_code 6 (some .int)).before start1.args0 fs_about = true := su_hand_word (m := ⟨8, 8⟩) (by decide +kernel) rfl (by decide +kernel) (by decide +kernel)
set_option maxRecDepth 16384 in
theorem fw_code48 : (Jvm.Cond.code (⟨"OneManDesk$Text", "readTableLine", "()Z"⟩ : Jvm.MethodName) prog_9_method_6_code 2 (some .boolean)).before start1.args0 fs_about = true := su_hand_word (m := ⟨8, 5⟩) (by decide +kernel) rfl (by decide +kernel) (by decide +kernel)
set_option maxRecDepth 16384 in
theorem fw_code49 : (Jvm.Cond.code (⟨"OneManDesk$Text", "tableWord", "(I)Ljava/lang/String;"⟩ : Jvm.MethodName) prog_9_method_7_code 1 (some (.object "java/lang/String"))).before start1.args0 fs_about = true := su_hand_word (m := ⟨8, 6⟩) (by decide +kernel) rfl (by decide +kernel) (by decide +kernel)
set_option maxRecDepth 16384 in
theorem fw_code50 : (Jvm.Cond.code (⟨"OneManDesk", "life", "(I)I"⟩ : Jvm.MethodName) prog_1_method_9_code 2 (some .int)).before start1.args0 fs_about = true := su_hand_word (m := ⟨2, 8⟩) (by decide +kernel) rfl (by decide +kernel) (by decide +kernel)
set_option maxRecDepth 16384 in
theorem fw_code51 : (Jvm.Cond.code (⟨"OneManDesk$Agent", "live", "(LOneManDesk$Text;)I"⟩ : Jvm.MethodName) prog_2_method_2_code 3 (some .int)).before start1.args0 fs_about = true := su_hand_word (m := ⟨6, 1⟩) (by decide +kernel) rfl (by decide +kernel) (by decide +kernel)
set_option maxRecDepth 16384 in
theorem fw_code52 : (Jvm.Cond.code (⟨"OneManDesk", "table", "(I)I"⟩ : Jvm.MethodName) prog_1_method_10_code 2 (some .int)).before start1.args0 fs_about = true := su_hand_word (m := ⟨2, 9⟩) (by decide +kernel) rfl (by decide +kernel) (by decide +kernel)
set_option maxRecDepth 16384 in
theorem fw_code53 : (Jvm.Cond.code (⟨"OneManDesk$Reader", "weighBy", "(LOneManDesk$Text;)I"⟩ : Jvm.MethodName) prog_5_method_2_code 3 (some .int)).before start1.args0 fs_about = true := su_hand_word (m := ⟨7, 1⟩) (by decide +kernel) rfl (by decide +kernel) (by decide +kernel)
set_option maxRecDepth 16384 in
theorem fw_code54 : (Jvm.Cond.code (⟨"OneManDesk", "where", "(II)I"⟩ : Jvm.MethodName) prog_1_method_11_code 4 (some .int)).before start1.args0 fs_about = true := su_hand_word (m := ⟨2, 10⟩) (by decide +kernel) rfl (by decide +kernel) (by decide +kernel)
set_option maxRecDepth 16384 in
theorem fw_code55 : (Jvm.Cond.code (⟨"OneManDesk", "refuseDayOf", "(III)I"⟩ : Jvm.MethodName) prog_1_method_40_code 3 (some .int)).before start1.args0 fs_about = true := su_hand_word (m := ⟨2, 39⟩) (by decide +kernel) rfl (by decide +kernel) (by decide +kernel)
set_option maxRecDepth 16384 in
theorem fw_code56 : (Jvm.Cond.code (⟨"OneManDesk$Agent", "placeOn", "(I)I"⟩ : Jvm.MethodName) prog_2_method_3_code 3 (some .int)).before start1.args0 fs_about = true := su_hand_word (m := ⟨6, 2⟩) (by decide +kernel) rfl (by decide +kernel) (by decide +kernel)
set_option maxRecDepth 16384 in
theorem fw_code57 : (Jvm.Cond.code (⟨"OneManDesk", "saw", "(II)I"⟩ : Jvm.MethodName) prog_1_method_12_code 4 (some .int)).before start1.args0 fs_about = true := su_hand_word (m := ⟨2, 11⟩) (by decide +kernel) rfl (by decide +kernel) (by decide +kernel)
set_option maxRecDepth 16384 in
theorem fw_code58 : (Jvm.Cond.code (⟨"OneManDesk$World", "seenBy", "(LOneManDesk$Agent;I)I"⟩ : Jvm.MethodName) prog_10_method_5_code 3 (some .int)).before start1.args0 fs_about = true := su_hand_word (m := ⟨3, 4⟩) (by decide +kernel) rfl (by decide +kernel) (by decide +kernel)
set_option maxRecDepth 16384 in
theorem fw_code59 : (Jvm.Cond.code (⟨"OneManDesk", "post", "(II)I"⟩ : Jvm.MethodName) prog_1_method_13_code 4 (some .int)).before start1.args0 fs_about = true := su_hand_word (m := ⟨2, 12⟩) (by decide +kernel) rfl (by decide +kernel) (by decide +kernel)
set_option maxRecDepth 16384 in
theorem fw_code60 : (Jvm.Cond.code (⟨"OneManDesk", "send", "(IIIIIII)I"⟩ : Jvm.MethodName) prog_1_method_14_code 9 (some .int)).before start1.args0 fs_about = true := su_hand_word (m := ⟨2, 13⟩) (by decide +kernel) rfl (by decide +kernel) (by decide +kernel)
set_option maxRecDepth 16384 in
theorem fw_code61 : (Jvm.Cond.code (⟨"OneManDesk", "refuseLetter", "(IIIIIII)I"⟩ : Jvm.MethodName) prog_1_method_43_code 8 (some .int)).before start1.args0 fs_about = true := su_hand_word (m := ⟨2, 42⟩) (by decide +kernel) rfl (by decide +kernel) (by decide +kernel)
set_option maxRecDepth 16384 in
theorem fw_code62 : (Jvm.Cond.code (⟨"OneManDesk$Mail", "add", "(IIIII)I"⟩ : Jvm.MethodName) prog_3_method_2_code 6 (some .int)).before start1.args0 fs_about = true := su_hand_word (m := ⟨4, 1⟩) (by decide +kernel) rfl (by decide +kernel) (by decide +kernel)
set_option maxRecDepth 16384 in
theorem fw_code63 : (Jvm.Cond.code (⟨"OneManDesk", "right", "(I)I"⟩ : Jvm.MethodName) prog_1_method_15_code 2 (some .int)).before start1.args0 fs_about = true := su_hand_word (m := ⟨2, 14⟩) (by decide +kernel) rfl (by decide +kernel) (by decide +kernel)
set_option maxRecDepth 16384 in
theorem fw_code64 : (Jvm.Cond.code (⟨"OneManDesk", "comes", "(I)I"⟩ : Jvm.MethodName) prog_1_method_16_code 2 (some .int)).before start1.args0 fs_about = true := su_hand_word (m := ⟨2, 15⟩) (by decide +kernel) rfl (by decide +kernel) (by decide +kernel)
set_option maxRecDepth 16384 in
theorem fw_code65 : (Jvm.Cond.code (⟨"OneManDesk$Mail", "cameOn", "(I)I"⟩ : Jvm.MethodName) prog_3_method_3_code 2 (some .int)).before start1.args0 fs_about = true := su_hand_word (m := ⟨4, 2⟩) (by decide +kernel) rfl (by decide +kernel) (by decide +kernel)
set_option maxRecDepth 16384 in
theorem fw_code66 : (Jvm.Cond.code (⟨"OneManDesk", "slips", "(I)I"⟩ : Jvm.MethodName) prog_1_method_17_code 6 (some .int)).before start1.args0 fs_about = true := su_hand_word (m := ⟨2, 16⟩) (by decide +kernel) rfl (by decide +kernel) (by decide +kernel)
set_option maxRecDepth 16384 in
theorem fw_code67 : (Jvm.Cond.code (⟨"OneManDesk", "hasBit", "(II)Z"⟩ : Jvm.MethodName) prog_1_method_39_code 2 (some .boolean)).before start1.args0 fs_about = true := su_hand_word (m := ⟨2, 38⟩) (by decide +kernel) rfl (by decide +kernel) (by decide +kernel)
set_option maxRecDepth 16384 in
theorem fw_code68 : (Jvm.Cond.code (⟨"OneManDesk$Mail", "unlike", "(I)I"⟩ : Jvm.MethodName) prog_3_method_4_code 4 (some .int)).before start1.args0 fs_about = true := su_hand_word (m := ⟨4, 3⟩) (by decide +kernel) rfl (by decide +kernel) (by decide +kernel)
set_option maxRecDepth 16384 in
theorem fw_code69 : (Jvm.Cond.code (⟨"OneManDesk", "lacks", "(II)I"⟩ : Jvm.MethodName) prog_1_method_18_code 6 (some .int)).before start1.args0 fs_about = true := su_hand_word (m := ⟨2, 17⟩) (by decide +kernel) rfl (by decide +kernel) (by decide +kernel)
set_option maxRecDepth 16384 in
theorem fw_code70 : (Jvm.Cond.code (⟨"OneManDesk$World", "wasSeen", "(ILOneManDesk$Agent;I)Z"⟩ : Jvm.MethodName) prog_10_method_6_code 6 (some .boolean)).before start1.args0 fs_about = true := su_hand_word (m := ⟨3, 5⟩) (by decide +kernel) rfl (by decide +kernel) (by decide +kernel)
set_option maxRecDepth 16384 in
theorem fw_code71 : (Jvm.Cond.code (⟨"java/lang/Math", "min", "(II)I"⟩ : Jvm.MethodName) prog_15_method_69_code 2 (some .int)).before start1.args0 fs_about = true := su_hand_word (m := ⟨18, 1⟩) (by decide +kernel) rfl (by decide +kernel) (by decide +kernel)
set_option maxRecDepth 16384 in
theorem fw_code72 : (Jvm.Cond.code (⟨"OneManDesk$Mail", "mention", "(LOneManDesk$World;III)Z"⟩ : Jvm.MethodName) prog_3_method_5_code 6 (some .boolean)).before start1.args0 fs_about = true := su_hand_word (m := ⟨4, 4⟩) (by decide +kernel) rfl (by decide +kernel) (by decide +kernel)
set_option maxRecDepth 16384 in
theorem fw_code73 : (Jvm.Cond.code (⟨"OneManDesk", "ill", "(I)I"⟩ : Jvm.MethodName) prog_1_method_19_code 3 (some .int)).before start1.args0 fs_about = true := su_hand_word (m := ⟨2, 18⟩) (by decide +kernel) rfl (by decide +kernel) (by decide +kernel)
set_option maxRecDepth 16384 in
theorem fw_code74 : (Jvm.Cond.code (⟨"OneManDesk$World", "showsSecret", "(LOneManDesk$Agent;I)Z"⟩ : Jvm.MethodName) prog_10_method_7_code 5 (some .boolean)).before start1.args0 fs_about = true := su_hand_word (m := ⟨3, 6⟩) (by decide +kernel) rfl (by decide +kernel) (by decide +kernel)
set_option maxRecDepth 16384 in
theorem fw_code75 : (Jvm.Cond.code (⟨"OneManDesk", "eyes", "(IIII)I"⟩ : Jvm.MethodName) prog_1_method_20_code 5 (some .int)).before start1.args0 fs_about = true := su_hand_word (m := ⟨2, 19⟩) (by decide +kernel) rfl (by decide +kernel) (by decide +kernel)
set_option maxRecDepth 16384 in
theorem fw_code76 : (Jvm.Cond.code (⟨"OneManDesk$Reader", "addEyes", "(III)I"⟩ : Jvm.MethodName) prog_5_method_3_code 4 (some .int)).before start1.args0 fs_about = true := su_hand_word (m := ⟨7, 2⟩) (by decide +kernel) rfl (by decide +kernel) (by decide +kernel)
set_option maxRecDepth 16384 in
theorem fw_code77 : (Jvm.Cond.code (⟨"OneManDesk", "told", "(II)I"⟩ : Jvm.MethodName) prog_1_method_21_code 3 (some .int)).before start1.args0 fs_about = true := su_hand_word (m := ⟨2, 20⟩) (by decide +kernel) rfl (by decide +kernel) (by decide +kernel)
set_option maxRecDepth 16384 in
theorem fw_code78 : (Jvm.Cond.code (⟨"OneManDesk", "trust", "(III)I"⟩ : Jvm.MethodName) prog_1_method_22_code 4 (some .int)).before start1.args0 fs_about = true := su_hand_word (m := ⟨2, 21⟩) (by decide +kernel) rfl (by decide +kernel) (by decide +kernel)
set_option maxRecDepth 16384 in
theorem fw_code79 : (Jvm.Cond.code (⟨"OneManDesk$Scales", "trustIn", "(LOneManDesk$Reader;II)I"⟩ : Jvm.MethodName) prog_6_method_4_code 4 (some .int)).before start1.args0 fs_about = true := su_hand_word (m := ⟨5, 3⟩) (by decide +kernel) rfl (by decide +kernel) (by decide +kernel)
set_option maxRecDepth 16384 in
theorem fw_code80 : (Jvm.Cond.code (⟨"OneManDesk$Scales", "sumTrust", "(LOneManDesk$Reader;I)V"⟩ : Jvm.MethodName) prog_6_method_3_code 4 none).before start1.args0 fs_about = true := su_hand_word (m := ⟨5, 2⟩) (by decide +kernel) rfl (by decide +kernel) (by decide +kernel)
set_option maxRecDepth 16384 in
theorem fw_code81 : (Jvm.Cond.code (⟨"OneManDesk$Scales", "gain", "(LOneManDesk$Reader;LOneManDesk$Mail;II)I"⟩ : Jvm.MethodName) prog_6_method_2_code 7 (some .int)).before start1.args0 fs_about = true := su_hand_word (m := ⟨5, 1⟩) (by decide +kernel) rfl (by decide +kernel) (by decide +kernel)
set_option maxRecDepth 16384 in
theorem fw_code82 : (Jvm.Cond.code (⟨"OneManDesk$Reader", "knows", "(II)Z"⟩ : Jvm.MethodName) prog_5_method_4_code 6 (some .boolean)).before start1.args0 fs_about = true := su_hand_word (m := ⟨7, 3⟩) (by decide +kernel) rfl (by decide +kernel) (by decide +kernel)
set_option maxRecDepth 16384 in
theorem fw_code83 : (Jvm.Cond.code (⟨"java/lang/Math", "max", "(II)I"⟩ : Jvm.MethodName) prog_15_method_65_code 2 (some .int)).before start1.args0 fs_about = true := su_hand_word (m := ⟨18, 0⟩) (by decide +kernel) rfl (by decide +kernel) (by decide +kernel)
set_option maxRecDepth 16384 in
theorem fw_code84 : (Jvm.Cond.code (⟨"OneManDesk$Scales", "bounded", "(I)I"⟩ : Jvm.MethodName) prog_6_method_5_code 1 (some .int)).before start1.args0 fs_about = true := su_hand_word (m := ⟨5, 4⟩) (by decide +kernel) rfl (by decide +kernel) (by decide +kernel)
set_option maxRecDepth 16384 in
theorem fw_code85 : (Jvm.Cond.code (⟨"OneManDesk", "concluded", "(IIIII)I"⟩ : Jvm.MethodName) prog_1_method_23_code 7 (some .int)).before start1.args0 fs_about = true := su_hand_word (m := ⟨2, 22⟩) (by decide +kernel) rfl (by decide +kernel) (by decide +kernel)
set_option maxRecDepth 16384 in
theorem fw_code86 : (Jvm.Cond.code (⟨"OneManDesk", "refuseReading", "(IIIII)I"⟩ : Jvm.MethodName) prog_1_method_42_code 6 (some .int)).before start1.args0 fs_about = true := su_hand_word (m := ⟨2, 41⟩) (by decide +kernel) rfl (by decide +kernel) (by decide +kernel)
