set_option maxRecDepth 16384 in
theorem fw_code174 : (Jvm.Cond.code (⟨"OneManDeskModel", "knows", "(IIII)Z"⟩ : Jvm.MethodName) prog_12_method_50_code 7 (some .boolean)).before start1.args0 fs_about = true := su_hand_word (m := ⟨12, 49⟩) (by decide +kernel) rfl (by decide +kernel) (by decide +kernel)
set_option maxRecDepth 16384 in
theorem fw_code175 : (Jvm.Cond.code (⟨"OneManDeskModel", "concluded", "(IIIII)I"⟩ : Jvm.MethodName) prog_12_method_56_code 6 (some .int)).before start1.args0 fs_about = true := su_hand_word (m := ⟨12, 55⟩) (by decide +kernel) rfl (by decide +kernel) (by decide +kernel)
set_option maxRecDepth 16384 in
theorem fw_code176 : (Jvm.Cond.code (⟨"OneManDeskModel", "concludes", "(IIIII)I"⟩ : Jvm.MethodName) prog_12_method_55_code 11 (some .int)).before start1.args0 fs_about = true := su_hand_word (m := ⟨12, 54⟩) (by decide +kernel) rfl (by decide +kernel) (by decide +kernel)
set_option maxRecDepth 16384 in
theorem fw_code177 : (Jvm.Cond.code (⟨"OneManDeskModel", "tellers", "(IIIII)I"⟩ : Jvm.MethodName) prog_12_method_53_code 9 (some .int)).before start1.args0 fs_about = true := su_hand_word (m := ⟨12, 52⟩) (by decide +kernel) rfl (by decide +kernel) (by decide +kernel)
set_option maxRecDepth 16384 in
theorem fw_code178 : (Jvm.Cond.code (⟨"OneManDeskModel", "weightOf", "(III)I"⟩ : Jvm.MethodName) prog_12_method_54_code 7 (some .int)).before start1.args0 fs_about = true := su_hand_word (m := ⟨12, 53⟩) (by decide +kernel) rfl (by decide +kernel) (by decide +kernel)
set_option maxRecDepth 16384 in
theorem fw_code179 : (Jvm.Cond.code (⟨"OneManDeskModel", "weight", "(IIIIII)I"⟩ : Jvm.MethodName) prog_12_method_57_code 7 (some .int)).before start1.args0 fs_about = true := su_hand_word (m := ⟨12, 56⟩) (by decide +kernel) rfl (by decide +kernel) (by decide +kernel)
set_option maxRecDepth 16384 in
theorem fw_code180 : (Jvm.Cond.code (⟨"OneManDeskModel", "story", "(IIII)I"⟩ : Jvm.MethodName) prog_12_method_58_code 5 (some .int)).before start1.args0 fs_about = true := su_hand_word (m := ⟨12, 57⟩) (by decide +kernel) rfl (by decide +kernel) (by decide +kernel)
set_option maxRecDepth 16384 in
theorem fw_code181 : (Jvm.Cond.code (⟨"OneManDeskModel", "holds", "(II)I"⟩ : Jvm.MethodName) prog_12_method_61_code 3 (some .int)).before start1.args0 fs_about = true := su_hand_word (m := ⟨12, 60⟩) (by decide +kernel) rfl (by decide +kernel) (by decide +kernel)
set_option maxRecDepth 16384 in
theorem fw_code182 : (Jvm.Cond.code (⟨"OneManDeskModel", "heldOn", "(II)I"⟩ : Jvm.MethodName) prog_12_method_59_code 5 (some .int)).before start1.args0 fs_about = true := su_hand_word (m := ⟨12, 58⟩) (by decide +kernel) rfl (by decide +kernel) (by decide +kernel)
set_option maxRecDepth 16384 in
theorem fw_code183 : (Jvm.Cond.code (⟨"OneManDeskModel", "keeps", "(II)I"⟩ : Jvm.MethodName) prog_12_method_62_code 4 (some .int)).before start1.args0 fs_about = true := su_hand_word (m := ⟨12, 61⟩) (by decide +kernel) rfl (by decide +kernel) (by decide +kernel)
set_option maxRecDepth 16384 in
theorem fw_code184 : (Jvm.Cond.code (⟨"OneManDeskModel", "isHeld", "(II)Z"⟩ : Jvm.MethodName) prog_12_method_60_code 3 (some .boolean)).before start1.args0 fs_about = true := su_hand_word (m := ⟨12, 59⟩) (by decide +kernel) rfl (by decide +kernel) (by decide +kernel)
set_option maxRecDepth 16384 in
theorem fw_code185 : (Jvm.Cond.code (⟨"OneManDeskModel", "draft", "(IIIIIII)I"⟩ : Jvm.MethodName) prog_12_method_63_code 9 (some .int)).before start1.args0 fs_about = true := su_hand_word (m := ⟨12, 62⟩) (by decide +kernel) rfl (by decide +kernel) (by decide +kernel)
set_option maxRecDepth 16384 in
theorem fw_code186 : (Jvm.Cond.code (⟨"OneManDeskModel", "mark", "(III)I"⟩ : Jvm.MethodName) prog_12_method_64_code 5 (some .int)).before start1.args0 fs_about = true := su_hand_word (m := ⟨12, 63⟩) (by decide +kernel) rfl (by decide +kernel) (by decide +kernel)
set_option maxRecDepth 16384 in
theorem fw_code187 : (Jvm.Cond.code (⟨"OneManDeskModel", "make", "(I)I"⟩ : Jvm.MethodName) prog_12_method_67_code 6 (some .int)).before start1.args0 fs_about = true := su_hand_word (m := ⟨12, 66⟩) (by decide +kernel) rfl (by decide +kernel) (by decide +kernel)
set_option maxRecDepth 16384 in
theorem fw_code188 : (Jvm.Cond.code (⟨"OneManDeskModel", "riskOf", "(I)I"⟩ : Jvm.MethodName) prog_12_method_65_code 4 (some .int)).before start1.args0 fs_about = true := su_hand_word (m := ⟨12, 64⟩) (by decide +kernel) rfl (by decide +kernel) (by decide +kernel)
set_option maxRecDepth 16384 in
theorem fw_code189 : (Jvm.Cond.code (⟨"OneManDeskModel", "buy", "(III)I"⟩ : Jvm.MethodName) prog_12_method_68_code 9 (some .int)).before start1.args0 fs_about = true := su_hand_word (m := ⟨12, 67⟩) (by decide +kernel) rfl (by decide +kernel) (by decide +kernel)
set_option maxRecDepth 16384 in
theorem fw_code190 : (Jvm.Cond.code (⟨"OneManDeskModel", "costOf", "(I)I"⟩ : Jvm.MethodName) prog_12_method_66_code 4 (some .int)).before start1.args0 fs_about = true := su_hand_word (m := ⟨12, 65⟩) (by decide +kernel) rfl (by decide +kernel) (by decide +kernel)
set_option maxRecDepth 16384 in
theorem fw_code191 : (Jvm.Cond.code (⟨"OneManDeskModel", "question", "(IIII)I"⟩ : Jvm.MethodName) prog_12_method_70_code 5 (some .int)).before start1.args0 fs_about = true := su_hand_word (m := ⟨12, 69⟩) (by decide +kernel) rfl (by decide +kernel) (by decide +kernel)
set_option maxRecDepth 16384 in
theorem fw_code192 : (Jvm.Cond.code (⟨"OneManDeskModel", "sign", "(IIII)I"⟩ : Jvm.MethodName) prog_12_method_69_code 5 (some .int)).before start1.args0 fs_about = true := su_hand_word (m := ⟨12, 68⟩) (by decide +kernel) rfl (by decide +kernel) (by decide +kernel)
set_option maxRecDepth 16384 in
theorem fw_code193 : (Jvm.Cond.code (⟨"OneManDeskModel", "pay", "(II)I"⟩ : Jvm.MethodName) prog_12_method_71_code 3 (some .int)).before start1.args0 fs_about = true := su_hand_word (m := ⟨12, 70⟩) (by decide +kernel) rfl (by decide +kernel) (by decide +kernel)
set_option maxRecDepth 16384 in
theorem fw_code194 : (Jvm.Cond.code (⟨"OneManDeskModel", "which", "()I"⟩ : Jvm.MethodName) prog_12_method_72_code 5 (some .int)).before start1.args0 fs_about = true := su_hand_word (m := ⟨12, 71⟩) (by decide +kernel) rfl (by decide +kernel) (by decide +kernel)
set_option maxRecDepth 16384 in
theorem fw_code195 : (Jvm.Cond.code (⟨"OneManDeskModel", "warning", "(III)I"⟩ : Jvm.MethodName) prog_12_method_73_code 5 (some .int)).before start1.args0 fs_about = true := su_hand_word (m := ⟨12, 72⟩) (by decide +kernel) rfl (by decide +kernel) (by decide +kernel)
set_option maxRecDepth 16384 in
theorem fw_code196 : (Jvm.Cond.code (⟨"OneManDeskModel", "count", "(I)I"⟩ : Jvm.MethodName) prog_12_method_74_code 2 (some .int)).before start1.args0 fs_about = true := su_hand_word (m := ⟨12, 73⟩) (by decide +kernel) rfl (by decide +kernel) (by decide +kernel)
set_option maxRecDepth 16384 in
theorem fw_codes_1 : ∀ c ∈ tables_1_1.filter su_isCode, c.before start1.args0 fs_about = true := by
  rw [start1.codes_are_1]
  exact List.forall_mem_cons.mpr ⟨fw_code0, List.forall_mem_cons.mpr ⟨fw_code1, List.forall_mem_cons.mpr ⟨fw_code2, List.forall_mem_cons.mpr ⟨fw_code3, List.forall_mem_cons.mpr ⟨fw_code4, List.forall_mem_cons.mpr ⟨fw_code5, List.forall_mem_cons.mpr ⟨fw_code6, List.forall_mem_cons.mpr ⟨fw_code7, List.forall_mem_cons.mpr ⟨fw_code8, List.forall_mem_nil _⟩⟩⟩⟩⟩⟩⟩⟩⟩
set_option maxRecDepth 16384 in
theorem fw_others_1_0 : (tables_1_1.take 40).all (fun c => su_isCode c || c.before start1.args0 fs_about) = true := by decide +kernel
set_option maxRecDepth 16384 in
theorem fw_others_1_1 : ((tables_1_1.drop 40).take 40).all (fun c => su_isCode c || c.before start1.args0 fs_about) = true := by decide +kernel
set_option maxRecDepth 16384 in
theorem fw_others_1_2 : (((tables_1_1.drop 40).drop 40).take 40).all (fun c => su_isCode c || c.before start1.args0 fs_about) = true := by decide +kernel
set_option maxRecDepth 16384 in
theorem fw_others_1_3 : ((((tables_1_1.drop 40).drop 40).drop 40).take 40).all (fun c => su_isCode c || c.before start1.args0 fs_about) = true := by decide +kernel
set_option maxRecDepth 16384 in
theorem fw_others_1_4 : (((((tables_1_1.drop 40).drop 40).drop 40).drop 40).take 40).all (fun c => su_isCode c || c.before start1.args0 fs_about) = true := by decide +kernel
set_option maxRecDepth 16384 in
theorem fw_others_1_5 : (((((tables_1_1.drop 40).drop 40).drop 40).drop 40).drop 40).all (fun c => su_isCode c || c.before start1.args0 fs_about) = true := by decide +kernel
set_option maxRecDepth 16384 in
theorem fw_all_1 : tables_1_1.all (fun c => su_isCode c || c.before start1.args0 fs_about) = true := start1.su_all_split _ 40 tables_1_1 fw_others_1_0 (start1.su_all_split _ 40 (tables_1_1.drop 40) fw_others_1_1 (start1.su_all_split _ 40 ((tables_1_1.drop 40).drop 40) fw_others_1_2 (start1.su_all_split _ 40 (((tables_1_1.drop 40).drop 40).drop 40) fw_others_1_3 (start1.su_all_split _ 40 ((((tables_1_1.drop 40).drop 40).drop 40).drop 40) fw_others_1_4 fw_others_1_5))))
theorem fw_words_1 : ∀ c ∈ tables_1_1, c.before start1.args0 fs_about = true := fun c h => su_words fw_all_1 fw_codes_1 c h
set_option maxRecDepth 16384 in
theorem fw_codes_2 : ∀ c ∈ tables_1_2.filter su_isCode, c.before start1.args0 fs_about = true := by
  rw [start1.codes_are_2]
  exact List.forall_mem_cons.mpr ⟨fw_code9, List.forall_mem_cons.mpr ⟨fw_code10, List.forall_mem_cons.mpr ⟨fw_code11, List.forall_mem_cons.mpr ⟨fw_code12, List.forall_mem_cons.mpr ⟨fw_code13, List.forall_mem_cons.mpr ⟨fw_code14, List.forall_mem_cons.mpr ⟨fw_code15, List.forall_mem_cons.mpr ⟨fw_code16, List.forall_mem_cons.mpr ⟨fw_code17, List.forall_mem_cons.mpr ⟨fw_code18, List.forall_mem_cons.mpr ⟨fw_code19, List.forall_mem_cons.mpr ⟨fw_code20, List.forall_mem_cons.mpr ⟨fw_code21, List.forall_mem_cons.mpr ⟨fw_code22, List.forall_mem_cons.mpr ⟨fw_code23, List.forall_mem_cons.mpr ⟨fw_code24, List.forall_mem_cons.mpr ⟨fw_code25, List.forall_mem_cons.mpr ⟨fw_code26, List.forall_mem_cons.mpr ⟨fw_code27, List.forall_mem_cons.mpr ⟨fw_code28, List.forall_mem_cons.mpr ⟨fw_code29, List.forall_mem_cons.mpr ⟨fw_code30, List.forall_mem_cons.mpr ⟨fw_code31, List.forall_mem_cons.mpr ⟨fw_code32, List.forall_mem_cons.mpr ⟨fw_code33, List.forall_mem_cons.mpr ⟨fw_code34, List.forall_mem_cons.mpr ⟨fw_code35, List.forall_mem_cons.mpr ⟨fw_code36, List.forall_mem_cons.mpr ⟨fw_code37, List.forall_mem_cons.mpr ⟨fw_code38, List.forall_mem_cons.mpr ⟨fw_code39, List.forall_mem_cons.mpr ⟨fw_code40, List.forall_mem_cons.mpr ⟨fw_code41, List.forall_mem_cons.mpr ⟨fw_code42, List.forall_mem_cons.mpr ⟨fw_code43, List.forall_mem_cons.mpr ⟨fw_code44, List.forall_mem_cons.mpr ⟨fw_code45, List.forall_mem_cons.mpr ⟨fw_code46, List.forall_mem_nil _⟩⟩⟩⟩⟩⟩⟩⟩⟩⟩⟩⟩⟩⟩⟩⟩⟩⟩⟩⟩⟩⟩⟩⟩⟩⟩⟩⟩⟩⟩⟩⟩⟩⟩⟩⟩⟩⟩
set_option maxRecDepth 16384 in
theorem fw_others_2_0 : (tables_1_2.take 40).all (fun c => su_isCode c || c.before start1.args0 fs_about) = true := by decide +kernel
set_option maxRecDepth 16384 in
theorem fw_others_2_1 : ((tables_1_2.drop 40).take 40).all (fun c => su_isCode c || c.before start1.args0 fs_about) = true := by decide +kernel
set_option maxRecDepth 16384 in
theorem fw_others_2_2 : (((tables_1_2.drop 40).drop 40).take 40).all (fun c => su_isCode c || c.before start1.args0 fs_about) = true := by decide +kernel
set_option maxRecDepth 16384 in
theorem fw_others_2_3 : ((((tables_1_2.drop 40).drop 40).drop 40).take 40).all (fun c => su_isCode c || c.before start1.args0 fs_about) = true := by decide +kernel
set_option maxRecDepth 16384 in
theorem fw_others_2_4 : (((((tables_1_2.drop 40).drop 40).drop 40).drop 40).take 40).all (fun c => su_isCode c || c.before start1.args0 fs_about) = true := by decide +kernel
set_option maxRecDepth 16384 in
theorem fw_others_2_5 : ((((((tables_1_2.drop 40).drop 40).drop 40).drop 40).drop 40).take 12).all (fun c => su_isCode c || c.before start1.args0 fs_about) = true := by decide +kernel
set_option maxRecDepth 16384 in
theorem fw_others_2_6 : (((((((tables_1_2.drop 40).drop 40).drop 40).drop 40).drop 40).drop 12).take 16).all (fun c => su_isCode c || c.before start1.args0 fs_about) = true := by decide +kernel
set_option maxRecDepth 16384 in
theorem fw_others_2_7 : (((((((tables_1_2.drop 40).drop 40).drop 40).drop 40).drop 40).drop 12).drop 16).all (fun c => su_isCode c || c.before start1.args0 fs_about) = true := by decide +kernel
set_option maxRecDepth 16384 in
theorem fw_all_2 : tables_1_2.all (fun c => su_isCode c || c.before start1.args0 fs_about) = true := start1.su_all_split _ 40 tables_1_2 fw_others_2_0 (start1.su_all_split _ 40 (tables_1_2.drop 40) fw_others_2_1 (start1.su_all_split _ 40 ((tables_1_2.drop 40).drop 40) fw_others_2_2 (start1.su_all_split _ 40 (((tables_1_2.drop 40).drop 40).drop 40) fw_others_2_3 (start1.su_all_split _ 40 ((((tables_1_2.drop 40).drop 40).drop 40).drop 40) fw_others_2_4 (start1.su_all_split _ 12 (((((tables_1_2.drop 40).drop 40).drop 40).drop 40).drop 40) fw_others_2_5 (start1.su_all_split _ 16 ((((((tables_1_2.drop 40).drop 40).drop 40).drop 40).drop 40).drop 12) fw_others_2_6 fw_others_2_7))))))
theorem fw_words_2 : ∀ c ∈ tables_1_2, c.before start1.args0 fs_about = true := fun c h => su_words fw_all_2 fw_codes_2 c h
set_option maxRecDepth 16384 in
theorem fw_codes_3 : ∀ c ∈ tables_1_3.filter su_isCode, c.before start1.args0 fs_about = true := by
  rw [start1.codes_are_3]
  exact List.forall_mem_cons.mpr ⟨fw_code47, List.forall_mem_cons.mpr ⟨fw_code48, List.forall_mem_cons.mpr ⟨fw_code49, List.forall_mem_cons.mpr ⟨fw_code50, List.forall_mem_cons.mpr ⟨fw_code51, List.forall_mem_cons.mpr ⟨fw_code52, List.forall_mem_cons.mpr ⟨fw_code53, List.forall_mem_cons.mpr ⟨fw_code54, List.forall_mem_cons.mpr ⟨fw_code55, List.forall_mem_cons.mpr ⟨fw_code56, List.forall_mem_cons.mpr ⟨fw_code57, List.forall_mem_cons.mpr ⟨fw_code58, List.forall_mem_cons.mpr ⟨fw_code59, List.forall_mem_cons.mpr ⟨fw_code60, List.forall_mem_cons.mpr ⟨fw_code61, List.forall_mem_cons.mpr ⟨fw_code62, List.forall_mem_cons.mpr ⟨fw_code63, List.forall_mem_cons.mpr ⟨fw_code64, List.forall_mem_cons.mpr ⟨fw_code65, List.forall_mem_cons.mpr ⟨fw_code66, List.forall_mem_cons.mpr ⟨fw_code67, List.forall_mem_cons.mpr ⟨fw_code68, List.forall_mem_cons.mpr ⟨fw_code69, List.forall_mem_cons.mpr ⟨fw_code70, List.forall_mem_cons.mpr ⟨fw_code71, List.forall_mem_cons.mpr ⟨fw_code72, List.forall_mem_cons.mpr ⟨fw_code73, List.forall_mem_cons.mpr ⟨fw_code74, List.forall_mem_cons.mpr ⟨fw_code75, List.forall_mem_cons.mpr ⟨fw_code76, List.forall_mem_cons.mpr ⟨fw_code77, List.forall_mem_cons.mpr ⟨fw_code78, List.forall_mem_cons.mpr ⟨fw_code79, List.forall_mem_cons.mpr ⟨fw_code80, List.forall_mem_cons.mpr ⟨fw_code81, List.forall_mem_cons.mpr ⟨fw_code82, List.forall_mem_cons.mpr ⟨fw_code83, List.forall_mem_cons.mpr ⟨fw_code84, List.forall_mem_cons.mpr ⟨fw_code85, List.forall_mem_cons.mpr ⟨fw_code86, List.forall_mem_cons.mpr ⟨fw_code87, List.forall_mem_cons.mpr ⟨fw_code88, List.forall_mem_cons.mpr ⟨fw_code89, List.forall_mem_cons.mpr ⟨fw_code90, List.forall_mem_cons.mpr ⟨fw_code91, List.forall_mem_cons.mpr ⟨fw_code92, List.forall_mem_cons.mpr ⟨fw_code93, List.forall_mem_cons.mpr ⟨fw_code94, List.forall_mem_cons.mpr ⟨fw_code95, List.forall_mem_cons.mpr ⟨fw_code96, List.forall_mem_cons.mpr ⟨fw_code97, List.forall_mem_cons.mpr ⟨fw_code98, List.forall_mem_nil _⟩⟩⟩⟩⟩⟩⟩⟩⟩⟩⟩⟩⟩⟩⟩⟩⟩⟩⟩⟩⟩⟩⟩⟩⟩⟩⟩⟩⟩⟩⟩⟩⟩⟩⟩⟩⟩⟩⟩⟩⟩⟩⟩⟩⟩⟩⟩⟩⟩⟩⟩⟩
set_option maxRecDepth 16384 in
theorem fw_others_3_0 : (tables_1_3.take 40).all (fun c => su_isCode c || c.before start1.args0 fs_about) = true := by decide +kernel
set_option maxRecDepth 16384 in
theorem fw_others_3_1 : ((tables_1_3.drop 40).take 40).all (fun c => su_isCode c || c.before start1.args0 fs_about) = true := by decide +kernel
set_option maxRecDepth 16384 in
theorem fw_others_3_2 : (((tables_1_3.drop 40).drop 40).take 40).all (fun c => su_isCode c || c.before start1.args0 fs_about) = true := by decide +kernel
set_option maxRecDepth 16384 in
theorem fw_others_3_3 : ((((tables_1_3.drop 40).drop 40).drop 40).take 40).all (fun c => su_isCode c || c.before start1.args0 fs_about) = true := by decide +kernel
set_option maxRecDepth 16384 in
theorem fw_others_3_4 : (((((tables_1_3.drop 40).drop 40).drop 40).drop 40).take 40).all (fun c => su_isCode c || c.before start1.args0 fs_about) = true := by decide +kernel
set_option maxRecDepth 16384 in
theorem fw_others_3_5 : (((((tables_1_3.drop 40).drop 40).drop 40).drop 40).drop 40).all (fun c => su_isCode c || c.before start1.args0 fs_about) = true := by decide +kernel
set_option maxRecDepth 16384 in
theorem fw_all_3 : tables_1_3.all (fun c => su_isCode c || c.before start1.args0 fs_about) = true := start1.su_all_split _ 40 tables_1_3 fw_others_3_0 (start1.su_all_split _ 40 (tables_1_3.drop 40) fw_others_3_1 (start1.su_all_split _ 40 ((tables_1_3.drop 40).drop 40) fw_others_3_2 (start1.su_all_split _ 40 (((tables_1_3.drop 40).drop 40).drop 40) fw_others_3_3 (start1.su_all_split _ 40 ((((tables_1_3.drop 40).drop 40).drop 40).drop 40) fw_others_3_4 fw_others_3_5))))
theorem fw_words_3 : ∀ c ∈ tables_1_3, c.before start1.args0 fs_about = true := fun c h => su_words fw_all_3 fw_codes_3 c h
set_option maxRecDepth 16384 in
theorem fw_codes_4 : ∀ c ∈ tables_1_4.filter su_isCode, c.before start1.args0 fs_about = true := by
  rw [start1.codes_are_4]
  exact List.forall_mem_cons.mpr ⟨fw_code99, List.forall_mem_cons.mpr ⟨fw_code100, List.forall_mem_cons.mpr ⟨fw_code101, List.forall_mem_cons.mpr ⟨fw_code102, List.forall_mem_cons.mpr ⟨fw_code103, List.forall_mem_cons.mpr ⟨fw_code104, List.forall_mem_cons.mpr ⟨fw_code105, List.forall_mem_cons.mpr ⟨fw_code106, List.forall_mem_cons.mpr ⟨fw_code107, List.forall_mem_cons.mpr ⟨fw_code108, List.forall_mem_cons.mpr ⟨fw_code109, List.forall_mem_cons.mpr ⟨fw_code110, List.forall_mem_cons.mpr ⟨fw_code111, List.forall_mem_cons.mpr ⟨fw_code112, List.forall_mem_cons.mpr ⟨fw_code113, List.forall_mem_cons.mpr ⟨fw_code114, List.forall_mem_cons.mpr ⟨fw_code115, List.forall_mem_cons.mpr ⟨fw_code116, List.forall_mem_cons.mpr ⟨fw_code117, List.forall_mem_cons.mpr ⟨fw_code118, List.forall_mem_cons.mpr ⟨fw_code119, List.forall_mem_cons.mpr ⟨fw_code120, List.forall_mem_cons.mpr ⟨fw_code121, List.forall_mem_cons.mpr ⟨fw_code122, List.forall_mem_cons.mpr ⟨fw_code123, List.forall_mem_nil _⟩⟩⟩⟩⟩⟩⟩⟩⟩⟩⟩⟩⟩⟩⟩⟩⟩⟩⟩⟩⟩⟩⟩⟩⟩
set_option maxRecDepth 16384 in
theorem fw_others_4_0 : (tables_1_4.take 40).all (fun c => su_isCode c || c.before start1.args0 fs_about) = true := by decide +kernel
set_option maxRecDepth 16384 in
theorem fw_others_4_1 : ((tables_1_4.drop 40).take 40).all (fun c => su_isCode c || c.before start1.args0 fs_about) = true := by decide +kernel
set_option maxRecDepth 16384 in
theorem fw_others_4_2 : (((tables_1_4.drop 40).drop 40).take 40).all (fun c => su_isCode c || c.before start1.args0 fs_about) = true := by decide +kernel
set_option maxRecDepth 16384 in
theorem fw_others_4_3 : ((((tables_1_4.drop 40).drop 40).drop 40).take 37).all (fun c => su_isCode c || c.before start1.args0 fs_about) = true := by decide +kernel
set_option maxRecDepth 16384 in
theorem fw_others_4_4 : (((((tables_1_4.drop 40).drop 40).drop 40).drop 37).take 40).all (fun c => su_isCode c || c.before start1.args0 fs_about) = true := by decide +kernel
set_option maxRecDepth 16384 in
theorem fw_others_4_5 : ((((((tables_1_4.drop 40).drop 40).drop 40).drop 37).drop 40).take 40).all (fun c => su_isCode c || c.before start1.args0 fs_about) = true := by decide +kernel
set_option maxRecDepth 16384 in
theorem fw_others_4_6 : ((((((tables_1_4.drop 40).drop 40).drop 40).drop 37).drop 40).drop 40).all (fun c => su_isCode c || c.before start1.args0 fs_about) = true := by decide +kernel
set_option maxRecDepth 16384 in
theorem fw_all_4 : tables_1_4.all (fun c => su_isCode c || c.before start1.args0 fs_about) = true := start1.su_all_split _ 40 tables_1_4 fw_others_4_0 (start1.su_all_split _ 40 (tables_1_4.drop 40) fw_others_4_1 (start1.su_all_split _ 40 ((tables_1_4.drop 40).drop 40) fw_others_4_2 (start1.su_all_split _ 37 (((tables_1_4.drop 40).drop 40).drop 40) fw_others_4_3 (start1.su_all_split _ 40 ((((tables_1_4.drop 40).drop 40).drop 40).drop 37) fw_others_4_4 (start1.su_all_split _ 40 (((((tables_1_4.drop 40).drop 40).drop 40).drop 37).drop 40) fw_others_4_5 fw_others_4_6)))))
theorem fw_words_4 : ∀ c ∈ tables_1_4, c.before start1.args0 fs_about = true := fun c h => su_words fw_all_4 fw_codes_4 c h
set_option maxRecDepth 16384 in
theorem fw_codes_5 : ∀ c ∈ tables_1_5.filter su_isCode, c.before start1.args0 fs_about = true := by
  rw [start1.codes_are_5]
  exact List.forall_mem_cons.mpr ⟨fw_code124, List.forall_mem_cons.mpr ⟨fw_code125, List.forall_mem_cons.mpr ⟨fw_code126, List.forall_mem_cons.mpr ⟨fw_code127, List.forall_mem_cons.mpr ⟨fw_code128, List.forall_mem_cons.mpr ⟨fw_code129, List.forall_mem_cons.mpr ⟨fw_code130, List.forall_mem_cons.mpr ⟨fw_code131, List.forall_mem_cons.mpr ⟨fw_code132, List.forall_mem_cons.mpr ⟨fw_code133, List.forall_mem_cons.mpr ⟨fw_code134, List.forall_mem_cons.mpr ⟨fw_code135, List.forall_mem_cons.mpr ⟨fw_code136, List.forall_mem_cons.mpr ⟨fw_code137, List.forall_mem_cons.mpr ⟨fw_code138, List.forall_mem_cons.mpr ⟨fw_code139, List.forall_mem_cons.mpr ⟨fw_code140, List.forall_mem_cons.mpr ⟨fw_code141, List.forall_mem_cons.mpr ⟨fw_code142, List.forall_mem_cons.mpr ⟨fw_code143, List.forall_mem_cons.mpr ⟨fw_code144, List.forall_mem_cons.mpr ⟨fw_code145, List.forall_mem_cons.mpr ⟨fw_code146, List.forall_mem_cons.mpr ⟨fw_code147, List.forall_mem_cons.mpr ⟨fw_code148, List.forall_mem_cons.mpr ⟨fw_code149, List.forall_mem_cons.mpr ⟨fw_code150, List.forall_mem_cons.mpr ⟨fw_code151, List.forall_mem_cons.mpr ⟨fw_code152, List.forall_mem_cons.mpr ⟨fw_code153, List.forall_mem_cons.mpr ⟨fw_code154, List.forall_mem_cons.mpr ⟨fw_code155, List.forall_mem_cons.mpr ⟨fw_code156, List.forall_mem_cons.mpr ⟨fw_code157, List.forall_mem_cons.mpr ⟨fw_code158, List.forall_mem_cons.mpr ⟨fw_code159, List.forall_mem_cons.mpr ⟨fw_code160, List.forall_mem_cons.mpr ⟨fw_code161, List.forall_mem_cons.mpr ⟨fw_code162, List.forall_mem_cons.mpr ⟨fw_code163, List.forall_mem_cons.mpr ⟨fw_code164, List.forall_mem_cons.mpr ⟨fw_code165, List.forall_mem_cons.mpr ⟨fw_code166, List.forall_mem_cons.mpr ⟨fw_code167, List.forall_mem_cons.mpr ⟨fw_code168, List.forall_mem_cons.mpr ⟨fw_code169, List.forall_mem_cons.mpr ⟨fw_code170, List.forall_mem_cons.mpr ⟨fw_code171, List.forall_mem_cons.mpr ⟨fw_code172, List.forall_mem_cons.mpr ⟨fw_code173, List.forall_mem_cons.mpr ⟨fw_code174, List.forall_mem_cons.mpr ⟨fw_code175, List.forall_mem_cons.mpr ⟨fw_code176, List.forall_mem_nil _⟩⟩⟩⟩⟩⟩⟩⟩⟩⟩⟩⟩⟩⟩⟩⟩⟩⟩⟩⟩⟩⟩⟩⟩⟩⟩⟩⟩⟩⟩⟩⟩⟩⟩⟩⟩⟩⟩⟩⟩⟩⟩⟩⟩⟩⟩⟩⟩⟩⟩⟩⟩⟩
set_option maxRecDepth 16384 in
theorem fw_others_5_0 : (tables_1_5.take 40).all (fun c => su_isCode c || c.before start1.args0 fs_about) = true := by decide +kernel
set_option maxRecDepth 16384 in
theorem fw_others_5_1 : ((tables_1_5.drop 40).take 40).all (fun c => su_isCode c || c.before start1.args0 fs_about) = true := by decide +kernel
set_option maxRecDepth 16384 in
theorem fw_others_5_2 : (((tables_1_5.drop 40).drop 40).take 40).all (fun c => su_isCode c || c.before start1.args0 fs_about) = true := by decide +kernel
set_option maxRecDepth 16384 in
theorem fw_others_5_3 : ((((tables_1_5.drop 40).drop 40).drop 40).take 40).all (fun c => su_isCode c || c.before start1.args0 fs_about) = true := by decide +kernel
set_option maxRecDepth 16384 in
theorem fw_others_5_4 : (((((tables_1_5.drop 40).drop 40).drop 40).drop 40).take 40).all (fun c => su_isCode c || c.before start1.args0 fs_about) = true := by decide +kernel
set_option maxRecDepth 16384 in
theorem fw_others_5_5 : (((((tables_1_5.drop 40).drop 40).drop 40).drop 40).drop 40).all (fun c => su_isCode c || c.before start1.args0 fs_about) = true := by decide +kernel
set_option maxRecDepth 16384 in
theorem fw_all_5 : tables_1_5.all (fun c => su_isCode c || c.before start1.args0 fs_about) = true := start1.su_all_split _ 40 tables_1_5 fw_others_5_0 (start1.su_all_split _ 40 (tables_1_5.drop 40) fw_others_5_1 (start1.su_all_split _ 40 ((tables_1_5.drop 40).drop 40) fw_others_5_2 (start1.su_all_split _ 40 (((tables_1_5.drop 40).drop 40).drop 40) fw_others_5_3 (start1.su_all_split _ 40 ((((tables_1_5.drop 40).drop 40).drop 40).drop 40) fw_others_5_4 fw_others_5_5))))
theorem fw_words_5 : ∀ c ∈ tables_1_5, c.before start1.args0 fs_about = true := fun c h => su_words fw_all_5 fw_codes_5 c h
set_option maxRecDepth 16384 in
theorem fw_codes_6 : ∀ c ∈ tables_1_6.filter su_isCode, c.before start1.args0 fs_about = true := by
  rw [start1.codes_are_6]
  exact List.forall_mem_cons.mpr ⟨fw_code177, List.forall_mem_cons.mpr ⟨fw_code178, List.forall_mem_cons.mpr ⟨fw_code179, List.forall_mem_cons.mpr ⟨fw_code180, List.forall_mem_cons.mpr ⟨fw_code181, List.forall_mem_cons.mpr ⟨fw_code182, List.forall_mem_cons.mpr ⟨fw_code183, List.forall_mem_cons.mpr ⟨fw_code184, List.forall_mem_cons.mpr ⟨fw_code185, List.forall_mem_cons.mpr ⟨fw_code186, List.forall_mem_cons.mpr ⟨fw_code187, List.forall_mem_cons.mpr ⟨fw_code188, List.forall_mem_cons.mpr ⟨fw_code189, List.forall_mem_cons.mpr ⟨fw_code190, List.forall_mem_cons.mpr ⟨fw_code191, List.forall_mem_cons.mpr ⟨fw_code192, List.forall_mem_cons.mpr ⟨fw_code193, List.forall_mem_cons.mpr ⟨fw_code194, List.forall_mem_cons.mpr ⟨fw_code195, List.forall_mem_cons.mpr ⟨fw_code196, List.forall_mem_nil _⟩⟩⟩⟩⟩⟩⟩⟩⟩⟩⟩⟩⟩⟩⟩⟩⟩⟩⟩⟩
set_option maxRecDepth 16384 in
theorem fw_others_6_0 : (tables_1_6.take 40).all (fun c => su_isCode c || c.before start1.args0 fs_about) = true := by decide +kernel
set_option maxRecDepth 16384 in
theorem fw_others_6_1 : ((tables_1_6.drop 40).take 40).all (fun c => su_isCode c || c.before start1.args0 fs_about) = true := by decide +kernel
set_option maxRecDepth 16384 in
theorem fw_others_6_2 : ((tables_1_6.drop 40).drop 40).all (fun c => su_isCode c || c.before start1.args0 fs_about) = true := by decide +kernel
