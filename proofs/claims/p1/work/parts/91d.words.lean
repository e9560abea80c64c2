set_option maxRecDepth 16384 in
theorem fw_all_6 : tables_1_6.all (fun c => su_isCode c || c.before start1.args0 fs_about) = true := start1.su_all_split _ 40 tables_1_6 fw_others_6_0 (start1.su_all_split _ 40 (tables_1_6.drop 40) fw_others_6_1 fw_others_6_2)
theorem fw_words_6 : ∀ c ∈ tables_1_6, c.before start1.args0 fs_about = true := fun c h => su_words fw_all_6 fw_codes_6 c h
theorem fw_words : ∀ c ∈ (Cond.code x code maxLocals ret :: tables_1), c.before start1.args0 fs_about = true := by
  intro c hc
  rcases List.mem_cons.mp hc with h | h
  · rw [h]; exact fw_law
  · have h1 : c ∈ tables_1_1 ++ (tables_1_2 ++ (tables_1_3 ++ (tables_1_4 ++ (tables_1_5 ++ tables_1_6)))) := h
    rcases List.mem_append.mp h1 with h2 | h1
    · exact fw_words_1 c h2
    rcases List.mem_append.mp h1 with h2 | h1
    · exact fw_words_2 c h2
    rcases List.mem_append.mp h1 with h2 | h1
    · exact fw_words_3 c h2
    rcases List.mem_append.mp h1 with h2 | h1
    · exact fw_words_4 c h2
    rcases List.mem_append.mp h1 with h2 | h1
    · exact fw_words_5 c h2
    exact fw_words_6 c h1
