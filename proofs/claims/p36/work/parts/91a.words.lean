theorem fg_code {s : State} {k : Class} {H : Heap} {y : MethodName} {b : ByteArray} {n : Nat} {r : Option FieldType} {a : Array Value} (h : (Cond.code y b n r).before a s = true) :
    (Cond.code y b n r).before a { s with vm := { s.vm with classes := s.vm.classes.push k }, heap := H } = true := by
  have hget : ∀ (c : Nat) (q : Class), s.vm.classes[c]? = some q → (s.vm.classes.push k)[c]? = some q := fun c q hq => by
    have hlt : c < s.vm.classes.size := (Array.getElem?_eq_some_iff.mp hq).1
    rw [Array.getElem?_push, if_neg (by omega)]; exact hq
  cases hn : s.methodNamed? y with
  | none => simp [Cond.before, Cond.holds, Cond.value, hn] at h
  | some m =>
    have hn' : State.methodNamed? { s with vm := { s.vm with classes := s.vm.classes.push k }, heap := H } y = some m := by
      simp only [State.methodNamed?, Option.bind_eq_bind, Option.bind_eq_some_iff] at hn ⊢
      obtain ⟨c, hc, q, hq, i, hi, hm⟩ := hn
      refine ⟨c, ?_, q, hget c q hq, i, hi, hm⟩
      simp only [Vm.findClass] at hc ⊢
      rw [Array.findIdx?_push, hc]; rfl
    cases hv : s.vm.method? m with
    | none => simp [Cond.before, Cond.holds, Cond.value, hn, hv] at h
    | some me =>
      have hv' : Vm.method? { s.vm with classes := s.vm.classes.push k } m = some me := by
        simp only [Vm.method?, Option.bind_eq_bind, Option.bind_eq_some_iff] at hv ⊢
        obtain ⟨q, hq, hm⟩ := hv
        exact ⟨q, hget _ q hq, hm⟩
      simp only [Cond.before, Cond.holds, Cond.value, hn, hn', hv, hv', Option.bind_some] at h ⊢
      exact h
theorem fg_isCode {c : Jvm.Cond} (h : su_isCode c = true) : ∃ y b n r, c = Jvm.Cond.code y b n r := by
  cases c <;> first | exact ⟨_, _, _, _, rfl⟩ | exact absurd h Bool.false_ne_true
theorem fw_code {c : Jvm.Cond} (h : su_isCode c = true) (hc : c.before start1.args0 start1.about = true) : c.before start1.args0 fs_about = true := by
  obtain ⟨y, b, n, r, rfl⟩ := fg_isCode h
  exact fg_code hc
theorem fw_law : (Cond.code x code maxLocals ret).before start1.args0 fs_about = true := fw_code rfl start1.word_code
theorem fw_codes_1 : ∀ c ∈ tables_1_1.filter su_isCode, c.before start1.args0 fs_about = true := fun c h => fw_code (List.mem_filter.mp h).2 (start1.words_1 c (List.mem_filter.mp h).1)
set_option maxRecDepth 16384 in
theorem fw_others_1_0 : (tables_1_1.take 40).all (fun c => su_isCode c || c.before start1.args0 fs_about) = true := by decide +kernel
set_option maxRecDepth 16384 in
theorem fw_others_1_1 : ((tables_1_1.drop 40).take 40).all (fun c => su_isCode c || c.before start1.args0 fs_about) = true := by decide +kernel
set_option maxRecDepth 16384 in
theorem fw_others_1_2 : (((tables_1_1.drop 40).drop 40).take 40).all (fun c => su_isCode c || c.before start1.args0 fs_about) = true := by decide +kernel
set_option maxRecDepth 16384 in
theorem fw_others_1_3 : ((((tables_1_1.drop 40).drop 40).drop 40).take 40).all (fun c => su_isCode c || c.before start1.args0 fs_about) = true := by decide +kernel
set_option maxRecDepth 16384 in
theorem fw_others_1_4 : (((((tables_1_1.drop 40).drop 40).drop 40).drop 40).take 40).all (fun c => su_isCode c || c.before start1.args0 fs_about) = true := by decide +kernel
set_option maxRecDepth 16384 in
theorem fw_others_1_5 : (((((tables_1_1.drop 40).drop 40).drop 40).drop 40).drop 40).all (fun c => su_isCode c || c.before start1.args0 fs_about) = true := by decide +kernel
set_option maxRecDepth 16384 in
theorem fw_all_1 : tables_1_1.all (fun c => su_isCode c || c.before start1.args0 fs_about) = true := start1.su_all_split _ 40 tables_1_1 fw_others_1_0 (start1.su_all_split _ 40 (tables_1_1.drop 40) fw_others_1_1 (start1.su_all_split _ 40 ((tables_1_1.drop 40).drop 40) fw_others_1_2 (start1.su_all_split _ 40 (((tables_1_1.drop 40).drop 40).drop 40) fw_others_1_3 (start1.su_all_split _ 40 ((((tables_1_1.drop 40).drop 40).drop 40).drop 40) fw_others_1_4 fw_others_1_5))))
theorem fw_words_1 : ∀ c ∈ tables_1_1, c.before start1.args0 fs_about = true := fun c h => su_words fw_all_1 fw_codes_1 c h
theorem fw_codes_2 : ∀ c ∈ tables_1_2.filter su_isCode, c.before start1.args0 fs_about = true := fun c h => fw_code (List.mem_filter.mp h).2 (start1.words_2 c (List.mem_filter.mp h).1)
set_option maxRecDepth 16384 in
theorem fw_others_2_0 : (tables_1_2.take 40).all (fun c => su_isCode c || c.before start1.args0 fs_about) = true := by decide +kernel
set_option maxRecDepth 16384 in
theorem fw_others_2_1 : ((tables_1_2.drop 40).take 40).all (fun c => su_isCode c || c.before start1.args0 fs_about) = true := by decide +kernel
set_option maxRecDepth 16384 in
theorem fw_others_2_2 : (((tables_1_2.drop 40).drop 40).take 40).all (fun c => su_isCode c || c.before start1.args0 fs_about) = true := by decide +kernel
set_option maxRecDepth 16384 in
theorem fw_others_2_3 : ((((tables_1_2.drop 40).drop 40).drop 40).take 40).all (fun c => su_isCode c || c.before start1.args0 fs_about) = true := by decide +kernel
set_option maxRecDepth 16384 in
theorem fw_others_2_4 : (((((tables_1_2.drop 40).drop 40).drop 40).drop 40).take 40).all (fun c => su_isCode c || c.before start1.args0 fs_about) = true := by decide +kernel
set_option maxRecDepth 16384 in
theorem fw_others_2_5 : ((((((tables_1_2.drop 40).drop 40).drop 40).drop 40).drop 40).take 12).all (fun c => su_isCode c || c.before start1.args0 fs_about) = true := by decide +kernel
set_option maxRecDepth 16384 in
theorem fw_others_2_6 : (((((((tables_1_2.drop 40).drop 40).drop 40).drop 40).drop 40).drop 12).take 16).all (fun c => su_isCode c || c.before start1.args0 fs_about) = true := by decide +kernel
set_option maxRecDepth 16384 in
theorem fw_others_2_7 : (((((((tables_1_2.drop 40).drop 40).drop 40).drop 40).drop 40).drop 12).drop 16).all (fun c => su_isCode c || c.before start1.args0 fs_about) = true := by decide +kernel
set_option maxRecDepth 16384 in
theorem fw_all_2 : tables_1_2.all (fun c => su_isCode c || c.before start1.args0 fs_about) = true := start1.su_all_split _ 40 tables_1_2 fw_others_2_0 (start1.su_all_split _ 40 (tables_1_2.drop 40) fw_others_2_1 (start1.su_all_split _ 40 ((tables_1_2.drop 40).drop 40) fw_others_2_2 (start1.su_all_split _ 40 (((tables_1_2.drop 40).drop 40).drop 40) fw_others_2_3 (start1.su_all_split _ 40 ((((tables_1_2.drop 40).drop 40).drop 40).drop 40) fw_others_2_4 (start1.su_all_split _ 12 (((((tables_1_2.drop 40).drop 40).drop 40).drop 40).drop 40) fw_others_2_5 (start1.su_all_split _ 16 ((((((tables_1_2.drop 40).drop 40).drop 40).drop 40).drop 40).drop 12) fw_others_2_6 fw_others_2_7))))))
theorem fw_words_2 : ∀ c ∈ tables_1_2, c.before start1.args0 fs_about = true := fun c h => su_words fw_all_2 fw_codes_2 c h
theorem fw_codes_3 : ∀ c ∈ tables_1_3.filter su_isCode, c.before start1.args0 fs_about = true := fun c h => fw_code (List.mem_filter.mp h).2 (start1.words_3 c (List.mem_filter.mp h).1)
set_option maxRecDepth 16384 in
theorem fw_others_3_0 : (tables_1_3.take 40).all (fun c => su_isCode c || c.before start1.args0 fs_about) = true := by decide +kernel
set_option maxRecDepth 16384 in
theorem fw_others_3_1 : ((tables_1_3.drop 40).take 40).all (fun c => su_isCode c || c.before start1.args0 fs_about) = true := by decide +kernel
set_option maxRecDepth 16384 in
theorem fw_others_3_2 : (((tables_1_3.drop 40).drop 40).take 40).all (fun c => su_isCode c || c.before start1.args0 fs_about) = true := by decide +kernel
set_option maxRecDepth 16384 in
theorem fw_others_3_3 : ((((tables_1_3.drop 40).drop 40).drop 40).take 40).all (fun c => su_isCode c || c.before start1.args0 fs_about) = true := by decide +kernel
set_option maxRecDepth 16384 in
theorem fw_others_3_4 : (((((tables_1_3.drop 40).drop 40).drop 40).drop 40).take 40).all (fun c => su_isCode c || c.before start1.args0 fs_about) = true := by decide +kernel
set_option maxRecDepth 16384 in
theorem fw_others_3_5 : (((((tables_1_3.drop 40).drop 40).drop 40).drop 40).drop 40).all (fun c => su_isCode c || c.before start1.args0 fs_about) = true := by decide +kernel
set_option maxRecDepth 16384 in
theorem fw_all_3 : tables_1_3.all (fun c => su_isCode c || c.before start1.args0 fs_about) = true := start1.su_all_split _ 40 tables_1_3 fw_others_3_0 (start1.su_all_split _ 40 (tables_1_3.drop 40) fw_others_3_1 (start1.su_all_split _ 40 ((tables_1_3.drop 40).drop 40) fw_others_3_2 (start1.su_all_split _ 40 (((tables_1_3.drop 40).drop 40).drop 40) fw_others_3_3 (start1.su_all_split _ 40 ((((tables_1_3.drop 40).drop 40).drop 40).drop 40) fw_others_3_4 fw_others_3_5))))
theorem fw_words_3 : ∀ c ∈ tables_1_3, c.before start1.args0 fs_about = true := fun c h => su_words fw_all_3 fw_codes_3 c h
theorem fw_codes_4 : ∀ c ∈ tables_1_4.filter su_isCode, c.before start1.args0 fs_about = true := fun c h => fw_code (List.mem_filter.mp h).2 (start1.words_4 c (List.mem_filter.mp h).1)
set_option maxRecDepth 16384 in
theorem fw_others_4_0 : (tables_1_4.take 40).all (fun c => su_isCode c || c.before start1.args0 fs_about) = true := by decide +kernel
set_option maxRecDepth 16384 in
theorem fw_others_4_1 : ((tables_1_4.drop 40).take 40).all (fun c => su_isCode c || c.before start1.args0 fs_about) = true := by decide +kernel
set_option maxRecDepth 16384 in
theorem fw_others_4_2 : (((tables_1_4.drop 40).drop 40).take 40).all (fun c => su_isCode c || c.before start1.args0 fs_about) = true := by decide +kernel
set_option maxRecDepth 16384 in
theorem fw_others_4_3 : ((((tables_1_4.drop 40).drop 40).drop 40).take 37).all (fun c => su_isCode c || c.before start1.args0 fs_about) = true := by decide +kernel
set_option maxRecDepth 16384 in
theorem fw_others_4_4 : (((((tables_1_4.drop 40).drop 40).drop 40).drop 37).take 40).all (fun c => su_isCode c || c.before start1.args0 fs_about) = true := by decide +kernel
set_option maxRecDepth 16384 in
theorem fw_others_4_5 : ((((((tables_1_4.drop 40).drop 40).drop 40).drop 37).drop 40).take 40).all (fun c => su_isCode c || c.before start1.args0 fs_about) = true := by decide +kernel
set_option maxRecDepth 16384 in
theorem fw_others_4_6 : ((((((tables_1_4.drop 40).drop 40).drop 40).drop 37).drop 40).drop 40).all (fun c => su_isCode c || c.before start1.args0 fs_about) = true := by decide +kernel
set_option maxRecDepth 16384 in
theorem fw_all_4 : tables_1_4.all (fun c => su_isCode c || c.before start1.args0 fs_about) = true := start1.su_all_split _ 40 tables_1_4 fw_others_4_0 (start1.su_all_split _ 40 (tables_1_4.drop 40) fw_others_4_1 (start1.su_all_split _ 40 ((tables_1_4.drop 40).drop 40) fw_others_4_2 (start1.su_all_split _ 37 (((tables_1_4.drop 40).drop 40).drop 40) fw_others_4_3 (start1.su_all_split _ 40 ((((tables_1_4.drop 40).drop 40).drop 40).drop 37) fw_others_4_4 (start1.su_all_split _ 40 (((((tables_1_4.drop 40).drop 40).drop 40).drop 37).drop 40) fw_others_4_5 fw_others_4_6)))))
theorem fw_words_4 : ∀ c ∈ tables_1_4, c.before start1.args0 fs_about = true := fun c h => su_words fw_all_4 fw_codes_4 c h
theorem fw_codes_5 : ∀ c ∈ tables_1_5.filter su_isCode, c.before start1.args0 fs_about = true := fun c h => fw_code (List.mem_filter.mp h).2 (start1.words_5 c (List.mem_filter.mp h).1)
set_option maxRecDepth 16384 in
theorem fw_others_5_0 : (tables_1_5.take 40).all (fun c => su_isCode c || c.before start1.args0 fs_about) = true := by decide +kernel
set_option maxRecDepth 16384 in
theorem fw_others_5_1 : ((tables_1_5.drop 40).take 40).all (fun c => su_isCode c || c.before start1.args0 fs_about) = true := by decide +kernel
set_option maxRecDepth 16384 in
theorem fw_others_5_2 : (((tables_1_5.drop 40).drop 40).take 40).all (fun c => su_isCode c || c.before start1.args0 fs_about) = true := by decide +kernel
set_option maxRecDepth 16384 in
theorem fw_others_5_3 : ((((tables_1_5.drop 40).drop 40).drop 40).take 40).all (fun c => su_isCode c || c.before start1.args0 fs_about) = true := by decide +kernel
set_option maxRecDepth 16384 in
theorem fw_others_5_4 : (((((tables_1_5.drop 40).drop 40).drop 40).drop 40).take 40).all (fun c => su_isCode c || c.before start1.args0 fs_about) = true := by decide +kernel
set_option maxRecDepth 16384 in
theorem fw_others_5_5 : (((((tables_1_5.drop 40).drop 40).drop 40).drop 40).drop 40).all (fun c => su_isCode c || c.before start1.args0 fs_about) = true := by decide +kernel
set_option maxRecDepth 16384 in
theorem fw_all_5 : tables_1_5.all (fun c => su_isCode c || c.before start1.args0 fs_about) = true := start1.su_all_split _ 40 tables_1_5 fw_others_5_0 (start1.su_all_split _ 40 (tables_1_5.drop 40) fw_others_5_1 (start1.su_all_split _ 40 ((tables_1_5.drop 40).drop 40) fw_others_5_2 (start1.su_all_split _ 40 (((tables_1_5.drop 40).drop 40).drop 40) fw_others_5_3 (start1.su_all_split _ 40 ((((tables_1_5.drop 40).drop 40).drop 40).drop 40) fw_others_5_4 fw_others_5_5))))
theorem fw_words_5 : ∀ c ∈ tables_1_5, c.before start1.args0 fs_about = true := fun c h => su_words fw_all_5 fw_codes_5 c h
theorem fw_codes_6 : ∀ c ∈ tables_1_6.filter su_isCode, c.before start1.args0 fs_about = true := fun c h => fw_code (List.mem_filter.mp h).2 (start1.words_6 c (List.mem_filter.mp h).1)
set_option maxRecDepth 16384 in
theorem fw_others_6_0 : (tables_1_6.take 40).all (fun c => su_isCode c || c.before start1.args0 fs_about) = true := by decide +kernel
set_option maxRecDepth 16384 in
theorem fw_others_6_1 : ((tables_1_6.drop 40).take 40).all (fun c => su_isCode c || c.before start1.args0 fs_about) = true := by decide +kernel
set_option maxRecDepth 16384 in
theorem fw_others_6_2 : ((tables_1_6.drop 40).drop 40).all (fun c => su_isCode c || c.before start1.args0 fs_about) = true := by decide +kernel
set_option maxRecDepth 16384 in
theorem fw_all_6 : tables_1_6.all (fun c => su_isCode c || c.before start1.args0 fs_about) = true := start1.su_all_split _ 40 tables_1_6 fw_others_6_0 (start1.su_all_split _ 40 (tables_1_6.drop 40) fw_others_6_1 fw_others_6_2)
theorem fw_words_6 : ∀ c ∈ tables_1_6, c.before start1.args0 fs_about = true := fun c h => su_words fw_all_6 fw_codes_6 c h
theorem fw_words : ∀ c ∈ (Cond.code x code maxLocals ret :: tables_1), c.before start1.args0 fs_about = true := by
  intro c hc
  rcases List.mem_cons.mp hc with h | h
  · rw [h]; exact fw_law
  · have h1 : c ∈ tables_1_1 ++ (tables_1_2 ++ (tables_1_3 ++ (tables_1_4 ++ (tables_1_5 ++ tables_1_6)))) := h
    rcases List.mem_append.mp h1 with h2 | h1
    · exact fw_words_1 c h2
    rcases List.mem_append.mp h1 with h2 | h1
    · exact fw_words_2 c h2
    rcases List.mem_append.mp h1 with h2 | h1
    · exact fw_words_3 c h2
    rcases List.mem_append.mp h1 with h2 | h1
    · exact fw_words_4 c h2
    rcases List.mem_append.mp h1 with h2 | h1
    · exact fw_words_5 c h2
    exact fw_words_6 c h1
