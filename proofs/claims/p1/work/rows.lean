section
/-! a start that meets every premise, in which PLAIN_POST is an array of int of a class of its own -/
def fs_method : Method := Lib.HandJ.method "clone" "()Ljava/lang/Object;" [] (some (.object "java/lang/Object")) 0x1 1 ⟨#[0x2a, 0xbf]⟩
def fs_class : Class := { start1.cArr "[I" 21 .int with methods := #[fs_method] }
def fs_about : State := { start1.about with
  vm := { start1.about.vm with classes := start1.about.vm.classes.push fs_class }
  heap := start1.about.heap.modify 5 (fun c => { c with cls := 29 }) }
theorem fs_new : start1.about.vm.classes.size = 29 := by decide +kernel
end
section
theorem fg_code {s : State} {k : Class} {H : Heap} {y : MethodName} {b : ByteArray} {n : Nat} {r : Option FieldType} {a : Array Value} (h : (Cond.code y b n r).before a s = true) :
    (Cond.code y b n r).before a { s with vm := { s.vm with classes := s.vm.classes.push k }, heap := H } = true := by
  have hget : ∀ (c : Nat) (q : Class), s.vm.classes[c]? = some q → (s.vm.classes.push k)[c]? = some q := fun c q hq => by
    have hlt : c < s.vm.classes.size := (Array.getElem?_eq_some_iff.mp hq).1
    rw [Array.getElem?_push, if_neg (by omega)]; exact hq
  cases hn : s.methodNamed? y with
  | none => simp [Cond.before, Cond.holds, Cond.value, hn] at h
  | some m =>
    have hn' : State.methodNamed? { s with vm := { s.vm with classes := s.vm.classes.push k }, heap := H } y = some m := by
      simp only [State.methodNamed?, Option.bind_eq_bind, Option.bind_eq_some_iff] at hn ⊢
      obtain ⟨c, hc, q, hq, i, hi, hm⟩ := hn
      refine ⟨c, ?_, q, hget c q hq, i, hi, hm⟩
      simp only [Vm.findClass] at hc ⊢
      rw [Array.findIdx?_push, hc]; rfl
    cases hv : s.vm.method? m with
    | none => simp [Cond.before, Cond.holds, Cond.value, hn, hv] at h
    | some me =>
      have hv' : Vm.method? { s.vm with classes := s.vm.classes.push k } m = some me := by
        simp only [Vm.method?, Option.bind_eq_bind, Option.bind_eq_some_iff] at hv ⊢
        obtain ⟨q, hq, hm⟩ := hv
        exact ⟨q, hget _ q hq, hm⟩
      simp only [Cond.before, Cond.holds, Cond.value, hn, hn', hv, hv', Option.bind_some] at h ⊢
      exact h
theorem fg_isCode {c : Jvm.Cond} (h : su_isCode c = true) : ∃ y b n r, c = Jvm.Cond.code y b n r := by
  cases c <;> first | exact ⟨_, _, _, _, rfl⟩ | exact absurd h Bool.false_ne_true
theorem fw_code {c : Jvm.Cond} (h : su_isCode c = true) (hc : c.before start1.args0 start1.about = true) : c.before start1.args0 fs_about = true := by
  obtain ⟨y, b, n, r, rfl⟩ := fg_isCode h
  exact fg_code hc
theorem fw_law : (Cond.code x code maxLocals ret).before start1.args0 fs_about = true := fw_code rfl start1.word_code
theorem fw_codes_1 : ∀ c ∈ tables_1_1.filter su_isCode, c.before start1.args0 fs_about = true := fun c h => fw_code (List.mem_filter.mp h).2 (start1.words_1 c (List.mem_filter.mp h).1)
set_option maxRecDepth 16384 in
theorem fw_others_1_0 : (tables_1_1.take 40).all (fun c => su_isCode c || c.before start1.args0 fs_about) = true := by decide +kernel
set_option maxRecDepth 16384 in
theorem fw_others_1_1 : ((tables_1_1.drop 40).take 40).all (fun c => su_isCode c || c.before start1.args0 fs_about) = true := by decide +kernel
set_option maxRecDepth 16384 in
theorem fw_others_1_2 : (((tables_1_1.drop 40).drop 40).take 40).all (fun c => su_isCode c || c.before start1.args0 fs_about) = true := by decide +kernel
set_option maxRecDepth 16384 in
theorem fw_others_1_3 : ((((tables_1_1.drop 40).drop 40).drop 40).take 40).all (fun c => su_isCode c || c.before start1.args0 fs_about) = true := by decide +kernel
set_option maxRecDepth 16384 in
theorem fw_others_1_4 : (((((tables_1_1.drop 40).drop 40).drop 40).drop 40).take 40).all (fun c => su_isCode c || c.before start1.args0 fs_about) = true := by decide +kernel
set_option maxRecDepth 16384 in
theorem fw_others_1_5 : (((((tables_1_1.drop 40).drop 40).drop 40).drop 40).drop 40).all (fun c => su_isCode c || c.before start1.args0 fs_about) = true := by decide +kernel
set_option maxRecDepth 16384 in
theorem fw_all_1 : tables_1_1.all (fun c => su_isCode c || c.before start1.args0 fs_about) = true := start1.su_all_split _ 40 tables_1_1 fw_others_1_0 (start1.su_all_split _ 40 (tables_1_1.drop 40) fw_others_1_1 (start1.su_all_split _ 40 ((tables_1_1.drop 40).drop 40) fw_others_1_2 (start1.su_all_split _ 40 (((tables_1_1.drop 40).drop 40).drop 40) fw_others_1_3 (start1.su_all_split _ 40 ((((tables_1_1.drop 40).drop 40).drop 40).drop 40) fw_others_1_4 fw_others_1_5))))
theorem fw_words_1 : ∀ c ∈ tables_1_1, c.before start1.args0 fs_about = true := fun c h => su_words fw_all_1 fw_codes_1 c h
theorem fw_codes_2 : ∀ c ∈ tables_1_2.filter su_isCode, c.before start1.args0 fs_about = true := fun c h => fw_code (List.mem_filter.mp h).2 (start1.words_2 c (List.mem_filter.mp h).1)
set_option maxRecDepth 16384 in
theorem fw_others_2_0 : (tables_1_2.take 40).all (fun c => su_isCode c || c.before start1.args0 fs_about) = true := by decide +kernel
set_option maxRecDepth 16384 in
theorem fw_others_2_1 : ((tables_1_2.drop 40).take 40).all (fun c => su_isCode c || c.before start1.args0 fs_about) = true := by decide +kernel
set_option maxRecDepth 16384 in
theorem fw_others_2_2 : (((tables_1_2.drop 40).drop 40).take 40).all (fun c => su_isCode c || c.before start1.args0 fs_about) = true := by decide +kernel
set_option maxRecDepth 16384 in
theorem fw_others_2_3 : ((((tables_1_2.drop 40).drop 40).drop 40).take 40).all (fun c => su_isCode c || c.before start1.args0 fs_about) = true := by decide +kernel
set_option maxRecDepth 16384 in
theorem fw_others_2_4 : (((((tables_1_2.drop 40).drop 40).drop 40).drop 40).take 40).all (fun c => su_isCode c || c.before start1.args0 fs_about) = true := by decide +kernel
set_option maxRecDepth 16384 in
theorem fw_others_2_5 : ((((((tables_1_2.drop 40).drop 40).drop 40).drop 40).drop 40).take 12).all (fun c => su_isCode c || c.before start1.args0 fs_about) = true := by decide +kernel
set_option maxRecDepth 16384 in
theorem fw_others_2_6 : (((((((tables_1_2.drop 40).drop 40).drop 40).drop 40).drop 40).drop 12).take 16).all (fun c => su_isCode c || c.before start1.args0 fs_about) = true := by decide +kernel
set_option maxRecDepth 16384 in
theorem fw_others_2_7 : (((((((tables_1_2.drop 40).drop 40).drop 40).drop 40).drop 40).drop 12).drop 16).all (fun c => su_isCode c || c.before start1.args0 fs_about) = true := by decide +kernel
set_option maxRecDepth 16384 in
theorem fw_all_2 : tables_1_2.all (fun c => su_isCode c || c.before start1.args0 fs_about) = true := start1.su_all_split _ 40 tables_1_2 fw_others_2_0 (start1.su_all_split _ 40 (tables_1_2.drop 40) fw_others_2_1 (start1.su_all_split _ 40 ((tables_1_2.drop 40).drop 40) fw_others_2_2 (start1.su_all_split _ 40 (((tables_1_2.drop 40).drop 40).drop 40) fw_others_2_3 (start1.su_all_split _ 40 ((((tables_1_2.drop 40).drop 40).drop 40).drop 40) fw_others_2_4 (start1.su_all_split _ 12 (((((tables_1_2.drop 40).drop 40).drop 40).drop 40).drop 40) fw_others_2_5 (start1.su_all_split _ 16 ((((((tables_1_2.drop 40).drop 40).drop 40).drop 40).drop 40).drop 12) fw_others_2_6 fw_others_2_7))))))
theorem fw_words_2 : ∀ c ∈ tables_1_2, c.before start1.args0 fs_about = true := fun c h => su_words fw_all_2 fw_codes_2 c h
theorem fw_codes_3 : ∀ c ∈ tables_1_3.filter su_isCode, c.before start1.args0 fs_about = true := fun c h => fw_code (List.mem_filter.mp h).2 (start1.words_3 c (List.mem_filter.mp h).1)
set_option maxRecDepth 16384 in
theorem fw_others_3_0 : (tables_1_3.take 40).all (fun c => su_isCode c || c.before start1.args0 fs_about) = true := by decide +kernel
set_option maxRecDepth 16384 in
theorem fw_others_3_1 : ((tables_1_3.drop 40).take 40).all (fun c => su_isCode c || c.before start1.args0 fs_about) = true := by decide +kernel
set_option maxRecDepth 16384 in
theorem fw_others_3_2 : (((tables_1_3.drop 40).drop 40).take 40).all (fun c => su_isCode c || c.before start1.args0 fs_about) = true := by decide +kernel
set_option maxRecDepth 16384 in
theorem fw_others_3_3 : ((((tables_1_3.drop 40).drop 40).drop 40).take 40).all (fun c => su_isCode c || c.before start1.args0 fs_about) = true := by decide +kernel
set_option maxRecDepth 16384 in
theorem fw_others_3_4 : (((((tables_1_3.drop 40).drop 40).drop 40).drop 40).take 40).all (fun c => su_isCode c || c.before start1.args0 fs_about) = true := by decide +kernel
set_option maxRecDepth 16384 in
theorem fw_others_3_5 : (((((tables_1_3.drop 40).drop 40).drop 40).drop 40).drop 40).all (fun c => su_isCode c || c.before start1.args0 fs_about) = true := by decide +kernel
set_option maxRecDepth 16384 in
theorem fw_all_3 : tables_1_3.all (fun c => su_isCode c || c.before start1.args0 fs_about) = true := start1.su_all_split _ 40 tables_1_3 fw_others_3_0 (start1.su_all_split _ 40 (tables_1_3.drop 40) fw_others_3_1 (start1.su_all_split _ 40 ((tables_1_3.drop 40).drop 40) fw_others_3_2 (start1.su_all_split _ 40 (((tables_1_3.drop 40).drop 40).drop 40) fw_others_3_3 (start1.su_all_split _ 40 ((((tables_1_3.drop 40).drop 40).drop 40).drop 40) fw_others_3_4 fw_others_3_5))))
theorem fw_words_3 : ∀ c ∈ tables_1_3, c.before start1.args0 fs_about = true := fun c h => su_words fw_all_3 fw_codes_3 c h
theorem fw_codes_4 : ∀ c ∈ tables_1_4.filter su_isCode, c.before start1.args0 fs_about = true := fun c h => fw_code (List.mem_filter.mp h).2 (start1.words_4 c (List.mem_filter.mp h).1)
set_option maxRecDepth 16384 in
theorem fw_others_4_0 : (tables_1_4.take 40).all (fun c => su_isCode c || c.before start1.args0 fs_about) = true := by decide +kernel
set_option maxRecDepth 16384 in
theorem fw_others_4_1 : ((tables_1_4.drop 40).take 40).all (fun c => su_isCode c || c.before start1.args0 fs_about) = true := by decide +kernel
set_option maxRecDepth 16384 in
theorem fw_others_4_2 : (((tables_1_4.drop 40).drop 40).take 40).all (fun c => su_isCode c || c.before start1.args0 fs_about) = true := by decide +kernel
set_option maxRecDepth 16384 in
theorem fw_others_4_3 : ((((tables_1_4.drop 40).drop 40).drop 40).take 37).all (fun c => su_isCode c || c.before start1.args0 fs_about) = true := by decide +kernel
set_option maxRecDepth 16384 in
theorem fw_others_4_4 : (((((tables_1_4.drop 40).drop 40).drop 40).drop 37).take 40).all (fun c => su_isCode c || c.before start1.args0 fs_about) = true := by decide +kernel
set_option maxRecDepth 16384 in
theorem fw_others_4_5 : ((((((tables_1_4.drop 40).drop 40).drop 40).drop 37).drop 40).take 40).all (fun c => su_isCode c || c.before start1.args0 fs_about) = true := by decide +kernel
set_option maxRecDepth 16384 in
theorem fw_others_4_6 : ((((((tables_1_4.drop 40).drop 40).drop 40).drop 37).drop 40).drop 40).all (fun c => su_isCode c || c.before start1.args0 fs_about) = true := by decide +kernel
set_option maxRecDepth 16384 in
theorem fw_all_4 : tables_1_4.all (fun c => su_isCode c || c.before start1.args0 fs_about) = true := start1.su_all_split _ 40 tables_1_4 fw_others_4_0 (start1.su_all_split _ 40 (tables_1_4.drop 40) fw_others_4_1 (start1.su_all_split _ 40 ((tables_1_4.drop 40).drop 40) fw_others_4_2 (start1.su_all_split _ 37 (((tables_1_4.drop 40).drop 40).drop 40) fw_others_4_3 (start1.su_all_split _ 40 ((((tables_1_4.drop 40).drop 40).drop 40).drop 37) fw_others_4_4 (start1.su_all_split _ 40 (((((tables_1_4.drop 40).drop 40).drop 40).drop 37).drop 40) fw_others_4_5 fw_others_4_6)))))
theorem fw_words_4 : ∀ c ∈ tables_1_4, c.before start1.args0 fs_about = true := fun c h => su_words fw_all_4 fw_codes_4 c h
theorem fw_codes_5 : ∀ c ∈ tables_1_5.filter su_isCode, c.before start1.args0 fs_about = true := fun c h => fw_code (List.mem_filter.mp h).2 (start1.words_5 c (List.mem_filter.mp h).1)
set_option maxRecDepth 16384 in
theorem fw_others_5_0 : (tables_1_5.take 40).all (fun c => su_isCode c || c.before start1.args0 fs_about) = true := by decide +kernel
set_option maxRecDepth 16384 in
theorem fw_others_5_1 : ((tables_1_5.drop 40).take 40).all (fun c => su_isCode c || c.before start1.args0 fs_about) = true := by decide +kernel
set_option maxRecDepth 16384 in
theorem fw_others_5_2 : (((tables_1_5.drop 40).drop 40).take 40).all (fun c => su_isCode c || c.before start1.args0 fs_about) = true := by decide +kernel
set_option maxRecDepth 16384 in
theorem fw_others_5_3 : ((((tables_1_5.drop 40).drop 40).drop 40).take 40).all (fun c => su_isCode c || c.before start1.args0 fs_about) = true := by decide +kernel
set_option maxRecDepth 16384 in
theorem fw_others_5_4 : (((((tables_1_5.drop 40).drop 40).drop 40).drop 40).take 40).all (fun c => su_isCode c || c.before start1.args0 fs_about) = true := by decide +kernel
set_option maxRecDepth 16384 in
theorem fw_others_5_5 : (((((tables_1_5.drop 40).drop 40).drop 40).drop 40).drop 40).all (fun c => su_isCode c || c.before start1.args0 fs_about) = true := by decide +kernel
set_option maxRecDepth 16384 in
theorem fw_all_5 : tables_1_5.all (fun c => su_isCode c || c.before start1.args0 fs_about) = true := start1.su_all_split _ 40 tables_1_5 fw_others_5_0 (start1.su_all_split _ 40 (tables_1_5.drop 40) fw_others_5_1 (start1.su_all_split _ 40 ((tables_1_5.drop 40).drop 40) fw_others_5_2 (start1.su_all_split _ 40 (((tables_1_5.drop 40).drop 40).drop 40) fw_others_5_3 (start1.su_all_split _ 40 ((((tables_1_5.drop 40).drop 40).drop 40).drop 40) fw_others_5_4 fw_others_5_5))))
theorem fw_words_5 : ∀ c ∈ tables_1_5, c.before start1.args0 fs_about = true := fun c h => su_words fw_all_5 fw_codes_5 c h
theorem fw_codes_6 : ∀ c ∈ tables_1_6.filter su_isCode, c.before start1.args0 fs_about = true := fun c h => fw_code (List.mem_filter.mp h).2 (start1.words_6 c (List.mem_filter.mp h).1)
set_option maxRecDepth 16384 in
theorem fw_others_6_0 : (tables_1_6.take 40).all (fun c => su_isCode c || c.before start1.args0 fs_about) = true := by decide +kernel
set_option maxRecDepth 16384 in
theorem fw_others_6_1 : ((tables_1_6.drop 40).take 40).all (fun c => su_isCode c || c.before start1.args0 fs_about) = true := by decide +kernel
set_option maxRecDepth 16384 in
theorem fw_others_6_2 : ((tables_1_6.drop 40).drop 40).all (fun c => su_isCode c || c.before start1.args0 fs_about) = true := by decide +kernel
set_option maxRecDepth 16384 in
theorem fw_all_6 : tables_1_6.all (fun c => su_isCode c || c.before start1.args0 fs_about) = true := start1.su_all_split _ 40 tables_1_6 fw_others_6_0 (start1.su_all_split _ 40 (tables_1_6.drop 40) fw_others_6_1 fw_others_6_2)
theorem fw_words_6 : ∀ c ∈ tables_1_6, c.before start1.args0 fs_about = true := fun c h => su_words fw_all_6 fw_codes_6 c h
theorem fw_words : ∀ c ∈ (Cond.code x code maxLocals ret :: tables_1), c.before start1.args0 fs_about = true := by
  intro c hc
  rcases List.mem_cons.mp hc with h | h
  · rw [h]; exact fw_law
  · have h1 : c ∈ tables_1_1 ++ (tables_1_2 ++ (tables_1_3 ++ (tables_1_4 ++ (tables_1_5 ++ tables_1_6)))) := h
    rcases List.mem_append.mp h1 with h2 | h1
    · exact fw_words_1 c h2
    rcases List.mem_append.mp h1 with h2 | h1
    · exact fw_words_2 c h2
    rcases List.mem_append.mp h1 with h2 | h1
    · exact fw_words_3 c h2
    rcases List.mem_append.mp h1 with h2 | h1
    · exact fw_words_4 c h2
    rcases List.mem_append.mp h1 with h2 | h1
    · exact fw_words_5 c h2
    exact fw_words_6 c h1
end
section
/-! THE STATEMENT IS FALSE AS PRINTED: from the start of part 90, which meets every premise, the law ends with a throw. -/
set_option maxRecDepth 16384 in
theorem fs_atStart : AtStart classFile x code maxLocals ret World_1 tables_1 room_1 Calls_1 rest_1 Pre_1 launch0 start1.p0 start1.e0 fs_about ⟨0, 0⟩ start1.args0 Lib.HandBits.below0 :=
  ⟨lists_1, trivial, launch0.admits_env _ _ _, launch0.least_env, fairChoices_fair.cas, fairChoices_fair.clock, rfl, by decide +kernel, by decide +kernel,
    (Spec.applies_iff rfl).mpr ⟨rfl, rfl, rfl, by decide +kernel, by decide +kernel, by decide +kernel, launch0.hasRoom_least _ room_1 (by decide +kernel) (by decide +kernel) (by decide +kernel) (by decide +kernel) (by decide +kernel) (by decide +kernel), atoms_intro fw_words⟩,
    trivial, (show rest_1_c.before start1.args0 fs_about = true by decide +kernel), (show (Cond.and given_1 narrow_1).before start1.args0 fs_about = true by decide +kernel)⟩
def fr_low (f : Frame) : Bool := match f with
  | .native ⟨m, a, st, sv, aw, an, lk, w⟩ => decide (m = (⟨0, 0⟩ : MethodId)) && decide (a = #[]) && decide (st = 0) && decide (sv = #[]) && !aw && an.isNone && lk.isNone && decide (w = 0)
  | _ => false
theorem fr_low_eq {f : Frame} (h : fr_low f = true) : f = .native { method := ⟨0, 0⟩, args := #[] } := by
  unfold fr_low at h
  split at h
  · rename_i m a st sv aw an lk w
    simp only [Bool.and_eq_true, decide_eq_true_eq, Bool.not_eq_true', Option.isNone_iff_eq_none] at h
    obtain ⟨⟨⟨⟨⟨⟨⟨h1, h2⟩, h3⟩, h4⟩, h5⟩, h6⟩, h7⟩, h8⟩ := h
    subst h1 h2 h3 h4 h5 h6 h7 h8
    rfl
  · exact absurd h (by decide)
def fr_in (s : State) : Bool := match s.frames with
  | [.throwing _, _] => false
  | [_, g] => fr_low g
  | [_, _, g] => fr_low g
  | [_, _, _, g] => fr_low g
  | [_, _, _, _, g] => fr_low g
  | [_, _, _, _, _, g] => fr_low g
  | _ => false
theorem fr_within {s : State} (h : fr_in s = true) : Within s Lib.HandBits.below0 := by
  unfold fr_in at h
  split at h
  · exact absurd h (by decide)
  · rename_i f g hne hf
    exact ⟨[f], by rw [hf, fr_low_eq h]; rfl, by simp, fun a ha => by
      simp only [List.cons.injEq, and_true] at ha
      exact hne a (by rw [ha])⟩
  · rename_i f1 f2 g hf
    exact ⟨[f1, f2], by rw [hf, fr_low_eq h]; rfl, by simp, fun a ha => by simp at ha⟩
  · rename_i f1 f2 f3 g hf
    exact ⟨[f1, f2, f3], by rw [hf, fr_low_eq h]; rfl, by simp, fun a ha => by simp at ha⟩
  · rename_i f1 f2 f3 f4 g hf
    exact ⟨[f1, f2, f3, f4], by rw [hf, fr_low_eq h]; rfl, by simp, fun a ha => by simp at ha⟩
  · rename_i f1 f2 f3 f4 f5 g hf
    exact ⟨[f1, f2, f3, f4, f5], by rw [hf, fr_low_eq h]; rfl, by simp, fun a ha => by simp at ha⟩
  · exact absurd h (by decide)
def fr_end (s : State) : Bool := match s.frames with
  | [.throwing a, g] => decide (a = 5) && fr_low g && decide (s.status = .running)
  | _ => false
theorem fr_ended {s : State} (h : fr_end s = true) : s.status = .running ∧ Ended s Lib.HandBits.below0 (.threw 5) := by
  unfold fr_end at h
  split at h
  · rename_i a g hf
    simp only [Bool.and_eq_true, decide_eq_true_eq] at h
    obtain ⟨⟨h1, h2⟩, h3⟩ := h
    subst h1
    exact ⟨h3, by show s.frames = _; rw [hf, fr_low_eq h2]; rfl⟩
  · exact absurd h (by decide)
def fr_all (tb : Tables) (e : Env) : Nat → State → Bool
  | 0, s => fr_end s
  | n + 1, s => match s.status, s.curStatus?, s.alone with
    | .running, some .runnable, true => fr_in s && fr_all tb e n (stepThread tb e s).1
    | _, _, _ => false
theorem fr_spec {tb : Tables} {e : Env} : ∀ (n : Nat) (s : State), fr_all tb e n s = true →
    (∀ k, k < n → Within (stepsAlone tb e k s) Lib.HandBits.below0) ∧ (stepsAlone tb e n s).status = .running ∧ Ended (stepsAlone tb e n s) Lib.HandBits.below0 (.threw 5)
  | 0, s, h => ⟨fun _ hk => absurd hk (Nat.not_lt_zero _), fr_ended h⟩
  | n + 1, s, h => by
    unfold fr_all at h
    split at h
    · rename_i h1 h2 h3
      have hg : s.goesOn := ⟨h1, h2, h3⟩
      simp only [Bool.and_eq_true] at h
      obtain ⟨w, r, en⟩ := fr_spec n _ h.2
      refine ⟨fun k hk => ?_, ?_, ?_⟩
      · cases k with
        | zero => exact fr_within h.1
        | succ j => rw [stepsAlone_succ _ hg]; exact w j (by omega)
      · rw [stepsAlone_succ _ hg]; exact r
      · rw [stepsAlone_succ _ hg]; exact en
    · exact absurd h (by decide)
set_option maxRecDepth 100000 in
/-- the machine itself, 154 steps from the start of part 90 -/
theorem fr_run : fr_all start1.p0.tables start1.e0 154 fs_about = true := by decide +kernel
theorem fr_post1 {tb : Tables} {e : Env} {a : Array Value} {s t : State} : ¬ Post_1_1 tb e a s (.threw 5) t := fun h => by
  have h1 := h.1
  simp [postC, limb_1_1, Cond.after, Cond.holds, Cond.value] at h1
theorem fr_post2 {tb : Tables} {e : Env} {a : Array Value} {s t : State} : ¬ Post_1_2 tb e a s (.threw 5) t := fun h => by
  have h1 := h.1
  simp [postC, limb_1_2, Cond.after, Cond.holds, Cond.value, Term.eval] at h1
/-- the Statement's own word for 'the claim falls at a start': of its first limb -/
theorem fr_refuted_1 : RefutedClaimed_1_1 :=
  ⟨launch0, start1.p0, start1.e0, fs_about, ⟨0, 0⟩, start1.args0, Lib.HandBits.below0, rfl, fs_atStart, 154, .threw 5, (fr_spec _ _ fr_run).1, (fr_spec _ _ fr_run).2.1, (fr_spec _ _ fr_run).2.2, fr_post1⟩
/-- .. and of its second -/
theorem fr_refuted_2 : RefutedClaimed_1_2 :=
  ⟨launch0, start1.p0, start1.e0, fs_about, ⟨0, 0⟩, start1.args0, Lib.HandBits.below0, rfl, fs_atStart, 154, .threw 5, (fr_spec _ _ fr_run).1, (fr_spec _ _ fr_run).2.1, (fr_spec _ _ fr_run).2.2, fr_post2⟩
theorem fr_not_1 : ¬ Claimed_1_1 := fun h => by
  obtain ⟨hl, hw, ha, -, hc, hk, hf, hfit, hheap, happ, hcalls, hrest, hpre⟩ := fs_atStart
  obtain ⟨n, o, w, -, en, post⟩ := h launch0 rfl hl hw start1.p0 start1.e0 ha hc hk fs_about ⟨0, 0⟩ start1.args0 Lib.HandBits.below0 hf hfit hheap happ ⟨hcalls, hrest, hpre⟩
  obtain ⟨w', -, en'⟩ := fr_spec _ _ fr_run
  obtain ⟨rfl, rfl⟩ := the_end_unique (f := fun k => stepsAlone start1.p0.tables start1.e0 k fs_about) w' en' w en
  exact fr_post1 post
/-- the negation of what is owed -/
theorem fr_owed_is_false : ¬ (Claimed_1_1 ∧ Claimed_1_2) := fun h => fr_not_1 h.1
end
