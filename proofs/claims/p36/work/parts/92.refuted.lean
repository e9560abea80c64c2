/-! THE STATEMENT IS FALSE AS PRINTED: from the start of part 90, which meets every premise, the law ends with a throw. -/
set_option maxRecDepth 16384 in
theorem fs_atStart : AtStart classFile x code maxLocals ret World_1 tables_1 room_1 Calls_1 rest_1 Pre_1 launch0 start1.p0 start1.e0 fs_about ⟨0, 0⟩ start1.args0 Lib.HandBits.below0 :=
  ⟨lists_1, trivial, launch0.admits_env _ _ _, launch0.least_env, fairChoices_fair.cas, fairChoices_fair.clock, rfl, by decide +kernel, by decide +kernel,
    (Spec.applies_iff rfl).mpr ⟨rfl, rfl, rfl, by decide +kernel, by decide +kernel, by decide +kernel, launch0.hasRoom_least _ room_1 (by decide +kernel) (by decide +kernel) (by decide +kernel) (by decide +kernel) (by decide +kernel) (by decide +kernel), atoms_intro fw_words⟩,
    trivial, (show rest_1_c.before start1.args0 fs_about = true by decide +kernel), (show (Cond.and given_1 narrow_1).before start1.args0 fs_about = true by decide +kernel)⟩
def fr_low (f : Frame) : Bool := match f with
  | .native ⟨m, a, st, sv, aw, an, lk, w⟩ => decide (m = (⟨0, 0⟩ : MethodId)) && decide (a = #[]) && decide (st = 0) && decide (sv = #[]) && !aw && an.isNone && lk.isNone && decide (w = 0)
  | _ => false
theorem fr_low_eq {f : Frame} (h : fr_low f = true) : f = .native { method := ⟨0, 0⟩, args := #[] } := by
  unfold fr_low at h
  split at h
  · rename_i m a st sv aw an lk w
    simp only [Bool.and_eq_true, decide_eq_true_eq, Bool.not_eq_true', Option.isNone_iff_eq_none] at h
    obtain ⟨⟨⟨⟨⟨⟨⟨h1, h2⟩, h3⟩, h4⟩, h5⟩, h6⟩, h7⟩, h8⟩ := h
    subst h1 h2 h3 h4 h5 h6 h7 h8
    rfl
  · exact absurd h (by decide)
def fr_in (s : State) : Bool := match s.frames with
  | [.throwing _, _] => false
  | [_, g] => fr_low g
  | [_, _, g] => fr_low g
  | [_, _, _, g] => fr_low g
  | [_, _, _, _, g] => fr_low g
  | [_, _, _, _, _, g] => fr_low g
  | _ => false
theorem fr_within {s : State} (h : fr_in s = true) : Within s Lib.HandBits.below0 := by
  unfold fr_in at h
  split at h
  · exact absurd h (by decide)
  · rename_i f g hne hf
    exact ⟨[f], by rw [hf, fr_low_eq h]; rfl, by simp, fun a ha => by
      simp only [List.cons.injEq, and_true] at ha
      exact hne a (by rw [ha])⟩
  · rename_i f1 f2 g hf
    exact ⟨[f1, f2], by rw [hf, fr_low_eq h]; rfl, by simp, fun a ha => by simp at ha⟩
  · rename_i f1 f2 f3 g hf
    exact ⟨[f1, f2, f3], by rw [hf, fr_low_eq h]; rfl, by simp, fun a ha => by simp at ha⟩
  · rename_i f1 f2 f3 f4 g hf
    exact ⟨[f1, f2, f3, f4], by rw [hf, fr_low_eq h]; rfl, by simp, fun a ha => by simp at ha⟩
  · rename_i f1 f2 f3 f4 f5 g hf
    exact ⟨[f1, f2, f3, f4, f5], by rw [hf, fr_low_eq h]; rfl, by simp, fun a ha => by simp at ha⟩
  · exact absurd h (by decide)
def fr_end (s : State) : Bool := match s.frames with
  | [.throwing a, g] => decide (a = 5) && fr_low g && decide (s.status = .running)
  | _ => false
theorem fr_ended {s : State} (h : fr_end s = true) : s.status = .running ∧ Ended s Lib.HandBits.below0 (.threw 5) := by
  unfold fr_end at h
  split at h
  · rename_i a g hf
    simp only [Bool.and_eq_true, decide_eq_true_eq] at h
    obtain ⟨⟨h1, h2⟩, h3⟩ := h
    subst h1
    exact ⟨h3, by show s.frames = _; rw [hf, fr_low_eq h2]; rfl⟩
  · exact absurd h (by decide)
def fr_all (tb : Tables) (e : Env) : Nat → State → Bool
  | 0, s => fr_end s
  | n + 1, s => match s.status, s.curStatus?, s.alone with
    | .running, some .runnable, true => fr_in s && fr_all tb e n (stepThread tb e s).1
    | _, _, _ => false
theorem fr_spec {tb : Tables} {e : Env} : ∀ (n : Nat) (s : State), fr_all tb e n s = true →
    (∀ k, k < n → Within (stepsAlone tb e k s) Lib.HandBits.below0) ∧ (stepsAlone tb e n s).status = .running ∧ Ended (stepsAlone tb e n s) Lib.HandBits.below0 (.threw 5)
  | 0, s, h => ⟨fun _ hk => absurd hk (Nat.not_lt_zero _), fr_ended h⟩
  | n + 1, s, h => by
    unfold fr_all at h
    split at h
    · rename_i h1 h2 h3
      have hg : s.goesOn := ⟨h1, h2, h3⟩
      simp only [Bool.and_eq_true] at h
      obtain ⟨w, r, en⟩ := fr_spec n _ h.2
      refine ⟨fun k hk => ?_, ?_, ?_⟩
      · cases k with
        | zero => exact fr_within h.1
        | succ j => rw [stepsAlone_succ _ hg]; exact w j (by omega)
      · rw [stepsAlone_succ _ hg]; exact r
      · rw [stepsAlone_succ _ hg]; exact en
    · exact absurd h (by decide)
set_option maxRecDepth 100000 in
/-- the machine itself, 154 steps from the start of part 90 -/
theorem fr_run : fr_all start1.p0.tables start1.e0 154 fs_about = true := by decide +kernel
theorem fr_post1 {tb : Tables} {e : Env} {a : Array Value} {s t : State} : ¬ Post_1_1 tb e a s (.threw 5) t := fun h => by
  have h1 := h.1
  simp [postC, limb_1_1, Cond.after, Cond.holds, Cond.value] at h1
theorem fr_post2 {tb : Tables} {e : Env} {a : Array Value} {s t : State} : ¬ Post_1_2 tb e a s (.threw 5) t := fun h => by
  have h1 := h.1
  simp [postC, limb_1_2, Cond.after, Cond.holds, Cond.value, Term.eval] at h1
/-- the Statement's own word for 'the claim falls at a start': of its first limb -/
theorem fr_refuted_1 : RefutedClaimed_1_1 :=
  ⟨launch0, start1.p0, start1.e0, fs_about, ⟨0, 0⟩, start1.args0, Lib.HandBits.below0, rfl, fs_atStart, 154, .threw 5, (fr_spec _ _ fr_run).1, (fr_spec _ _ fr_run).2.1, (fr_spec _ _ fr_run).2.2, fr_post1⟩
/-- .. and of its second -/
theorem fr_refuted_2 : RefutedClaimed_1_2 :=
  ⟨launch0, start1.p0, start1.e0, fs_about, ⟨0, 0⟩, start1.args0, Lib.HandBits.below0, rfl, fs_atStart, 154, .threw 5, (fr_spec _ _ fr_run).1, (fr_spec _ _ fr_run).2.1, (fr_spec _ _ fr_run).2.2, fr_post2⟩
theorem fr_not_1 : ¬ Claimed_1_1 := fun h => by
  obtain ⟨hl, hw, ha, -, hc, hk, hf, hfit, hheap, happ, hcalls, hrest, hpre⟩ := fs_atStart
  obtain ⟨n, o, w, -, en, post⟩ := h launch0 rfl hl hw start1.p0 start1.e0 ha hc hk fs_about ⟨0, 0⟩ start1.args0 Lib.HandBits.below0 hf hfit hheap happ ⟨hcalls, hrest, hpre⟩
  obtain ⟨w', -, en'⟩ := fr_spec _ _ fr_run
  obtain ⟨rfl, rfl⟩ := the_end_unique (f := fun k => stepsAlone start1.p0.tables start1.e0 k fs_about) w' en' w en
  exact fr_post1 post
/-- the negation of what is owed -/
theorem fr_owed_is_false : ¬ (Claimed_1_1 ∧ Claimed_1_2) := fun h => fr_not_1 h.1
