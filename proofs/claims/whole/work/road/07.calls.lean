section CALLS
variable {cc : ByteArray} {nL : Nat} {own : String} {rty : Option FieldType} {d : Nat} {scr : Option (Nat × (Nat → Int32))} {pc : Nat} {ls : List (Nat × Value)} {st : List Value} {A : Mem} {Q : Option Value → Mem → Prop}
theorem cl_args (ad : Nat → Nat) : ∀ (vs : List Value) (i : Nat), cl ad (lv_args i vs) = lv_args i (vs.map (cv ad)) := by
  intro vs
  induction vs with
  | nil => intro i; rfl
  | cons v vs ih =>
    intro i
    show (i, cv ad v) :: cl ad (lv_args _ vs) = (i, cv ad v) :: lv_args _ (vs.map (cv ad))
    rw [ih, cv_cat]
theorem AR_le {ad : Nat → Nat} {B : Nat → Prop} {sz : Nat} (h1 : ∀ k, k < NT → B (ad k)) (h2 : ∀ q, sz ≤ q → B q) : ∀ q, AR ad sz q → B q := by
  intro q h
  rcases h with ⟨k, hk, rfl⟩ | h
  · exact h1 k hk
  · exact h2 q h
/-- the contract out of the walk of the body -/
theorem ct_of {y : MethodName} {av : List Value} (hy : plainName y.cls = true) (hav : (lg_sl av).length ≤ nL) (h : Ev cc nL y.cls rty d none 0 (lv_args 0 av) [] A Q) : Ct y cc nL rty d av A Q := by
  intro l D cy ad sz
  refine Met.ofW (cc := cc) (maxL := nL) (ret := rty) hy rfl ?_
  intro p e s m args below meth c s₁ Bd hml hv
  obtain ⟨rfl, hsz, hG, hP⟩ := hv
  subst hsz
  have hts := atoms_spec (ws := .code y cc nL rty :: lw_good) Bd.pre
  have hav2 : (lg_sl (av.map (cv ad))).length ≤ nL := by
    have e : ∀ vs : List Value, (lg_sl (vs.map (cv ad))).length = (lg_sl vs).length := by
      intro vs
      induction vs with
      | nil => rfl
      | cons v vs ih =>
        unfold lg_sl at ih ⊢
        rw [List.map_cons, List.flatMap_cons, List.flatMap_cons, List.length_append, List.length_append, ih]
        congr 1
        cases v <;> rfl
    rw [e]; exact hav
  have hl := lv_entry (av.map (cv ad)) (n := nL) hav2
  rw [lg_entry_eq]
  rw [← cl_args] at hl
  refine h p l e _ s m _ below meth c D cy ad (AR ad s.heap.size) 0 0 _ s.heap [] _ ⟨Bd.exec, Bd.bytes, hml, findClass_of_methodNamed Bd.named, fun w hw => hts w (List.mem_cons_of_mem _ hw), hG, fun q hq => Or.inr hq, Nat.le_refl _, Nat.le_refl _, Nat.zero_le _, Nat.zero_le _, fun q hq => by cases hq⟩ hP va_S.rf hl ?_
  intro pc' v A' H' locs' ls' hR hq hP' hS'
  have hlocks := Bd.notSynchronized
  have hfin : ∀ t : State, t.heap = H' → (∃ (v' : Option Value) (A'' : Mem), Outcome.returned (v.map (cv ad)) = .returned (v'.map (cv ad)) ∧ Q v' A'' ∧ va_P D vwCl (wl ad cy A'') t.heap) ∧ va_F (AR ad s.heap.size) s t := fun t ht => ⟨⟨v, A', rfl, hq, by rw [ht]; exact hP'⟩, hS'.F ht⟩
  rcases hR with ⟨hd, x, ty, rfl, hr, hn⟩ | ⟨hd, rfl, hr⟩ | ⟨hd, a, n, rfl, hr⟩
  · exact W.zret (ty := ty) Bd.exec Bd.bytes (by rw [Bd.returns, hr]) hn (fun t ht _ => hfin t ht) hS'.2.2 hd
  · exact W.vret Bd.exec Bd.bytes (by rw [Bd.returns, hr]) (fun t ht _ => hfin t ht) hS'.2.2 hd
  · exact W.aret (v := .ref (ad a)) (rt := .object n) Bd.exec Bd.bytes (by rw [Bd.returns, hr]) (Or.inl ⟨n, rfl⟩) (Or.inr ⟨ad a, rfl⟩) (fun t ht _ => hfin t ht) hS'.2.2 hd
/-- behind a call -/
theorem ev_run {p : Program} {l : Launch} {e : Env} {R : Room} {s : State} {m : MethodId} {args : Array Value} {below : List Frame} {meth : Method} {c : Code} {D : va_G} {cy : Nat → ClassId} {ad : Nat → Nat} {B : Nat → Prop} {cells slots : Nat} {Qw : State → Prop} {H : Heap} {locs : List Loc} {lsC : Array Slot} {st0 : List Value} {Q' : Option Value → Mem → Prop}
    (X : Cx cc nL own d scr p R s m args c D cy ad B cells slots) (hS : va_S B s.heap H locs) (hl : lv_has lsC nL (cl ad ls))
    (hQ : ∀ (pc' : Nat) (v : Option Value) (A' : Mem) (H' : Heap) (locs' : List Loc) (ls' : Array Slot), Rt cc rty pc' v → Q v A' → va_P D vwCl (wl ad cy A') H' → va_S B s.heap H' locs' → W p l e R s m args below meth c H' locs' cells slots Qw (F0 m pc' ls' (v.toList.map (cv ad))))
    (hr : va_Run p l e R s m args below meth c H locs cells slots 0 0 (F0 m pc lsC st0) (st.map (cv ad)) (fun stt oc t => (∃ (v : Option Value) (A' : Mem), oc = .returned (v.map (cv ad)) ∧ Q' v A' ∧ va_P D vwCl (wl ad cy A') t.heap) ∧ va_F (AR ad H.size) stt t) (AR ad H.size))
    (k : ∀ v A', Q' v A' → Ev cc nL own rty d scr (pc + 3) ls (v.toList ++ st) A' Q) : W p l e R s m args below meth c H locs cells slots Qw (F0 m pc lsC st0) := by
  have hB : ∀ q, AR ad H.size q → B q := AR_le X.2.2.2.2.2.1.2.2.2.1 (fun q h => X.2.2.2.2.2.2.1 q (Nat.le_trans hS.1 h))
  intro T hT X0
  obtain ⟨v, st₀, t, T', L, h0, X', hL, e1, e2, ⟨⟨v', A', hv, hq, hp⟩, hz, hk⟩, stp⟩ := hr T hT X0
  cases hv
  rw [h0] at hz hk
  have w := k v' A' hq p l e R s m args below meth c D cy ad B cells slots Qw T'.heap (locs ++ L) lsC X (by rw [e1]; exact hp)
    ⟨Nat.le_trans hS.1 (by rw [e1]; exact hz), fun q h1 h2 => by rw [e1, hk q (Nat.lt_of_lt_of_le h1 hS.1) (fun z => h2 (hB q z))]; exact hS.2.1 q h1 h2, fun q hq => by
      rcases List.mem_append.mp hq with h | h
      · exact hS.2.2 q h
      · exact hB _ (hL q h)⟩ hl hQ
  obtain ⟨t2, a1, b1⟩ := w T' rfl X'
  refine ⟨t2, stp t2 ?_, b1⟩
  have e3 : (v'.toList ++ st).map (cv ad) = (v'.map (cv ad)).toList ++ st.map (cv ad) := by cases v' <;> rfl
  rw [e3] at a1
  exact a1
theorem goodIn_self {y : MethodName} {cc' : ByteArray} {nL' : Nat} {rty' : Option FieldType} (h : Cond.code y cc' nL' rty' ∈ lw_good) : GoodIn lw_good (Cond.code y cc' nL' rty' :: lw_good) := by
  have h2 : ∀ w ∈ lw_good, w ∈ lw_good ∧ ((w.onTables && w.keeps) = true ∨ ∃ ty, w = .arrayClass ty) := fun w hw => ⟨hw, good_of_word (List.mem_filter.mp hw).2⟩
  intro w hw
  rcases List.mem_cons.mp hw with e | e
  · rw [e]; exact h2 _ h
  · exact h2 w e
/-- the callee's own words: its code, its class made ready, its name, its number of arguments -/
def mk_ok (y : MethodName) (cc' : ByteArray) (nL' : Nat) (rty' : Option FieldType) (n : Nat) : Prop := Cond.code y cc' nL' rty' ∈ lw_good ∧ Cond.initialized y.cls ∈ lw_good ∧ (y.cls ≠ "java/lang/invoke/MethodHandle" ∧ y.cls ≠ "java/lang/invoke/VarHandle" ∧ (parseMethodDescriptor y.desc).map (fun d => d.parameters.length) = some n)
/-- a link of own's pool to a method -/
def lk_ok (own : String) (idx : Nat) (y : MethodName) : Prop := Cond.methodLink own idx y ∈ lw_good ∨ ∃ host : String, Cond.methodLinkNest own idx y host ∈ lw_nest
/-- a receiver of a class -/
def rv_ok (k : Nat) (C : String) : Prop := (∃ (ci : Nat) (q : vw_C), k < NT ∧ kd k = ci ∧ ci < 11 ∧ vwCl[ci]? = some q ∧ q.1 = C) ∨ ∃ i, i < 10 ∧ k = 1000000 + i ∧ C = "java/lang/String"
theorem pre_ok {s : State} {H : Heap} {D : va_G} {cy : Nat → ClassId} {ad : Nat → Nat} {B : Nat → Prop} {locs : List Loc} {av : List Value} (hG : GX D cy ad B s s.heap) (hA : ∀ q, s.heap.size ≤ q → B q) (hS : va_S B s.heap H locs) (hP : va_P D vwCl (wl ad cy A) H) :
    PreS s H (va_Pc (av.map (cv ad)) (fun U => U.heap.size = H.size ∧ GX D cy ad (AR ad H.size) U U.heap ∧ va_P D vwCl (wl ad cy A) U.heap)) (av.map (cv ad)) := by
  refine ⟨fun a U g mk q => ?_, fun U hU hW => ⟨rfl, by rw [hU], ?_, by rw [hU]; exact hP⟩⟩
  · obtain ⟨q0, q1, qG, qP⟩ := q
    exact ⟨q0, q1, qG.same rfl, qP⟩
  · rw [hU]
    exact hG.go hW hS.2.1 (AR_le hG.2.2.2.1 (fun q h => hA q (Nat.le_trans hS.1 h))) (fun k hk => Or.inl ⟨k, hk, rfl⟩)
theorem ev_callV {idx k n d' nL' : Nat} {y : MethodName} {cc' : ByteArray} {rty' : Option FieldType} {av : List Value} {Q' : Option Value → Mem → Prop} (hd : decode cc pc = .ok (.invokevirtual idx, 3)) (hC : Ct y cc' nL' rty' d' (.ref k :: av) A Q') (hm : mk_ok y cc' nL' rty' n) (hlk : lk_ok own idx y) (hi : Cond.instanceMethod y ∈ lw_good ∧ Cond.selects y.cls y y ∈ lw_good) (hrv : rv_ok k y.cls) (hn : av.length = n) (hdd : d' + 1 ≤ d) (hnl : nL' ≤ 21) (hrm : (st.map Value.category).sum ≤ 8) {st0 : List Value} (hst : st0 = av.reverse ++ .ref k :: st)
    (kk : ∀ v A', Q' v A' → Ev cc nL own rty d scr (pc + 3) ls (v.toList ++ st) A' Q) : Ev cc nL own rty d scr pc ls st0 A Q := by
  intro p l e R s m args below meth c D cy ad B cells slots Qw H locs lsC X hP hS hl hQ
  obtain ⟨hx, hb, hml, hown, hts, hG, hA, hfr, hlo, hce, hsl, -⟩ := id X
  subst hst
  have hpre := pre_ok (A := A) (av := .ref k :: av) hG hA hS hP
  have hrec : ∃ cellB : Cell, H[ad k]? = some cellB ∧ cellB.vm.isStatics = false ∧ s.vm.findClass y.cls = some cellB.cls := by
    rcases hrv with ⟨ci, q, h1, h2, h3, h4, h5⟩ | ⟨i, h1, h2, h3⟩
    · rw [← h5]
      exact va_recv hG.1 hP h4 (by rw [wl_at ad cy A h1, ce_obj h2 h3])
    · rw [h3, h2]
      have h7 := vk_recv (i := i) hG.2.2.2.2.1 h1 hS
      exact h7
  have hstk : (av.reverse ++ .ref k :: st).map (cv ad) = (av.map (cv ad)).reverse ++ Value.ref (ad k) :: st.map (cv ad) := by rw [List.map_append, List.map_reverse]; rfl
  have hrm2 : ((st.map (cv ad)).map fun v => v.category).sum ≤ 8 := by
    have e : (st.map (cv ad)).map (fun v => v.category) = st.map Value.category := by rw [List.map_map]; apply List.map_congr_left; intro v _; exact cv_cat ad v
    rw [e]; exact hrm
  have hlen : (av.map (cv ad)).length = n := by rw [List.length_map]; exact hn
  have hR : d' + 1 ≤ R.frames ∧ 8 + (nL' + 11) + 40 * d' ≤ R.locals := ⟨Nat.le_trans hdd hfr, by omega⟩
  rcases hlk with hlk | ⟨host, hlk⟩
  · refine ev_run X hS hl hQ (va_runV (b := ad k) (As := av.map (cv ad)) (rest := st.map (cv ad)) (C := y.cls) ⟨hx, hb, hml, hown, hts⟩ (hC l D cy ad H.size) ⟨callB_of n hts (goodIn_self hm.1) rfl rfl rfl (hts _ hm.2.1) (hts _ hlk) hm.2.2 hR, hts _ hi.1, hts _ hi.2⟩ ⟨hpre.1, hrec, hpre.2⟩ rfl hlen hl.1 hstk (lv_room hrm2) hd ⟨hce, hsl⟩) kk
  · refine ev_run X hS hl hQ (va_runVN (b := ad k) (As := av.map (cv ad)) (rest := st.map (cv ad)) (C := y.cls) (host := host) ⟨hx, hb, hml, hown, hts⟩ (hC l D cy ad H.size) ⟨va_cnB n hts (goodIn_self hm.1) rfl rfl rfl (hG.2.1 _ hlk) (hts _ hm.2.1) hm.2.2 hR, hts _ hi.1, hts _ hi.2⟩ ⟨hpre.1, hrec, hpre.2⟩ rfl hlen hl.1 hstk (lv_room hrm2) hd ⟨hce, hsl⟩) kk
theorem ev_callS {idx n d' nL' : Nat} {y : MethodName} {cc' : ByteArray} {rty' : Option FieldType} {av : List Value} {Q' : Option Value → Mem → Prop} (hd : decode cc pc = .ok (.invokestatic idx, 3)) (hC : Ct y cc' nL' rty' d' av A Q') (hm : mk_ok y cc' nL' rty' n) (hlk : lk_ok own idx y) (hi : Cond.static y ∈ lw_good) (hn : av.length = n) (hdd : d' + 1 ≤ d) (hnl : nL' ≤ 21) (hrm : (st.map Value.category).sum ≤ 8) {st0 : List Value} (hst : st0 = av.reverse ++ st)
    (kk : ∀ v A', Q' v A' → Ev cc nL own rty d scr (pc + 3) ls (v.toList ++ st) A' Q) : Ev cc nL own rty d scr pc ls st0 A Q := by
  intro p l e R s m args below meth c D cy ad B cells slots Qw H locs lsC X hP hS hl hQ
  obtain ⟨hx, hb, hml, hown, hts, hG, hA, hfr, hlo, hce, hsl, -⟩ := id X
  subst hst
  have hpre := pre_ok (A := A) (av := av) hG hA hS hP
  have hstk : (av.reverse ++ st).map (cv ad) = (av.map (cv ad)).reverse ++ st.map (cv ad) := by rw [List.map_append, List.map_reverse]
  have hrm2 : ((st.map (cv ad)).map fun v => v.category).sum ≤ 8 := by
    have e : (st.map (cv ad)).map (fun v => v.category) = st.map Value.category := by rw [List.map_map]; apply List.map_congr_left; intro v _; exact cv_cat ad v
    rw [e]; exact hrm
  have hlen : (av.map (cv ad)).length = n := by rw [List.length_map]; exact hn
  have hR : d' + 1 ≤ R.frames ∧ 8 + (nL' + 11) + 40 * d' ≤ R.locals := ⟨Nat.le_trans hdd hfr, by omega⟩
  rcases hlk with hlk | ⟨host, hlk⟩
  · refine ev_run X hS hl hQ (va_runS (As := av.map (cv ad)) (rest := st.map (cv ad)) ⟨hx, hb, hml, hown, hts⟩ (hC l D cy ad H.size) ⟨callB_of n hts (goodIn_self hm.1) rfl rfl rfl (hts _ hm.2.1) (hts _ hlk) hm.2.2 hR, hts _ hi⟩ hpre rfl hlen hl.1 hstk (lv_room hrm2) hd ⟨hce, hsl⟩) kk
  · refine ev_run X hS hl hQ (va_runSN (As := av.map (cv ad)) (rest := st.map (cv ad)) (host := host) ⟨hx, hb, hml, hown, hts⟩ (hC l D cy ad H.size) ⟨va_cnB n hts (goodIn_self hm.1) rfl rfl rfl (hG.2.1 _ hlk) (hts _ hm.2.1) hm.2.2 hR, hts _ hi, trivial⟩ hpre rfl hlen hl.1 hstk (lv_room hrm2) hd ⟨hce, hsl⟩) kk
end CALLS
