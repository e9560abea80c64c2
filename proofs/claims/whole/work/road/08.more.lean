/-! more rules: index tests as the pictures have them, stores by 'st2', answers known -/
def st2 (A : Mem) (k j : Nat) (x : Int32) : Mem := updR A k (upd (A k) j x)
/-- the cell that a field or a place of a row refers to -/
def rf (k j : Nat) : Nat := (rt k j).getD 0
def RI (q : Int32 × Mem) : Option Value → Mem → Prop := fun v A' => v = some (.int q.1) ∧ A' = q.2
def RV (q : Int32 × Mem) : Option Value → Mem → Prop := fun v A' => v = none ∧ A' = q.2
def RR (k : Nat) (A : Mem) : Option Value → Mem → Prop := fun v A' => v = some (.ref k) ∧ A' = A
theorem if_t {α : Type} {c : Prop} [Decidable c] {a b r : α} (hc : c) (h : (if c then a else b) = r) : a = r := by rw [if_pos hc] at h; exact h
theorem if_f {α : Type} {c : Prop} [Decidable c] {a b r : α} (hc : ¬ c) (h : (if c then a else b) = r) : b = r := by rw [if_neg hc] at h; exact h
theorem if_c {α : Type} {c : Prop} [Decidable c] {a : Option α} {r : α} (h : (if c then a else none) = some r) : c ∧ a = some r := by
  by_cases hc : c
  · rw [if_pos hc] at h; exact ⟨hc, h⟩
  · rw [if_neg hc] at h; cases h
theorem bd_c {α β : Type} {o : Option α} {f : α → Option β} {r : β} (h : o.bind f = some r) : ∃ q, o = some q ∧ f q = some r := by
  cases o with
  | none => cases h
  | some q => exact ⟨q, rfl, h⟩
theorem nI_back {i : Int32} (h : ¬ i < 0) : i = nI i.toNatClampNeg := by
  obtain ⟨j, hj, rfl⟩ := nI_of h
  rw [nI_clamp hj]
theorem narB {v : Int32} (h : v = 0 ∨ v = 1) : narrow .boolean (.int v) = .int v := by rcases h with rfl | rfl <;> rfl
section MORE
variable {cc : ByteArray} {nL : Nat} {own : String} {rty : Option FieldType} {d : Nat} {scr : Option (Nat × (Nat → Int32))} {pc : Nat} {ls : List (Nat × Value)} {st : List Value} {A : Mem} {Q : Option Value → Mem → Prop}
theorem ev_put2 {idx k ci j : Nat} {x : Int32} (hd : decode cc pc = .ok (.putfield idx, 3)) (hf : fk_ok own idx ci j) (hp : pk_ok ci j) (hk : k < NT) (hc : kd k = ci) (hj : j < ln k) (hc2 : ci < 11) (hr : rt k j = none) (kk : Ev cc nL own rty d scr (pc + 3) ls st (st2 A k j x) Q) : Ev cc nL own rty d scr pc ls (.int x :: .ref k :: st) A Q := ev_put hd hf hp hk hc hj hc2 hr kk
theorem ev_ialdc (N : Nat) {k : Nat} {i : Int32} (hd : decode cc pc = .ok (.iaload, 1)) (hk : k < NT) (hc : kd k = 11) (hN : ln k = N) (hN2 : N < 1000) (hi : ¬ i < 0 ∧ i.toNatClampNeg < N) (kk : Ev cc nL own rty d scr (pc + 1) ls (.int (A k i.toNatClampNeg) :: st) A Q) : Ev cc nL own rty d scr pc ls (.int i :: .ref k :: st) A Q := ev_iald hd hk hc (nI_back hi.1) (by rw [hN]; exact hi.2) (by rw [hN]; exact hN2) kk
theorem ev_ialdl (N j : Nat) {k : Nat} {i : Int32} (hd : decode cc pc = .ok (.iaload, 1)) (hk : k < NT) (hc : kd k = 11) (hN : ln k = N) (hN2 : N < 1000) (hi : i = nI j) (hj : j < N) (kk : Ev cc nL own rty d scr (pc + 1) ls (.int (A k j) :: st) A Q) : Ev cc nL own rty d scr pc ls (.int i :: .ref k :: st) A Q := ev_iald hd hk hc hi (by rw [hN]; exact hj) (by rw [hN]; exact hN2) kk
theorem ev_zaldc (N : Nat) {k : Nat} {i : Int32} (hd : decode cc pc = .ok (.baload, 1)) (hk : k < NT) (hc : kd k = 12) (hN : ln k = N) (hN2 : N < 1000) (hi : ¬ i < 0 ∧ i.toNatClampNeg < N) (kk : Ev cc nL own rty d scr (pc + 1) ls (.int (A k i.toNatClampNeg) :: st) A Q) : Ev cc nL own rty d scr pc ls (.int i :: .ref k :: st) A Q := ev_zald hd hk hc (nI_back hi.1) (by rw [hN]; exact hi.2) (by rw [hN]; exact hN2) kk
theorem ev_iastc (N : Nat) {k : Nat} {i x : Int32} (hd : decode cc pc = .ok (.iastore, 1)) (hk : k < NT) (hc : kd k = 11) (hN : ln k = N) (hN2 : N < 1000) (hi : ¬ i < 0 ∧ i.toNatClampNeg < N) (kk : Ev cc nL own rty d scr (pc + 1) ls st (st2 A k i.toNatClampNeg x) Q) : Ev cc nL own rty d scr pc ls (.int x :: .int i :: .ref k :: st) A Q := ev_iast hd hk hc (nI_back hi.1) (by rw [hN]; exact hi.2) (by rw [hN]; exact hN2) kk
theorem ev_iastl (N j : Nat) {k : Nat} {i x : Int32} (hd : decode cc pc = .ok (.iastore, 1)) (hk : k < NT) (hc : kd k = 11) (hN : ln k = N) (hN2 : N < 1000) (hi : i = nI j) (hj : j < N) (kk : Ev cc nL own rty d scr (pc + 1) ls st (st2 A k j x) Q) : Ev cc nL own rty d scr pc ls (.int x :: .int i :: .ref k :: st) A Q := ev_iast hd hk hc hi (by rw [hN]; exact hj) (by rw [hN]; exact hN2) kk
theorem ev_zastc (N : Nat) {k : Nat} {i x : Int32} (hd : decode cc pc = .ok (.bastore, 1)) (hk : k < NT) (hc : kd k = 12) (hN : ln k = N) (hN2 : N < 1000) (hi : ¬ i < 0 ∧ i.toNatClampNeg < N) (kk : Ev cc nL own rty d scr (pc + 1) ls st (st2 A k i.toNatClampNeg (vp_nar .boolean x)) Q) : Ev cc nL own rty d scr pc ls (.int x :: .int i :: .ref k :: st) A Q := ev_zast hd hk hc (nI_back hi.1) (by rw [hN]; exact hi.2) (by rw [hN]; exact hN2) kk
theorem ev_aaldc (N : Nat) {k ci : Nat} {i : Int32} (hd : decode cc pc = .ok (.aaload, 1)) (hk : k < NT) (hc : kd k = ci) (hc2 : ci = 13 ∨ ci = 14) (hN : ln k = N) (hN2 : N < 1000) (hi : ¬ i < 0 ∧ i.toNatClampNeg < N) (hr : rt k i.toNatClampNeg = some (rf k i.toNatClampNeg)) (kk : Ev cc nL own rty d scr (pc + 1) ls (.ref (rf k i.toNatClampNeg) :: st) A Q) : Ev cc nL own rty d scr pc ls (.int i :: .ref k :: st) A Q := ev_aald hd hk hc hc2 (nI_back hi.1) (by rw [hN]; exact hi.2) (by rw [hN]; exact hN2) hr kk
theorem ev_callVi {idx k n d' nL' : Nat} {y : MethodName} {cc' : ByteArray} {rty' : Option FieldType} {av : List Value} {q : Int32 × Mem} (hd : decode cc pc = .ok (.invokevirtual idx, 3)) (hC : Ct y cc' nL' rty' d' (.ref k :: av) A (RI q)) (hm : mk_ok y cc' nL' rty' n) (hlk : lk_ok own idx y) (hi : Cond.instanceMethod y ∈ lw_good ∧ Cond.selects y.cls y y ∈ lw_good) (hrv : rv_ok k y.cls) (hn : av.length = n) (hdd : d' + 1 ≤ d) (hnl : nL' ≤ 21) (hrm : (st.map Value.category).sum ≤ 8) {st0 : List Value} (hst : st0 = av.reverse ++ .ref k :: st)
    (kk : Ev cc nL own rty d scr (pc + 3) ls (.int q.1 :: st) q.2 Q) : Ev cc nL own rty d scr pc ls st0 A Q := ev_callV hd hC hm hlk hi hrv hn hdd hnl hrm hst (fun v A' h => by obtain ⟨rfl, rfl⟩ := h; exact kk)
theorem ev_callVv {idx k n d' nL' : Nat} {y : MethodName} {cc' : ByteArray} {rty' : Option FieldType} {av : List Value} {q : Int32 × Mem} (hd : decode cc pc = .ok (.invokevirtual idx, 3)) (hC : Ct y cc' nL' rty' d' (.ref k :: av) A (RV q)) (hm : mk_ok y cc' nL' rty' n) (hlk : lk_ok own idx y) (hi : Cond.instanceMethod y ∈ lw_good ∧ Cond.selects y.cls y y ∈ lw_good) (hrv : rv_ok k y.cls) (hn : av.length = n) (hdd : d' + 1 ≤ d) (hnl : nL' ≤ 21) (hrm : (st.map Value.category).sum ≤ 8) {st0 : List Value} (hst : st0 = av.reverse ++ .ref k :: st)
    (kk : Ev cc nL own rty d scr (pc + 3) ls st q.2 Q) : Ev cc nL own rty d scr pc ls st0 A Q := ev_callV hd hC hm hlk hi hrv hn hdd hnl hrm hst (fun v A' h => by obtain ⟨rfl, rfl⟩ := h; exact kk)
theorem ev_callSi {idx n d' nL' : Nat} {y : MethodName} {cc' : ByteArray} {rty' : Option FieldType} {av : List Value} {q : Int32 × Mem} (hd : decode cc pc = .ok (.invokestatic idx, 3)) (hC : Ct y cc' nL' rty' d' av A (RI q)) (hm : mk_ok y cc' nL' rty' n) (hlk : lk_ok own idx y) (hi : Cond.static y ∈ lw_good) (hn : av.length = n) (hdd : d' + 1 ≤ d) (hnl : nL' ≤ 21) (hrm : (st.map Value.category).sum ≤ 8) {st0 : List Value} (hst : st0 = av.reverse ++ st)
    (kk : Ev cc nL own rty d scr (pc + 3) ls (.int q.1 :: st) q.2 Q) : Ev cc nL own rty d scr pc ls st0 A Q := ev_callS hd hC hm hlk hi hn hdd hnl hrm hst (fun v A' h => by obtain ⟨rfl, rfl⟩ := h; exact kk)
theorem ev_callSr {idx n d' nL' k : Nat} {y : MethodName} {cc' : ByteArray} {rty' : Option FieldType} {av : List Value} (hd : decode cc pc = .ok (.invokestatic idx, 3)) (hC : Ct y cc' nL' rty' d' av A (RR k A)) (hm : mk_ok y cc' nL' rty' n) (hlk : lk_ok own idx y) (hi : Cond.static y ∈ lw_good) (hn : av.length = n) (hdd : d' + 1 ≤ d) (hnl : nL' ≤ 21) (hrm : (st.map Value.category).sum ≤ 8) {st0 : List Value} (hst : st0 = av.reverse ++ st)
    (kk : Ev cc nL own rty d scr (pc + 3) ls (.ref k :: st) A Q) : Ev cc nL own rty d scr pc ls st0 A Q := ev_callS hd hC hm hlk hi hn hdd hnl hrm hst (fun v A' h => by obtain ⟨rfl, rfl⟩ := h; exact kk)
theorem ev_callSv {idx n d' nL' : Nat} {y : MethodName} {cc' : ByteArray} {rty' : Option FieldType} {av : List Value} (hd : decode cc pc = .ok (.invokestatic idx, 3)) (hC : Ct y cc' nL' rty' d' av A (RV (0, A))) (hm : mk_ok y cc' nL' rty' n) (hlk : lk_ok own idx y) (hi : Cond.static y ∈ lw_good) (hn : av.length = n) (hdd : d' + 1 ≤ d) (hnl : nL' ≤ 21) (hrm : (st.map Value.category).sum ≤ 8) {st0 : List Value} (hst : st0 = av.reverse ++ st)
    (kk : Ev cc nL own rty d scr (pc + 3) ls st A Q) : Ev cc nL own rty d scr pc ls st0 A Q := ev_callS hd hC hm hlk hi hn hdd hnl hrm hst (fun v A' h => by obtain ⟨rfl, rfl⟩ := h; exact kk)
/-- System.arraycopy between rows of the heap -/
theorem ev_copy {idx k0 k1 : Nat} (n0 n1 : Nat) {sp dp n : Int32} (hd : decode cc pc = .ok (.invokestatic idx, 3)) (hlk : Cond.methodLink own idx arraycopyName ∈ lw_good) (hw : Cond.native arraycopyName ∈ lw_good ∧ Cond.static arraycopyName ∈ lw_good ∧ Cond.initialized "java/lang/System" ∈ lw_good) (hk0 : k0 < NT) (hk1 : k1 < NT) (hc0 : kd k0 = 11) (hc1 : kd k1 = 11) (hN0 : ln k0 = n0) (hN1 : ln k1 = n1) (hb : ¬ sp < 0 ∧ ¬ dp < 0 ∧ ¬ n < 0 ∧ sp.toNatClampNeg + n.toNatClampNeg ≤ n0 ∧ dp.toNatClampNeg + n.toNatClampNeg ≤ n1) (hdd : 1 ≤ d) (hrm : (st.map Value.category).sum ≤ 8)
    (kk : Ev cc nL own rty d scr (pc + 3) ls st (updR A k1 (va_cpy (A k0) (A k1) sp.toNatClampNeg dp.toNatClampNeg n.toNatClampNeg)) Q) : Ev cc nL own rty d scr pc ls (.int n :: .int dp :: .ref k1 :: .int sp :: .ref k0 :: st) A Q := by
  intro p l e R s m args below meth c D cy ad B cells slots Qw H locs lsC X hP hS hl hQ
  obtain ⟨hx, hbb, hml, hown, hts, hG, hA, hfr, hlo, hce, hsl, -⟩ := id X
  have he0 : (wl ad cy A)[k0]? = some (ad k0, .inl (cy 11, ln k0, .inl (A k0))) := by rw [wl_at ad cy A hk0, ce_arr hc0 (by omega) (by omega)]
  have he1 : (wl ad cy A)[k1]? = some (ad k1, .inl (cy 11, ln k1, .inl (A k1))) := by rw [wl_at ad cy A hk1, ce_arr hc1 (by omega) (by omega)]
  have hset : ∀ f : Nat → Int32, (wl ad cy A).set k1 (ad k1, .inl (cy 11, ln k1, .inl f)) = wl ad cy (updR A k1 f) := fun f => wl_set hk1 (by rw [ce_arr hc1 (by omega) (by omega), updR_self])
  have hrm2 : ((st.map (cv ad)).map fun v => v.category).sum ≤ 8 := by
    have e : (st.map (cv ad)).map (fun v => v.category) = st.map Value.category := by rw [List.map_map]; apply List.map_congr_left; intro v _; exact cv_cat ad v
    rw [e]; exact hrm
  have hnw : nativeFrameWords "java/lang/System" "arraycopy" 5 + 11 ≤ 32 := by decide +kernel
  refine va_copyi (D := D) hx hbb (by rw [hml, hl.1]) hown (hts _ hlk) (hts _ hw.1) (hts _ hw.2.1) (hts _ hw.2.2) hG.1 hP (wl_D hG A) hS k0 k1 0 0 he0 he1 rfl rfl rfl hb.1 hb.2.1 hb.2.2.1 (by rw [hN0]; exact hb.2.2.2.1) (by rw [hN1]; exact hb.2.2.2.2) (fun _ _ => rfl) (by omega) (by omega) hd (fun H1 locs1 a _ b => ?_)
  rw [hset] at a
  exact kk p l e R s m args below meth c D cy ad B cells slots Qw H1 locs1 lsC X a b hl hQ
end MORE
