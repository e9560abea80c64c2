/-! THE CALCULUS. After the two constructors the heap's shape is fixed (part 04: 117 cells, kinds, lengths, references); what changes is ints. A memory A : cell -> place -> Int32. 'Ev' says of a method's frame at pc, with locals ls, operand stack st and memory A (references by their cells' numbers, 1000000 and on for what is foreign: texts, constants), that the machine comes from there to a return with (value, memory) in Q; 'Ct' is a method's contract in these words. -/
abbrev Mem : Type := Nat → Nat → Int32
def updR (A : Mem) (k : Nat) (f : Nat → Int32) : Mem := fun q => if q = k then f else A q
def isNest : Cond → Bool
  | .fieldLinkNest _ _ _ _ _ _ => true
  | .methodLinkNest _ _ _ _ => true
  | _ => false
def lw_good : List Cond := lw_tbl.filter goodWord
def lw_nest : List Cond := lw_tbl.filter isNest
theorem good_in {w : Cond} (h : w ∈ lw_tbl) (g : goodWord w = true) : w ∈ lw_good := List.mem_filter.mpr ⟨h, g⟩
theorem nest_in {w : Cond} (h : w ∈ lw_tbl) (g : isNest w = true) : w ∈ lw_nest := List.mem_filter.mpr ⟨h, g⟩
/-- a value by its cell's number, as the machine has it -/
def cv (ad : Nat → Nat) : Value → Value
  | .ref k => .ref (ad k)
  | v => v
theorem cv_cat (ad : Nat → Nat) (v : Value) : (cv ad v).category = v.category := by cases v <;> rfl
/-- a field's value -/
def fv (ad : Nat → Nat) (A : Mem) (k j : Nat) : Value := match rt k j with
  | some r => .ref (ad r)
  | none => .int (A k j)
/-- a cell -/
def ce (ad : Nat → Nat) (cy : Nat → ClassId) (A : Mem) (k : Nat) : va_E :=
  if kd k < 11 then .inr (kd k, (List.range (ln k)).map (fv ad A k))
  else if kd k < 13 then .inl (cy (kd k), ln k, .inl (A k))
  else .inl (cy (kd k), ln k, .inr (.inr (.inr (.inr (fun j => (rt k j).map ad)))))
def wl (ad : Nat → Nat) (cy : Nat → ClassId) (A : Mem) : va_W := (List.range NT).map (fun k => (ad k, ce ad cy A k))
def tyl (cy : Nat → ClassId) : List (ClassId × FieldType) := [(cy 11, .int), (cy 12, .boolean), (cy 13, .object RX0), (cy 14, .object RX3)]
theorem wl_at (ad : Nat → Nat) (cy : Nat → ClassId) (A : Mem) {k : Nat} (h : k < NT) : (wl ad cy A)[k]? = some (ad k, ce ad cy A k) := by
  unfold wl
  rw [List.getElem?_map, List.getElem?_range h]
  rfl
theorem wl_of {ad : Nat → Nat} {cy : Nat → ClassId} {A : Mem} {k : Nat} {q : Nat × va_E} (h : (wl ad cy A)[k]? = some q) : k < NT ∧ q = (ad k, ce ad cy A k) := by
  have hk : k < NT := by
    have h1 := (List.getElem?_eq_some_iff.mp h).1
    unfold wl at h1
    rw [List.length_map, List.length_range] at h1
    exact h1
  refine ⟨hk, ?_⟩
  rw [wl_at ad cy A hk] at h
  exact (Option.some.inj h).symm
theorem ce_obj {ad : Nat → Nat} {cy : Nat → ClassId} {A : Mem} {k ci : Nat} (h : kd k = ci) (hc : ci < 11) : ce ad cy A k = .inr (ci, (List.range (ln k)).map (fv ad A k)) := by
  unfold ce
  rw [h, if_pos hc]
theorem ce_arr {ad : Nat → Nat} {cy : Nat → ClassId} {A : Mem} {k ci : Nat} (h : kd k = ci) (hc : ¬ ci < 11) (hc2 : ci < 13) : ce ad cy A k = .inl (cy ci, ln k, .inl (A k)) := by
  unfold ce
  rw [h, if_neg hc, if_pos hc2]
theorem ce_refs {ad : Nat → Nat} {cy : Nat → ClassId} {A : Mem} {k ci : Nat} (h : kd k = ci) (hc2 : ¬ ci < 13) : ce ad cy A k = .inl (cy ci, ln k, .inr (.inr (.inr (.inr (fun j => (rt k j).map ad))))) := by
  unfold ce
  rw [h, if_neg (by omega), if_neg hc2]
theorem updR_self (A : Mem) (k : Nat) (f : Nat → Int32) : updR A k f k = f := by unfold updR; rw [if_pos rfl]
theorem updR_ne (A : Mem) {k q : Nat} (f : Nat → Int32) (h : q ≠ k) : updR A k f q = A q := by unfold updR; rw [if_neg h]
theorem ce_ne {ad : Nat → Nat} {cy : Nat → ClassId} {A : Mem} {k q : Nat} {f : Nat → Int32} (h : q ≠ k) : ce ad cy (updR A k f) q = ce ad cy A q := by
  unfold ce
  have e : fv ad (updR A k f) q = fv ad A q := by
    funext j
    unfold fv
    rw [updR_ne A f h]
  rw [e, updR_ne A f h]
theorem wl_set {ad : Nat → Nat} {cy : Nat → ClassId} {A : Mem} {k : Nat} {f : Nat → Int32} {x : va_E} (h : k < NT) (hx : x = ce ad cy (updR A k f) k) : (wl ad cy A).set k (ad k, x) = wl ad cy (updR A k f) := by
  apply List.ext_getElem?
  intro i
  by_cases hi : i < NT
  · by_cases e : i = k
    · subst e
      rw [List.getElem?_set_self (by unfold wl; rw [List.length_map, List.length_range]; exact hi), wl_at _ _ _ hi, hx]
    · rw [List.getElem?_set_ne (Ne.symm e), wl_at _ _ _ hi, wl_at _ _ _ hi, ce_ne e]
  · rw [List.getElem?_eq_none (by rw [List.length_set]; unfold wl; rw [List.length_map, List.length_range]; omega), List.getElem?_eq_none (by unfold wl; rw [List.length_map, List.length_range]; omega)]
theorem fv_set {ad : Nat → Nat} {A : Mem} {k j : Nat} {v : Int32} (hr : rt k j = none) (hj : j < ln k) : ((List.range (ln k)).map (fv ad A k)).set j (.int v) = (List.range (ln k)).map (fv ad (updR A k (upd (A k) j v)) k) := by
  apply List.ext_getElem?
  intro i
  by_cases hi : i < ln k
  · by_cases e : i = j
    · subst e
      rw [List.getElem?_set_self (by rw [List.length_map, List.length_range]; exact hi), List.getElem?_map, List.getElem?_range hi]
      simp only [Option.map_some, fv, hr, updR_self, upd, if_true]
    · rw [List.getElem?_set_ne (Ne.symm e), List.getElem?_map, List.getElem?_map, List.getElem?_range hi]
      simp only [Option.map_some, fv, updR_self, upd, if_neg e]
  · rw [List.getElem?_eq_none (by rw [List.length_set, List.length_map, List.length_range]; omega), List.getElem?_eq_none (by rw [List.length_map, List.length_range]; omega)]
/-- the region that a method may write: the cells, and what is new -/
def AR (ad : Nat → Nat) (sz : Nat) : Nat → Prop := fun q => (∃ k, k < NT ∧ q = ad k) ∨ sz ≤ q
def lenS : List Nat := [2, 4, 2, 5, 5, 5, 4, 5, 4, 1]
def bytS : List (List Int32) := [[97, 116], [102, 114, 111, 109], [116, 111], [98, 101, 103, 105, 110], [114, 105, 103, 104, 116], [119, 114, 111, 110, 103], [108, 97, 116, 101], [97, 108, 105, 107, 101], [110, 101, 101, 100], [59]]
def cpS : List Nat := [55, 61, 63, 69, 71, 73, 75, 77, 79, 49]
def txS : List String := ["at", "from", "to", "begin", "right", "wrong", "late", "alike", "need", ";"]
def ptab : Nat → Int32 := fun j => ([50, 10, 30, 0, 0, 40] : List Int32).getD j 0
/-- what a state has beside the heap's own cells: classes, nest words, the cells' addresses apart, the texts, the constants -/
def GX (D : va_G) (cy : Nat → ClassId) (ad : Nat → Nat) (B : Nat → Prop) (U : State) (H : Heap) : Prop :=
  va_K D vwCl (tyl cy) U ∧ (∀ w ∈ lw_nest, va_Nw w U) ∧ (∀ i, i < NT → ∀ j, j < NT → ad i = ad j → i = j) ∧ (∀ k, k < NT → B (ad k)) ∧
  vk_S 10 lenS bytS (fun i => ad (1000000 + i)) (fun i => ad (1000100 + i)) B U H ∧ (∀ i, i < 10 → vk_R RX7 (cpS.getD i 0) (txS.getD i "") (ad (1000000 + i)) U) ∧
  va_Z RX9 "PLAIN_TABLE" "[I" (.ref (ad 1000201)) B U H ∧ va_T .int (ad 1000201) 6 (fun j => .int (ptab j)) B U H ∧
  va_Z RJ0 "COMPACT_STRINGS" "Z" (.int 1) B U H ∧ (va_Z RJ3 "SIOOBE_FORMATTER" "Ljava/util/function/BiFunction;" .null B U H ∨ va_Z RJ3 "SIOOBE_FORMATTER" "Ljava/util/function/BiFunction;" (.ref (ad 1000400)) B U H)
theorem nest_warm {w : Cond} (hw : w ∈ lw_nest) {s U : State} (hW : s.WarmedH U.vm) (h : va_Nw w s) : va_Nw w U := by
  have g := (List.mem_filter.mp hw).2
  cases w <;> first | exact va_Nw.warmF hW h | exact va_Nw.warmM hW h | (exfalso; revert g; unfold isNest; decide) | (exfalso; simp [isNest] at g)
theorem nest_same {w : Cond} (hw : w ∈ lw_nest) {s U : State} (hv : s.vm = U.vm) (h : va_Nw w s) : va_Nw w U := by
  have g := (List.mem_filter.mp hw).2
  cases w <;> first | exact va_Nw.same rfl hv h | (exfalso; revert g; unfold isNest; decide) | (exfalso; simp [isNest] at g)
theorem GX.go {D : va_G} {cy : Nat → ClassId} {ad : Nat → Nat} {B B' : Nat → Prop} {s U : State} {H H1 : Heap} (h : GX D cy ad B s H) (hW : s.WarmedH U.vm) (hq : ∀ a : Nat, a < H.size → ¬ B a → H1[a]? = H[a]?) (hB : ∀ q, B' q → B q) (hB2 : ∀ k, k < NT → B' (ad k)) : GX D cy ad B' U H1 := by
  obtain ⟨h1, h2, h3, h4, h5, h6, h7, h8, h9, h10⟩ := h
  exact ⟨h1.moved hW.alike, fun w hw => nest_warm hw hW (h2 w hw), h3, hB2, ((h5.kept hq).moved hW.alike).narrow hB, fun i hi => (h6 i hi).warm hW, ((h7.kept hq).moved hW.alike).narrow hB, ((h8.kept hq).moved hW.alike).narrow hB, ((h9.kept hq).moved hW.alike).narrow hB, h10.imp (fun z => ((z.kept hq).moved hW.alike).narrow hB) (fun z => ((z.kept hq).moved hW.alike).narrow hB)⟩
theorem GX.same {D : va_G} {cy : Nat → ClassId} {ad : Nat → Nat} {B : Nat → Prop} {s U : State} {H : Heap} (h : GX D cy ad B s H) (hv : s.vm = U.vm) : GX D cy ad B U H := by
  obtain ⟨h1, h2, h3, h4, h5, h6, h7, h8, h9, h10⟩ := h
  have ha : s.vm.Alike U.vm := by rw [hv]; exact Vm.Alike.refl U.vm
  exact ⟨h1.moved ha, fun w hw => nest_same hw hv (h2 w hw), h3, h4, h5.moved ha, fun i hi => (h6 i hi).same hv.symm, h7.moved ha, h8.moved ha, h9.moved ha, h10.imp (fun z => z.moved ha) (fun z => z.moved ha)⟩
/-- a frame's fixed things -/
def Cx (cc : ByteArray) (nL : Nat) (own : String) (d : Nat) (scr : Option (Nat × (Nat → Int32))) (p : Program) (R : Room) (s : State) (m : MethodId) (args : Array Value) (c : Code) (D : va_G) (cy : Nat → ClassId) (ad : Nat → Nat) (B : Nat → Prop) (cells slots : Nat) : Prop :=
  p.tables.exec = Jvm.exec ∧ c.code = cc ∧ c.maxLocals = nL ∧ s.vm.findClass own = some m.cls ∧ (∀ w ∈ lw_good, w.before args s = true) ∧ GX D cy ad B s s.heap ∧ (∀ q, s.heap.size ≤ q → B q) ∧ d ≤ R.frames ∧ 40 * d ≤ R.locals ∧ cells ≤ R.cells ∧ slots ≤ R.slots ∧
  (∀ q, scr = some q → va_X (ad 1000300) q.1 q.2 s s.heap ∧ ad 1000300 < s.heap.size ∧ ¬ B (ad 1000300))
/-- the return at which a method ends -/
def Rt (cc : ByteArray) (rty : Option FieldType) (pc : Nat) (v : Option Value) : Prop :=
  (decode cc pc = .ok (.ireturn, 1) ∧ ∃ (x : Int32) (ty : FieldType), v = some (.int x) ∧ rty = some ty ∧ narrow ty (.int x) = .int x) ∨ (decode cc pc = .ok (.return_, 1) ∧ v = none ∧ rty = none) ∨ (decode cc pc = .ok (.areturn, 1) ∧ ∃ (a : Nat) (n : String), v = some (.ref a) ∧ rty = some (.object n))
def cl (ad : Nat → Nat) (ls : List (Nat × Value)) : List (Nat × Value) := ls.map (fun q => (q.1, cv ad q.2))
def Ev (cc : ByteArray) (nL : Nat) (own : String) (rty : Option FieldType) (d : Nat) (scr : Option (Nat × (Nat → Int32))) (pc : Nat) (ls : List (Nat × Value)) (st : List Value) (A : Mem) (Q : Option Value → Mem → Prop) : Prop :=
  ∀ (p : Program) (l : Launch) (e : Env) (R : Room) (s : State) (m : MethodId) (args : Array Value) (below : List Frame) (meth : Method) (c : Code) (D : va_G) (cy : Nat → ClassId) (ad : Nat → Nat) (B : Nat → Prop) (cells slots : Nat) (Qw : State → Prop) (H : Heap) (locs : List Loc) (lsC : Array Slot),
    Cx cc nL own d scr p R s m args c D cy ad B cells slots → va_P D vwCl (wl ad cy A) H → va_S B s.heap H locs → lv_has lsC nL (cl ad ls) →
    (∀ (pc' : Nat) (v : Option Value) (A' : Mem) (H' : Heap) (locs' : List Loc) (ls' : Array Slot), Rt cc rty pc' v → Q v A' → va_P D vwCl (wl ad cy A') H' → va_S B s.heap H' locs' → W p l e R s m args below meth c H' locs' cells slots Qw (F0 m pc' ls' (v.toList.map (cv ad)))) →
    W p l e R s m args below meth c H locs cells slots Qw (F0 m pc lsC (st.map (cv ad)))
/-- a method's contract: from memory A and these arguments it returns, with (value, memory) in Q -/
def Ct (y : MethodName) (cc : ByteArray) (nL : Nat) (rty : Option FieldType) (d : Nat) (av : List Value) (A : Mem) (Q : Option Value → Mem → Prop) : Prop :=
  ∀ (l : Launch) (D : va_G) (cy : Nat → ClassId) (ad : Nat → Nat) (sz : Nat),
    Met l y (.code y cc nL rty :: lw_good) { frames := d, cells := 0, slots := 0, locals := 40 * d } (va_Pc (av.map (cv ad)) (fun U => U.heap.size = sz ∧ GX D cy ad (AR ad sz) U U.heap ∧ va_P D vwCl (wl ad cy A) U.heap))
      (fun _ st oc t => (∃ (v : Option Value) (A' : Mem), oc = .returned (v.map (cv ad)) ∧ Q v A' ∧ va_P D vwCl (wl ad cy A') t.heap) ∧ va_F (AR ad sz) st t) 0 0 (AR ad sz)
