section RULES
variable {cc : ByteArray} {nL : Nat} {own : String} {rty : Option FieldType} {d : Nat} {scr : Option (Nat × (Nat → Int32))} {pc : Nat} {ls : List (Nat × Value)} {st : List Value} {A : Mem} {Q : Option Value → Mem → Prop}
theorem ev_lift {pc' : Nat} {st' : List Value} (h : ∀ (p : Program) (l : Launch) (e : Env) (R : Room) (s : State) (m : MethodId) (args : Array Value) (below : List Frame) (meth : Method) (c : Code) (cells slots : Nat) (Qw : State → Prop) (H : Heap) (locs : List Loc) (lsC : Array Slot) (ad : Nat → Nat), p.tables.exec = Jvm.exec → c.code = cc → s.vm.findClass own = some m.cls → (∀ w ∈ lw_good, w.before args s = true) → lv_has lsC nL (cl ad ls) →
      W p l e R s m args below meth c H locs cells slots Qw (F0 m pc' lsC (st'.map (cv ad))) → W p l e R s m args below meth c H locs cells slots Qw (F0 m pc lsC (st.map (cv ad))))
    (k : Ev cc nL own rty d scr pc' ls st' A Q) : Ev cc nL own rty d scr pc ls st A Q := by
  intro p l e R s m args below meth c D cy ad B cells slots Qw H locs lsC X hP hS hl hQ
  exact h p l e R s m args below meth c cells slots Qw H locs lsC ad X.1 X.2.1 X.2.2.2.1 X.2.2.2.2.1 hl (k p l e R s m args below meth c D cy ad B cells slots Qw H locs lsC X hP hS hl hQ)
theorem ev_lift2 {pc1 pc2 : Nat} {st1 st2 : List Value} {P1 P2 : Prop} (h : ∀ (p : Program) (l : Launch) (e : Env) (R : Room) (s : State) (m : MethodId) (args : Array Value) (below : List Frame) (meth : Method) (c : Code) (cells slots : Nat) (Qw : State → Prop) (H : Heap) (locs : List Loc) (lsC : Array Slot) (ad : Nat → Nat), p.tables.exec = Jvm.exec → c.code = cc →
      (P1 → W p l e R s m args below meth c H locs cells slots Qw (F0 m pc1 lsC (st1.map (cv ad)))) → (P2 → W p l e R s m args below meth c H locs cells slots Qw (F0 m pc2 lsC (st2.map (cv ad)))) → W p l e R s m args below meth c H locs cells slots Qw (F0 m pc lsC (st.map (cv ad))))
    (k1 : P1 → Ev cc nL own rty d scr pc1 ls st1 A Q) (k2 : P2 → Ev cc nL own rty d scr pc2 ls st2 A Q) : Ev cc nL own rty d scr pc ls st A Q := by
  intro p l e R s m args below meth c D cy ad B cells slots Qw H locs lsC X hP hS hl hQ
  exact h p l e R s m args below meth c cells slots Qw H locs lsC ad X.1 X.2.1 (fun h1 => k1 h1 p l e R s m args below meth c D cy ad B cells slots Qw H locs lsC X hP hS hl hQ) (fun h1 => k2 h1 p l e R s m args below meth c D cy ad B cells slots Qw H locs lsC X hP hS hl hQ)
theorem cl_at {ad : Nat → Nat} {k i : Nat} {v : Value} (h : ls[k]? = some (i, v)) : (cl ad ls)[k]? = some (i, cv ad v) := by
  unfold cl
  rw [List.getElem?_map, h]
  rfl
def stf (i : Nat) (ls : List (Nat × Value)) : List (Nat × Value) := ls.filter (fun q => !(q.1 == i) && !(q.1 + 1 == i && q.2.category == 2))
theorem stf_cl (ad : Nat → Nat) (i : Nat) (ls : List (Nat × Value)) : (cl ad ls).filter (fun q => !(q.1 == i) && !(q.1 + 1 == i && q.2.category == 2)) = cl ad (stf i ls) := by
  unfold cl stf
  rw [List.filter_map]
  congr 1
  apply List.filter_congr
  intro q _
  simp only [Function.comp, cv_cat]
/-- other names for the locals: some of them, in another order -/
theorem ev_pick (ks : List Nat) {ls' : List (Nat × Value)} (h : ks.filterMap (fun k => ls[k]?) = ls') (k : Ev cc nL own rty d scr pc ls' st A Q) : Ev cc nL own rty d scr pc ls st A Q := by
  intro p l e R s m args below meth c D cy ad B cells slots Qw H locs lsC X hP hS hl hQ
  refine k p l e R s m args below meth c D cy ad B cells slots Qw H locs lsC X hP hS ⟨hl.1, hl.2.1, fun q hq => ?_⟩ hQ
  subst h
  unfold cl at hq
  obtain ⟨q0, h0, rfl⟩ := List.mem_map.mp hq
  obtain ⟨i, -, hi⟩ := List.mem_filterMap.mp h0
  exact hl.2.2 _ (List.mem_map.mpr ⟨q0, List.mem_of_getElem? hi, rfl⟩)
theorem ev_mono {Q' : Option Value → Mem → Prop} (h : ∀ v A, Q' v A → Q v A) (k : Ev cc nL own rty d scr pc ls st A Q') : Ev cc nL own rty d scr pc ls st A Q := by
  intro p l e R s m args below meth c D cy ad B cells slots Qw H locs lsC X hP hS hl hQ
  exact k p l e R s m args below meth c D cy ad B cells slots Qw H locs lsC X hP hS hl (fun pc' v A' H' locs' ls' a b => hQ pc' v A' H' locs' ls' a (h v A' b))
theorem ev_top {v w : Value} (h : v = w) (k : Ev cc nL own rty d scr pc ls (w :: st) A Q) : Ev cc nL own rty d scr pc ls (v :: st) A Q := h ▸ k
theorem ev_iconst {n : Int} {v : Int32} (hd : decode cc pc = .ok (.iconst n, 1)) (hv : Int32.ofInt n = v) (k : Ev cc nL own rty d scr (pc + 1) ls (.int v :: st) A Q) : Ev cc nL own rty d scr pc ls (st) A Q := ev_lift (st := st) (st' := .int v :: st) (fun p l e R s m args below meth c cells slots Qw H locs lsC ad hx hb ho ht hl w => lv_iconst hx hb hd hv w) k
theorem ev_bipush {n : Int} {v : Int32} (hd : decode cc pc = .ok (.bipush n, 2)) (hv : (Int8.ofInt n).toInt32 = v) (k : Ev cc nL own rty d scr (pc + 2) ls (.int v :: st) A Q) : Ev cc nL own rty d scr pc ls (st) A Q := ev_lift (st := st) (st' := .int v :: st) (fun p l e R s m args below meth c cells slots Qw H locs lsC ad hx hb ho ht hl w => lv_bipush hx hb hd hv w) k
theorem ev_sipush {n : Int} {v : Int32} (hd : decode cc pc = .ok (.sipush n, 3)) (hv : (Int16.ofInt n).toInt32 = v) (k : Ev cc nL own rty d scr (pc + 3) ls (.int v :: st) A Q) : Ev cc nL own rty d scr pc ls (st) A Q := ev_lift (st := st) (st' := .int v :: st) (fun p l e R s m args below meth c cells slots Qw H locs lsC ad hx hb ho ht hl w => lv_sipush hx hb hd hv w) k
theorem ev_lconst {n : Fin 2} {v : Int64} (hd : decode cc pc = .ok (.lconst n, 1)) (hv : Int64.ofNat (n : Nat) = v) (k : Ev cc nL own rty d scr (pc + 1) ls (.long v :: st) A Q) : Ev cc nL own rty d scr pc ls (st) A Q := ev_lift (st := st) (st' := .long v :: st) (fun p l e R s m args below meth c cells slots Qw H locs lsC ad hx hb ho ht hl w => lv_lconst hx hb hd hv w) k
theorem ev_ldc {i : Nat} {v : Int32} (hd : decode cc pc = .ok (.ldc i, 2)) (hw : Cond.constant own i v ∈ lw_good) (k : Ev cc nL own rty d scr (pc + 2) ls (.int v :: st) A Q) : Ev cc nL own rty d scr pc ls (st) A Q := ev_lift (st := st) (st' := .int v :: st) (fun p l e R s m args below meth c cells slots Qw H locs lsC ad hx hb ho ht hl w => lv_ldc hx hb ho (ht _ hw) hd w) k
theorem ev_ldcw {i : Nat} {v : Int32} (hd : decode cc pc = .ok (.ldc_w i, 3)) (hw : Cond.constant own i v ∈ lw_good) (k : Ev cc nL own rty d scr (pc + 3) ls (.int v :: st) A Q) : Ev cc nL own rty d scr pc ls (st) A Q := ev_lift (st := st) (st' := .int v :: st) (fun p l e R s m args below meth c cells slots Qw H locs lsC ad hx hb ho ht hl w => lv_ldcw hx hb ho (ht _ hw) hd w) k
theorem ev_ldc2 {i : Nat} {v : Int64} (hd : decode cc pc = .ok (.ldc2_w i, 3)) (hw : Cond.constantLong own i v ∈ lw_good) (k : Ev cc nL own rty d scr (pc + 3) ls (.long v :: st) A Q) : Ev cc nL own rty d scr pc ls (st) A Q := ev_lift (st := st) (st' := .long v :: st) (fun p l e R s m args below meth c cells slots Qw H locs lsC ad hx hb ho ht hl w => lv_ldc2 hx hb ho (ht _ hw) hd w) k
theorem ev_iload_n {x : Int32} {n : Fin 4} {i : Nat} (q : Nat) (hd : decode cc pc = .ok (.iload_n n, 1)) (hi : (n : Nat) = i) (hq : ls[q]? = some (i, .int x)) (k : Ev cc nL own rty d scr (pc + 1) ls (.int x :: st) A Q) : Ev cc nL own rty d scr pc ls (st) A Q := ev_lift (st := st) (st' := .int x :: st) (fun p l e R s m args below meth c cells slots Qw H locs lsC ad hx hb ho ht hl w => lv_iload_n hx hb hd hi (lv_at hl q (cl_at hq)) w) k
theorem ev_iload {x : Int32} {i : Nat} (q : Nat) (hd : decode cc pc = .ok (.iload i, 2)) (hq : ls[q]? = some (i, .int x)) (k : Ev cc nL own rty d scr (pc + 2) ls (.int x :: st) A Q) : Ev cc nL own rty d scr pc ls (st) A Q := ev_lift (st := st) (st' := .int x :: st) (fun p l e R s m args below meth c cells slots Qw H locs lsC ad hx hb ho ht hl w => lv_iload hx hb hd (lv_at hl q (cl_at hq)) w) k
theorem ev_lload_n {x : Int64} {n : Fin 4} {i : Nat} (q : Nat) (hd : decode cc pc = .ok (.lload_n n, 1)) (hi : (n : Nat) = i) (hq : ls[q]? = some (i, .long x)) (k : Ev cc nL own rty d scr (pc + 1) ls (.long x :: st) A Q) : Ev cc nL own rty d scr pc ls (st) A Q := ev_lift (st := st) (st' := .long x :: st) (fun p l e R s m args below meth c cells slots Qw H locs lsC ad hx hb ho ht hl w => lv_lload_n hx hb hd hi (lv_at hl q (cl_at hq)) w) k
theorem ev_lload {x : Int64} {i : Nat} (q : Nat) (hd : decode cc pc = .ok (.lload i, 2)) (hq : ls[q]? = some (i, .long x)) (k : Ev cc nL own rty d scr (pc + 2) ls (.long x :: st) A Q) : Ev cc nL own rty d scr pc ls (st) A Q := ev_lift (st := st) (st' := .long x :: st) (fun p l e R s m args below meth c cells slots Qw H locs lsC ad hx hb ho ht hl w => lv_lload hx hb hd (lv_at hl q (cl_at hq)) w) k
theorem ev_aload_n {x : Nat} {n : Fin 4} {i : Nat} (q : Nat) (hd : decode cc pc = .ok (.aload_n n, 1)) (hi : (n : Nat) = i) (hq : ls[q]? = some (i, .ref x)) (k : Ev cc nL own rty d scr (pc + 1) ls (.ref x :: st) A Q) : Ev cc nL own rty d scr pc ls (st) A Q := ev_lift (st := st) (st' := .ref x :: st) (fun p l e R s m args below meth c cells slots Qw H locs lsC ad hx hb ho ht hl w => lv_aload_n hx hb hd hi (lv_at hl q (cl_at hq)) w) k
theorem ev_aload {x : Nat} {i : Nat} (q : Nat) (hd : decode cc pc = .ok (.aload i, 2)) (hq : ls[q]? = some (i, .ref x)) (k : Ev cc nL own rty d scr (pc + 2) ls (.ref x :: st) A Q) : Ev cc nL own rty d scr pc ls (st) A Q := ev_lift (st := st) (st' := .ref x :: st) (fun p l e R s m args below meth c cells slots Qw H locs lsC ad hx hb ho ht hl w => lv_aload hx hb hd (lv_at hl q (cl_at hq)) w) k
theorem ev_istore_n {x : Int32} {n : Fin 4} {i : Nat} {ls' : List (Nat × Value)} (hd : decode cc pc = .ok (.istore_n n, 1)) (hi : (n : Nat) = i) (hn : i < nL) (hs : (i, .int x) :: stf i ls = ls') (k : Ev cc nL own rty d scr (pc + 1) ls' st A Q) : Ev cc nL own rty d scr pc ls (.int x :: st) A Q := by
  intro p l e R s m args below meth c D cy ad B cells slots Qw H locs lsC X hP hS hl hQ
  subst hs
  exact lv_istore_n X.1 X.2.1 hd hi hl hn (by rw [stf_cl]; rfl) (fun ls2 h2 => k p l e R s m args below meth c D cy ad B cells slots Qw H locs ls2 X hP hS h2 hQ)
theorem ev_istore {x : Int32} {i : Nat} {ls' : List (Nat × Value)} (hd : decode cc pc = .ok (.istore i, 2)) (hn : i < nL) (hs : (i, .int x) :: stf i ls = ls') (k : Ev cc nL own rty d scr (pc + 2) ls' st A Q) : Ev cc nL own rty d scr pc ls (.int x :: st) A Q := by
  intro p l e R s m args below meth c D cy ad B cells slots Qw H locs lsC X hP hS hl hQ
  subst hs
  exact lv_istore X.1 X.2.1 hd hl hn (by rw [stf_cl]; rfl) (fun ls2 h2 => k p l e R s m args below meth c D cy ad B cells slots Qw H locs ls2 X hP hS h2 hQ)
theorem ev_astore_n {x : Nat} {n : Fin 4} {i : Nat} {ls' : List (Nat × Value)} (hd : decode cc pc = .ok (.astore_n n, 1)) (hi : (n : Nat) = i) (hn : i < nL) (hs : (i, .ref x) :: stf i ls = ls') (k : Ev cc nL own rty d scr (pc + 1) ls' st A Q) : Ev cc nL own rty d scr pc ls (.ref x :: st) A Q := by
  intro p l e R s m args below meth c D cy ad B cells slots Qw H locs lsC X hP hS hl hQ
  subst hs
  exact lv_astore_n X.1 X.2.1 hd hi hl hn (by rw [stf_cl]; rfl) (fun ls2 h2 => k p l e R s m args below meth c D cy ad B cells slots Qw H locs ls2 X hP hS h2 hQ)
theorem ev_astore {x : Nat} {i : Nat} {ls' : List (Nat × Value)} (hd : decode cc pc = .ok (.astore i, 2)) (hn : i < nL) (hs : (i, .ref x) :: stf i ls = ls') (k : Ev cc nL own rty d scr (pc + 2) ls' st A Q) : Ev cc nL own rty d scr pc ls (.ref x :: st) A Q := by
  intro p l e R s m args below meth c D cy ad B cells slots Qw H locs lsC X hP hS hl hQ
  subst hs
  exact lv_astore X.1 X.2.1 hd hl hn (by rw [stf_cl]; rfl) (fun ls2 h2 => k p l e R s m args below meth c D cy ad B cells slots Qw H locs ls2 X hP hS h2 hQ)
theorem ev_iinc {x v : Int32} {i : Nat} {n : Int} {ls' : List (Nat × Value)} (q : Nat) (hd : decode cc pc = .ok (.iinc i n, 3)) (hq : ls[q]? = some (i, .int x)) (hv : x + Int32.ofInt n = v) (hn : i < nL) (hs : (i, .int v) :: stf i ls = ls') (k : Ev cc nL own rty d scr (pc + 3) ls' st A Q) : Ev cc nL own rty d scr pc ls st A Q := by
  intro p l e R s m args below meth c D cy ad B cells slots Qw H locs lsC X hP hS hl hQ
  subst hs
  exact lv_iinc (k := q) X.1 X.2.1 hd hl (cl_at hq) hv hn (by rw [stf_cl]; rfl) (fun ls2 h2 => k p l e R s m args below meth c D cy ad B cells slots Qw H locs ls2 X hP hS h2 hQ)
theorem ev_iadd {x y : Int32} (hd : decode cc pc = .ok (.iadd, 1)) (k : Ev cc nL own rty d scr (pc + 1) ls (.int (x + y) :: st) A Q) : Ev cc nL own rty d scr pc ls (.int y :: .int x :: st) A Q := ev_lift (st := .int y :: .int x :: st) (st' := .int (x + y) :: st) (fun p l e R s m args below meth c cells slots Qw H locs lsC ad hx hb ho ht hl w => lv_iadd hx hb hd w) k
theorem ev_isub {x y : Int32} (hd : decode cc pc = .ok (.isub, 1)) (k : Ev cc nL own rty d scr (pc + 1) ls (.int (x - y) :: st) A Q) : Ev cc nL own rty d scr pc ls (.int y :: .int x :: st) A Q := ev_lift (st := .int y :: .int x :: st) (st' := .int (x - y) :: st) (fun p l e R s m args below meth c cells slots Qw H locs lsC ad hx hb ho ht hl w => lv_isub hx hb hd w) k
theorem ev_imul {x y : Int32} (hd : decode cc pc = .ok (.imul, 1)) (k : Ev cc nL own rty d scr (pc + 1) ls (.int (x * y) :: st) A Q) : Ev cc nL own rty d scr pc ls (.int y :: .int x :: st) A Q := ev_lift (st := .int y :: .int x :: st) (st' := .int (x * y) :: st) (fun p l e R s m args below meth c cells slots Qw H locs lsC ad hx hb ho ht hl w => lv_imul hx hb hd w) k
theorem ev_iand {x y : Int32} (hd : decode cc pc = .ok (.iand, 1)) (k : Ev cc nL own rty d scr (pc + 1) ls (.int (x &&& y) :: st) A Q) : Ev cc nL own rty d scr pc ls (.int y :: .int x :: st) A Q := ev_lift (st := .int y :: .int x :: st) (st' := .int (x &&& y) :: st) (fun p l e R s m args below meth c cells slots Qw H locs lsC ad hx hb ho ht hl w => lv_iand hx hb hd w) k
theorem ev_ior {x y : Int32} (hd : decode cc pc = .ok (.ior, 1)) (k : Ev cc nL own rty d scr (pc + 1) ls (.int (x ||| y) :: st) A Q) : Ev cc nL own rty d scr pc ls (.int y :: .int x :: st) A Q := ev_lift (st := .int y :: .int x :: st) (st' := .int (x ||| y) :: st) (fun p l e R s m args below meth c cells slots Qw H locs lsC ad hx hb ho ht hl w => lv_ior hx hb hd w) k
theorem ev_ixor {x y : Int32} (hd : decode cc pc = .ok (.ixor, 1)) (k : Ev cc nL own rty d scr (pc + 1) ls (.int (x ^^^ y) :: st) A Q) : Ev cc nL own rty d scr pc ls (.int y :: .int x :: st) A Q := ev_lift (st := .int y :: .int x :: st) (st' := .int (x ^^^ y) :: st) (fun p l e R s m args below meth c cells slots Qw H locs lsC ad hx hb ho ht hl w => lv_ixor hx hb hd w) k
theorem ev_ishl {x y : Int32} (hd : decode cc pc = .ok (.ishl, 1)) (k : Ev cc nL own rty d scr (pc + 1) ls (.int (x <<< (y &&& 31)) :: st) A Q) : Ev cc nL own rty d scr pc ls (.int y :: .int x :: st) A Q := ev_lift (st := .int y :: .int x :: st) (st' := .int (x <<< (y &&& 31)) :: st) (fun p l e R s m args below meth c cells slots Qw H locs lsC ad hx hb ho ht hl w => lv_ishl hx hb hd w) k
theorem ev_ishr {x y : Int32} (hd : decode cc pc = .ok (.ishr, 1)) (k : Ev cc nL own rty d scr (pc + 1) ls (.int (x >>> (y &&& 31)) :: st) A Q) : Ev cc nL own rty d scr pc ls (.int y :: .int x :: st) A Q := ev_lift (st := .int y :: .int x :: st) (st' := .int (x >>> (y &&& 31)) :: st) (fun p l e R s m args below meth c cells slots Qw H locs lsC ad hx hb ho ht hl w => lv_ishr hx hb hd w) k
theorem ev_idiv {x y : Int32} (hd : decode cc pc = .ok (.idiv, 1)) (hne : ¬ y = 0) (k : Ev cc nL own rty d scr (pc + 1) ls (.int (x / y) :: st) A Q) : Ev cc nL own rty d scr pc ls (.int y :: .int x :: st) A Q := ev_lift (st := .int y :: .int x :: st) (st' := .int (x / y) :: st) (fun p l e R s m args below meth c cells slots Qw H locs lsC ad hx hb ho ht hl w => lv_idiv hx hb hd hne w) k
theorem ev_irem {x y : Int32} (hd : decode cc pc = .ok (.irem, 1)) (hne : ¬ y = 0) (k : Ev cc nL own rty d scr (pc + 1) ls (.int (x - x / y * y) :: st) A Q) : Ev cc nL own rty d scr pc ls (.int y :: .int x :: st) A Q := ev_lift (st := .int y :: .int x :: st) (st' := .int (x - x / y * y) :: st) (fun p l e R s m args below meth c cells slots Qw H locs lsC ad hx hb ho ht hl w => lv_irem hx hb hd hne w) k
theorem ev_ineg {x : Int32} (hd : decode cc pc = .ok (.ineg, 1)) (k : Ev cc nL own rty d scr (pc + 1) ls (.int (-x) :: st) A Q) : Ev cc nL own rty d scr pc ls (.int x :: st) A Q := ev_lift (st := .int x :: st) (st' := .int (-x) :: st) (fun p l e R s m args below meth c cells slots Qw H locs lsC ad hx hb ho ht hl w => lv_ineg hx hb hd w) k
theorem ev_iushr {x y v : Int32} (hd : decode cc pc = .ok (.iushr, 1)) (hv : (x.toUInt32 >>> (y.toUInt32 &&& Int32.toUInt32 31)).toInt32 = v) (k : Ev cc nL own rty d scr (pc + 1) ls (.int v :: st) A Q) : Ev cc nL own rty d scr pc ls (.int y :: .int x :: st) A Q := ev_lift (st := .int y :: .int x :: st) (st' := .int v :: st) (fun p l e R s m args below meth c cells slots Qw H locs lsC ad hx hb ho ht hl w => lv_iushr hx hb hd hv w) k
theorem ev_i2l {x : Int32} (hd : decode cc pc = .ok (.i2l, 1)) (k : Ev cc nL own rty d scr (pc + 1) ls (.long x.toInt64 :: st) A Q) : Ev cc nL own rty d scr pc ls (.int x :: st) A Q := ev_lift (st := .int x :: st) (st' := .long x.toInt64 :: st) (fun p l e R s m args below meth c cells slots Qw H locs lsC ad hx hb ho ht hl w => lv_i2l hx hb hd rfl w) k
theorem ev_l2i {x : Int64} (hd : decode cc pc = .ok (.l2i, 1)) (k : Ev cc nL own rty d scr (pc + 1) ls (.int x.toInt32 :: st) A Q) : Ev cc nL own rty d scr pc ls (.long x :: st) A Q := ev_lift (st := .long x :: st) (st' := .int x.toInt32 :: st) (fun p l e R s m args below meth c cells slots Qw H locs lsC ad hx hb ho ht hl w => lv_l2i hx hb hd rfl w) k
theorem ev_i2c {x : Int32} (hd : decode cc pc = .ok (.i2c, 1)) (k : Ev cc nL own rty d scr (pc + 1) ls (.int (x.toUInt32 % 65536).toInt32 :: st) A Q) : Ev cc nL own rty d scr pc ls (.int x :: st) A Q := ev_lift (st := .int x :: st) (st' := .int (x.toUInt32 % 65536).toInt32 :: st) (fun p l e R s m args below meth c cells slots Qw H locs lsC ad hx hb ho ht hl w => lv_i2c hx hb hd rfl w) k
theorem ev_land {x y : Int64} (hd : decode cc pc = .ok (.land, 1)) (k : Ev cc nL own rty d scr (pc + 1) ls (.long (x &&& y) :: st) A Q) : Ev cc nL own rty d scr pc ls (.long y :: .long x :: st) A Q := ev_lift (st := .long y :: .long x :: st) (st' := .long (x &&& y) :: st) (fun p l e R s m args below meth c cells slots Qw H locs lsC ad hx hb ho ht hl w => lv_land hx hb hd w) k
theorem ev_lor {x y : Int64} (hd : decode cc pc = .ok (.lor, 1)) (k : Ev cc nL own rty d scr (pc + 1) ls (.long (x ||| y) :: st) A Q) : Ev cc nL own rty d scr pc ls (.long y :: .long x :: st) A Q := ev_lift (st := .long y :: .long x :: st) (st' := .long (x ||| y) :: st) (fun p l e R s m args below meth c cells slots Qw H locs lsC ad hx hb ho ht hl w => lv_lor hx hb hd w) k
theorem ev_lshr {x : Int64} {y : Int32} (hd : decode cc pc = .ok (.lshr, 1)) (k : Ev cc nL own rty d scr (pc + 1) ls (.long (x >>> (y.toInt64 &&& 63)) :: st) A Q) : Ev cc nL own rty d scr pc ls (.int y :: .long x :: st) A Q := ev_lift (st := .int y :: .long x :: st) (st' := .long (x >>> (y.toInt64 &&& 63)) :: st) (fun p l e R s m args below meth c cells slots Qw H locs lsC ad hx hb ho ht hl w => lv_lshr hx hb hd rfl w) k
theorem ev_lshl {x : Int64} {y : Int32} (hd : decode cc pc = .ok (.lshl, 1)) (k : Ev cc nL own rty d scr (pc + 1) ls (.long (x <<< (y.toInt64 &&& 63)) :: st) A Q) : Ev cc nL own rty d scr pc ls (.int y :: .long x :: st) A Q := ev_lift (st := .int y :: .long x :: st) (st' := .long (x <<< (y.toInt64 &&& 63)) :: st) (fun p l e R s m args below meth c cells slots Qw H locs lsC ad hx hb ho ht hl w => lv_lshl hx hb hd rfl w) k
theorem ev_lcmp {x y : Int64} (hd : decode cc pc = .ok (.lcmp, 1)) (k : Ev cc nL own rty d scr (pc + 1) ls (.int (lg_cmp x y) :: st) A Q) : Ev cc nL own rty d scr pc ls (.long y :: .long x :: st) A Q := ev_lift (st := .long y :: .long x :: st) (st' := .int (lg_cmp x y) :: st) (fun p l e R s m args below meth c cells slots Qw H locs lsC ad hx hb ho ht hl w => W.lcmp hx hb hd w) k
theorem ev_dup {v : Value} (hd : decode cc pc = .ok (.dup, 1)) (hc : v.category = 1) (k : Ev cc nL own rty d scr (pc + 1) ls (v :: v :: st) A Q) : Ev cc nL own rty d scr pc ls (v :: st) A Q := ev_lift (st := v :: st) (st' := v :: v :: st) (fun p l e R s m args below meth c cells slots Qw H locs lsC ad hx hb ho ht hl w => lv_dup hx hb hd ((cv_cat ad v).trans hc) w) k
theorem ev_pop {v : Value} (hd : decode cc pc = .ok (.pop, 1)) (hc : v.category = 1) (k : Ev cc nL own rty d scr (pc + 1) ls (st) A Q) : Ev cc nL own rty d scr pc ls (v :: st) A Q := ev_lift (st := v :: st) (st' := st) (fun p l e R s m args below meth c cells slots Qw H locs lsC ad hx hb ho ht hl w => lv_pop hx hb hd ((cv_cat ad v).trans hc) w) k
theorem ev_dup2 {v u : Value} (hd : decode cc pc = .ok (.dup2, 1)) (hc : v.category = 1) (hu : u.category = 1) (k : Ev cc nL own rty d scr (pc + 1) ls (v :: u :: v :: u :: st) A Q) : Ev cc nL own rty d scr pc ls (v :: u :: st) A Q := ev_lift (st := v :: u :: st) (st' := v :: u :: v :: u :: st) (fun p l e R s m args below meth c cells slots Qw H locs lsC ad hx hb ho ht hl w => lv_dup2_11 hx hb hd ((cv_cat ad v).trans hc) ((cv_cat ad u).trans hu) w) k
theorem ev_if_eq {x : Int32} {off : Int} {tgt : Nat} (hd : decode cc pc = .ok (.ifCond .eq off, 3)) (ht : (pc : Int) + off = (tgt : Int)) (kt : x = 0 → Ev cc nL own rty d scr tgt ls st A Q) (kf : ¬ x = 0 → Ev cc nL own rty d scr (pc + 3) ls st A Q) : Ev cc nL own rty d scr pc ls (.int x :: st) A Q := ev_lift2 (st := .int x :: st) (st1 := st) (st2 := st) (fun p l e R s m args below meth c cells slots Qw H locs lsC ad hx hb w1 w2 => lv_if_eq hx hb hd ht w1 w2) kt kf
theorem ev_icmp_eq {x y : Int32} {off : Int} {tgt : Nat} (hd : decode cc pc = .ok (.if_icmp .eq off, 3)) (ht : (pc : Int) + off = (tgt : Int)) (kt : x = y → Ev cc nL own rty d scr tgt ls st A Q) (kf : ¬ x = y → Ev cc nL own rty d scr (pc + 3) ls st A Q) : Ev cc nL own rty d scr pc ls (.int y :: .int x :: st) A Q := ev_lift2 (st := .int y :: .int x :: st) (st1 := st) (st2 := st) (fun p l e R s m args below meth c cells slots Qw H locs lsC ad hx hb w1 w2 => lv_icmp_eq hx hb hd ht w1 w2) kt kf
theorem ev_if_ne {x : Int32} {off : Int} {tgt : Nat} (hd : decode cc pc = .ok (.ifCond .ne off, 3)) (ht : (pc : Int) + off = (tgt : Int)) (kt : ¬ x = 0 → Ev cc nL own rty d scr tgt ls st A Q) (kf : x = 0 → Ev cc nL own rty d scr (pc + 3) ls st A Q) : Ev cc nL own rty d scr pc ls (.int x :: st) A Q := ev_lift2 (st := .int x :: st) (st1 := st) (st2 := st) (fun p l e R s m args below meth c cells slots Qw H locs lsC ad hx hb w1 w2 => lv_if_ne hx hb hd ht w1 w2) kt kf
theorem ev_icmp_ne {x y : Int32} {off : Int} {tgt : Nat} (hd : decode cc pc = .ok (.if_icmp .ne off, 3)) (ht : (pc : Int) + off = (tgt : Int)) (kt : ¬ x = y → Ev cc nL own rty d scr tgt ls st A Q) (kf : x = y → Ev cc nL own rty d scr (pc + 3) ls st A Q) : Ev cc nL own rty d scr pc ls (.int y :: .int x :: st) A Q := ev_lift2 (st := .int y :: .int x :: st) (st1 := st) (st2 := st) (fun p l e R s m args below meth c cells slots Qw H locs lsC ad hx hb w1 w2 => lv_icmp_ne hx hb hd ht w1 w2) kt kf
theorem ev_if_lt {x : Int32} {off : Int} {tgt : Nat} (hd : decode cc pc = .ok (.ifCond .lt off, 3)) (ht : (pc : Int) + off = (tgt : Int)) (kt : x < 0 → Ev cc nL own rty d scr tgt ls st A Q) (kf : ¬ x < 0 → Ev cc nL own rty d scr (pc + 3) ls st A Q) : Ev cc nL own rty d scr pc ls (.int x :: st) A Q := ev_lift2 (st := .int x :: st) (st1 := st) (st2 := st) (fun p l e R s m args below meth c cells slots Qw H locs lsC ad hx hb w1 w2 => lv_if_lt hx hb hd ht w1 w2) kt kf
theorem ev_icmp_lt {x y : Int32} {off : Int} {tgt : Nat} (hd : decode cc pc = .ok (.if_icmp .lt off, 3)) (ht : (pc : Int) + off = (tgt : Int)) (kt : x < y → Ev cc nL own rty d scr tgt ls st A Q) (kf : ¬ x < y → Ev cc nL own rty d scr (pc + 3) ls st A Q) : Ev cc nL own rty d scr pc ls (.int y :: .int x :: st) A Q := ev_lift2 (st := .int y :: .int x :: st) (st1 := st) (st2 := st) (fun p l e R s m args below meth c cells slots Qw H locs lsC ad hx hb w1 w2 => lv_icmp_lt hx hb hd ht w1 w2) kt kf
theorem ev_if_ge {x : Int32} {off : Int} {tgt : Nat} (hd : decode cc pc = .ok (.ifCond .ge off, 3)) (ht : (pc : Int) + off = (tgt : Int)) (kt : 0 ≤ x → Ev cc nL own rty d scr tgt ls st A Q) (kf : ¬ 0 ≤ x → Ev cc nL own rty d scr (pc + 3) ls st A Q) : Ev cc nL own rty d scr pc ls (.int x :: st) A Q := ev_lift2 (st := .int x :: st) (st1 := st) (st2 := st) (fun p l e R s m args below meth c cells slots Qw H locs lsC ad hx hb w1 w2 => lv_if_ge hx hb hd ht w1 w2) kt kf
theorem ev_icmp_ge {x y : Int32} {off : Int} {tgt : Nat} (hd : decode cc pc = .ok (.if_icmp .ge off, 3)) (ht : (pc : Int) + off = (tgt : Int)) (kt : y ≤ x → Ev cc nL own rty d scr tgt ls st A Q) (kf : ¬ y ≤ x → Ev cc nL own rty d scr (pc + 3) ls st A Q) : Ev cc nL own rty d scr pc ls (.int y :: .int x :: st) A Q := ev_lift2 (st := .int y :: .int x :: st) (st1 := st) (st2 := st) (fun p l e R s m args below meth c cells slots Qw H locs lsC ad hx hb w1 w2 => lv_icmp_ge hx hb hd ht w1 w2) kt kf
theorem ev_if_gt {x : Int32} {off : Int} {tgt : Nat} (hd : decode cc pc = .ok (.ifCond .gt off, 3)) (ht : (pc : Int) + off = (tgt : Int)) (kt : 0 < x → Ev cc nL own rty d scr tgt ls st A Q) (kf : ¬ 0 < x → Ev cc nL own rty d scr (pc + 3) ls st A Q) : Ev cc nL own rty d scr pc ls (.int x :: st) A Q := ev_lift2 (st := .int x :: st) (st1 := st) (st2 := st) (fun p l e R s m args below meth c cells slots Qw H locs lsC ad hx hb w1 w2 => lv_if_gt hx hb hd ht w1 w2) kt kf
theorem ev_icmp_gt {x y : Int32} {off : Int} {tgt : Nat} (hd : decode cc pc = .ok (.if_icmp .gt off, 3)) (ht : (pc : Int) + off = (tgt : Int)) (kt : y < x → Ev cc nL own rty d scr tgt ls st A Q) (kf : ¬ y < x → Ev cc nL own rty d scr (pc + 3) ls st A Q) : Ev cc nL own rty d scr pc ls (.int y :: .int x :: st) A Q := ev_lift2 (st := .int y :: .int x :: st) (st1 := st) (st2 := st) (fun p l e R s m args below meth c cells slots Qw H locs lsC ad hx hb w1 w2 => lv_icmp_gt hx hb hd ht w1 w2) kt kf
theorem ev_if_le {x : Int32} {off : Int} {tgt : Nat} (hd : decode cc pc = .ok (.ifCond .le off, 3)) (ht : (pc : Int) + off = (tgt : Int)) (kt : x ≤ 0 → Ev cc nL own rty d scr tgt ls st A Q) (kf : ¬ x ≤ 0 → Ev cc nL own rty d scr (pc + 3) ls st A Q) : Ev cc nL own rty d scr pc ls (.int x :: st) A Q := ev_lift2 (st := .int x :: st) (st1 := st) (st2 := st) (fun p l e R s m args below meth c cells slots Qw H locs lsC ad hx hb w1 w2 => lv_if_le hx hb hd ht w1 w2) kt kf
theorem ev_icmp_le {x y : Int32} {off : Int} {tgt : Nat} (hd : decode cc pc = .ok (.if_icmp .le off, 3)) (ht : (pc : Int) + off = (tgt : Int)) (kt : x ≤ y → Ev cc nL own rty d scr tgt ls st A Q) (kf : ¬ x ≤ y → Ev cc nL own rty d scr (pc + 3) ls st A Q) : Ev cc nL own rty d scr pc ls (.int y :: .int x :: st) A Q := ev_lift2 (st := .int y :: .int x :: st) (st1 := st) (st2 := st) (fun p l e R s m args below meth c cells slots Qw H locs lsC ad hx hb w1 w2 => lv_icmp_le hx hb hd ht w1 w2) kt kf
theorem ev_goto {off : Int} {tgt : Nat} (hd : decode cc pc = .ok (.goto off, 3)) (ht : (pc : Int) + off = (tgt : Int)) (k : Ev cc nL own rty d scr tgt ls st A Q) : Ev cc nL own rty d scr pc ls st A Q := ev_lift (st := st) (st' := st) (fun p l e R s m args below meth c cells slots Qw H locs lsC ad hx hb _ _ _ w => lv_goto hx hb hd ht w) k
theorem ev_tableIn {dflt lo hi : Int} {offs : Array Int} {len : Nat} {x : Int32} {off : Int} {tgt : Nat} (hd : decode cc pc = .ok (.tableswitch dflt lo hi offs, len)) (h1 : ¬ x.toInt < lo) (h2 : ¬ hi < x.toInt) (ho : offs[(x.toInt - lo).toNat]? = some off) (ht : (pc : Int) + off = (tgt : Int)) (k : Ev cc nL own rty d scr tgt ls st A Q) : Ev cc nL own rty d scr pc ls (.int x :: st) A Q := ev_lift (st := .int x :: st) (st' := st) (fun p l e R s m args below meth c cells slots Qw H locs lsC ad hx hb _ _ _ w => lv_tableIn hx hb hd h1 h2 ho ht w) k
theorem ev_tableOut {dflt lo hi : Int} {offs : Array Int} {len : Nat} {x : Int32} {tgt : Nat} (hd : decode cc pc = .ok (.tableswitch dflt lo hi offs, len)) (h : x.toInt < lo ∨ hi < x.toInt) (ht : (pc : Int) + dflt = (tgt : Int)) (k : Ev cc nL own rty d scr tgt ls st A Q) : Ev cc nL own rty d scr pc ls (.int x :: st) A Q := ev_lift (st := .int x :: st) (st' := st) (fun p l e R s m args below meth c cells slots Qw H locs lsC ad hx hb _ _ _ w => lv_tableOut hx hb hd h ht w) k
-- returns
theorem ev_iret {v : Int32} {ty : FieldType} (hd : decode cc pc = .ok (.ireturn, 1)) (hr : rty = some ty) (hn : narrow ty (.int v) = .int v) (hq : Q (some (.int v)) A) : Ev cc nL own rty d scr pc ls [.int v] A Q := by
  intro p l e R s m args below meth c D cy ad B cells slots Qw H locs lsC X hP hS hl hQ
  exact hQ pc (some (.int v)) A H locs lsC (Or.inl ⟨hd, v, ty, rfl, hr, hn⟩) hq hP hS
theorem ev_vret (hd : decode cc pc = .ok (.return_, 1)) (hr : rty = none) (hq : Q none A) : Ev cc nL own rty d scr pc ls [] A Q := by
  intro p l e R s m args below meth c D cy ad B cells slots Qw H locs lsC X hP hS hl hQ
  exact hQ pc none A H locs lsC (Or.inr (Or.inl ⟨hd, rfl, hr⟩)) hq hP hS
theorem ev_aret {a : Nat} {n : String} (hd : decode cc pc = .ok (.areturn, 1)) (hr : rty = some (.object n)) (hq : Q (some (.ref a)) A) : Ev cc nL own rty d scr pc ls [.ref a] A Q := by
  intro p l e R s m args below meth c D cy ad B cells slots Qw H locs lsC X hP hS hl hQ
  exact hQ pc (some (.ref a)) A H locs lsC (Or.inr (Or.inr ⟨hd, a, n, rfl, hr⟩)) hq hP hS
-- fields
/-- entry idx of own's pool is field j of the class ci -/
def fk_ok (own : String) (idx ci j : Nat) : Prop := ∃ (C : String) (T : u_T) (N : Nat), vwCl[ci]? = some (C, T, N) ∧ j < N ∧ (T j).1 = C ∧ (∀ w ∈ u_ws C T N, w ∈ lw_good) ∧
  (Cond.fieldLink own idx C (T j).2.1 (T j).2.2.1 ∈ lw_good ∨ ∃ host : String, Cond.fieldLinkNest own idx C (T j).2.1 (T j).2.2.1 host ∈ lw_nest)
/-- field j of the class ci is an int that is written -/
def pk_ok (ci j : Nat) : Prop := ∃ (C : String) (T : u_T) (N : Nat) (ty0 : Nat → FieldType), vwCl[ci]? = some (C, T, N) ∧ (T j).2.2.2 = false ∧ (T j).2.2.1 = "I" ∧ (∀ k, k < N → parseFieldDescriptor (T k).2.2.1 = some (ty0 k)) ∧ (∀ a, a < N → ∀ b, b < N → a ≠ b → (T a).2.1 ≠ (T b).2.1)
theorem wl_D {D : va_G} {cy : Nat → ClassId} {ad : Nat → Nat} {B : Nat → Prop} {s : State} {H : Heap} (h : GX D cy ad B s H) (A : Mem) : va_D B (wl ad cy A) := by
  refine ⟨fun i j x y hi hj e => ?_, fun k q hk => ?_⟩
  · obtain ⟨h1, rfl⟩ := wl_of hi
    obtain ⟨h2, rfl⟩ := wl_of hj
    exact h.2.2.1 i h1 j h2 e
  · obtain ⟨h1, rfl⟩ := wl_of hk
    exact h.2.2.2.1 k h1
theorem ev_get {idx k ci j : Nat} (v : Value) (hd : decode cc pc = .ok (.getfield idx, 3)) (hf : fk_ok own idx ci j) (hk : k < NT) (hc : kd k = ci) (hj : j < ln k) (hc2 : ci < 11) (hv : ∀ ad : Nat → Nat, fv ad A k j = cv ad v) (kk : Ev cc nL own rty d scr (pc + 3) ls (v :: st) A Q) : Ev cc nL own rty d scr pc ls (.ref k :: st) A Q := by
  intro p l e R s m args below meth c D cy ad B cells slots Qw H locs lsC X hP hS hl hQ
  obtain ⟨C, T, N, h1, h2, h3, h4, h5⟩ := hf
  have he : (wl ad cy A)[k]? = some (ad k, .inr (ci, (List.range (ln k)).map (fv ad A k))) := by rw [wl_at ad cy A hk, ce_obj hc hc2]
  have hv2 : ((List.range (ln k)).map (fv ad A k))[j]? = some (cv ad v) := by rw [List.getElem?_map, List.getElem?_range hj]; exact congrArg some (hv ad)
  have w := kk p l e R s m args below meth c D cy ad B cells slots Qw H locs lsC X hP hS hl hQ
  rcases h5 with h5 | ⟨host, h5⟩
  · exact va_get (D := D) X.1 X.2.1 X.2.2.2.2.1 h4 X.2.2.2.1 X.2.2.2.2.2.1.1 hP k he h1 j h2 (X.2.2.2.2.1 _ h5) (fun x hx => by rw [h3] at hx; exact hx) hv2 hd w
  · exact va_getN (D := D) X.1 X.2.1 X.2.2.2.2.1 h4 X.2.2.2.1 X.2.2.2.2.2.1.1 hP k he h1 j h2 (va_Nw.use rfl (X.2.2.2.2.2.1.2.1 _ h5)) (fun x hx => by rw [h3] at hx; exact hx) hv2 hd w
theorem ev_getI {idx k ci j : Nat} (hd : decode cc pc = .ok (.getfield idx, 3)) (hf : fk_ok own idx ci j) (hk : k < NT) (hc : kd k = ci) (hj : j < ln k) (hc2 : ci < 11) (hr : rt k j = none) (kk : Ev cc nL own rty d scr (pc + 3) ls (.int (A k j) :: st) A Q) : Ev cc nL own rty d scr pc ls (.ref k :: st) A Q :=
  ev_get (.int (A k j)) hd hf hk hc hj hc2 (fun ad => by unfold fv; rw [hr]; rfl) kk
theorem ev_getR {idx k ci j r : Nat} (hd : decode cc pc = .ok (.getfield idx, 3)) (hf : fk_ok own idx ci j) (hk : k < NT) (hc : kd k = ci) (hj : j < ln k) (hc2 : ci < 11) (hr : rt k j = some r) (kk : Ev cc nL own rty d scr (pc + 3) ls (.ref r :: st) A Q) : Ev cc nL own rty d scr pc ls (.ref k :: st) A Q :=
  ev_get (.ref r) hd hf hk hc hj hc2 (fun ad => by unfold fv; rw [hr]; rfl) kk
theorem ev_put {idx k ci j : Nat} {x : Int32} (hd : decode cc pc = .ok (.putfield idx, 3)) (hf : fk_ok own idx ci j) (hp : pk_ok ci j) (hk : k < NT) (hc : kd k = ci) (hj : j < ln k) (hc2 : ci < 11) (hr : rt k j = none) (kk : Ev cc nL own rty d scr (pc + 3) ls st (updR A k (upd (A k) j x)) Q) : Ev cc nL own rty d scr pc ls (.int x :: .ref k :: st) A Q := by
  intro p l e R s m args below meth c D cy ad B cells slots Qw H locs lsC X hP hS hl hQ
  obtain ⟨C, T, N, h1, h2, h3, h4, h5⟩ := hf
  obtain ⟨C', T', N', ty0, g1, g2, g3, g4, g5⟩ := hp
  rw [h1] at g1
  cases g1
  have he : (wl ad cy A)[k]? = some (ad k, .inr (ci, (List.range (ln k)).map (fv ad A k))) := by rw [wl_at ad cy A hk, ce_obj hc hc2]
  have hset : (wl ad cy A).set k (ad k, .inr (ci, ((List.range (ln k)).map (fv ad A k)).set j (.int x))) = wl ad cy (updR A k (upd (A k) j x)) := wl_set hk (by rw [ce_obj hc hc2, fv_set hr hj])
  have w := fun H1 locs1 a b => kk p l e R s m args below meth c D cy ad B cells slots Qw H1 locs1 lsC X a b hl hQ
  have hd2 : parseFieldDescriptor (T j).2.2.1 = some .int := by rw [g3]; decide +kernel
  rcases h5 with h5 | ⟨host, h5⟩
  · exact va_put (D := D) X.1 X.2.1 X.2.2.2.2.1 h4 ty0 g4 g5 X.2.2.2.1 X.2.2.2.2.2.1.1 hP (wl_D X.2.2.2.2.2.1 A) hS k he h1 j h2 (X.2.2.2.2.1 _ h5) (fun x hx => by rw [h3] at hx; exact hx) g2 hd2 rfl rfl (by rw [List.length_map, List.length_range]; exact hj) hd (fun H1 locs1 a _ b => w H1 locs1 (by rw [← hset]; exact a) b)
  · exact va_putN (D := D) X.1 X.2.1 X.2.2.2.2.1 h4 ty0 g4 g5 X.2.2.2.1 X.2.2.2.2.2.1.1 hP (wl_D X.2.2.2.2.2.1 A) hS k he h1 j h2 (va_Nw.use rfl (X.2.2.2.2.2.1.2.1 _ h5)) (fun x hx => by rw [h3] at hx; exact hx) g2 hd2 rfl rfl (by rw [List.length_map, List.length_range]; exact hj) hd (fun H1 locs1 a _ b => w H1 locs1 (by rw [← hset]; exact a) b)
-- rows
theorem ev_iald {k j : Nat} {i : Int32} (hd : decode cc pc = .ok (.iaload, 1)) (hk : k < NT) (hc : kd k = 11) (hi : i = nI j) (hj : j < ln k) (hln : ln k < 1000) (kk : Ev cc nL own rty d scr (pc + 1) ls (.int (A k j) :: st) A Q) : Ev cc nL own rty d scr pc ls (.int i :: .ref k :: st) A Q := by
  intro p l e R s m args below meth c D cy ad B cells slots Qw H locs lsC X hP hS hl hQ
  subst hi
  have w := kk p l e R s m args below meth c D cy ad B cells slots Qw H locs lsC X hP hS hl hQ
  have he : (wl ad cy A)[k]? = some (ad k, .inl (cy 11, ln k, .inl (A k))) := by rw [wl_at ad cy A hk, ce_arr hc (by omega) (by omega)]
  exact va_iald (D := D) X.1 X.2.1 X.2.2.2.2.2.1.1 hP k 0 he rfl (vp_in_nI hj (by omega)) hd (by rw [nI_clamp (by omega)]; exact w)
theorem ev_zald {k j : Nat} {i : Int32} (hd : decode cc pc = .ok (.baload, 1)) (hk : k < NT) (hc : kd k = 12) (hi : i = nI j) (hj : j < ln k) (hln : ln k < 1000) (kk : Ev cc nL own rty d scr (pc + 1) ls (.int (A k j) :: st) A Q) : Ev cc nL own rty d scr pc ls (.int i :: .ref k :: st) A Q := by
  intro p l e R s m args below meth c D cy ad B cells slots Qw H locs lsC X hP hS hl hQ
  subst hi
  have w := kk p l e R s m args below meth c D cy ad B cells slots Qw H locs lsC X hP hS hl hQ
  have he : (wl ad cy A)[k]? = some (ad k, .inl (cy 12, ln k, .inl (A k))) := by rw [wl_at ad cy A hk, ce_arr hc (by omega) (by omega)]
  exact va_zald (D := D) X.1 X.2.1 X.2.2.2.2.2.1.1 hP k 1 he rfl (vp_in_nI hj (by omega)) hd (by rw [nI_clamp (by omega)]; exact w)
theorem ev_aald {k j r ci : Nat} {i : Int32} (hd : decode cc pc = .ok (.aaload, 1)) (hk : k < NT) (hc : kd k = ci) (hc2 : ci = 13 ∨ ci = 14) (hi : i = nI j) (hj : j < ln k) (hln : ln k < 1000) (hr : rt k j = some r) (kk : Ev cc nL own rty d scr (pc + 1) ls (.ref r :: st) A Q) : Ev cc nL own rty d scr pc ls (.int i :: .ref k :: st) A Q := by
  intro p l e R s m args below meth c D cy ad B cells slots Qw H locs lsC X hP hS hl hQ
  subst hi
  have w := kk p l e R s m args below meth c D cy ad B cells slots Qw H locs lsC X hP hS hl hQ
  have he : (wl ad cy A)[k]? = some (ad k, .inl (cy ci, ln k, .inr (.inr (.inr (.inr (fun j => (rt k j).map ad)))))) := by rw [wl_at ad cy A hk, ce_refs hc (by omega)]
  rcases hc2 with h | h
  · subst h
    exact va_aldq (D := D) X.1 X.2.1 X.2.2.2.2.2.1.1 hP k 2 he rfl (vp_in_nI hj (by omega)) hd (by rw [nI_clamp (by omega), hr]; exact w)
  · subst h
    exact va_aldq (D := D) X.1 X.2.1 X.2.2.2.2.2.1.1 hP k 3 he rfl (vp_in_nI hj (by omega)) hd (by rw [nI_clamp (by omega), hr]; exact w)
theorem ev_iast {k j : Nat} {i x : Int32} (hd : decode cc pc = .ok (.iastore, 1)) (hk : k < NT) (hc : kd k = 11) (hi : i = nI j) (hj : j < ln k) (hln : ln k < 1000) (kk : Ev cc nL own rty d scr (pc + 1) ls st (updR A k (upd (A k) j x)) Q) : Ev cc nL own rty d scr pc ls (.int x :: .int i :: .ref k :: st) A Q := by
  intro p l e R s m args below meth c D cy ad B cells slots Qw H locs lsC X hP hS hl hQ
  subst hi
  have w := fun H1 locs1 a b => kk p l e R s m args below meth c D cy ad B cells slots Qw H1 locs1 lsC X a b hl hQ
  have he : (wl ad cy A)[k]? = some (ad k, .inl (cy 11, ln k, .inl (A k))) := by rw [wl_at ad cy A hk, ce_arr hc (by omega) (by omega)]
  have hset : (wl ad cy A).set k (ad k, .inl (cy 11, ln k, .inl (upd (A k) j x))) = wl ad cy (updR A k (upd (A k) j x)) := wl_set hk (by rw [ce_arr hc (by omega) (by omega), updR_self])
  refine va_iast (D := D) X.1 X.2.1 X.2.2.2.2.2.1.1 hP (wl_D X.2.2.2.2.2.1 A) hS k 0 he rfl (vp_in_nI hj (by omega)) hd (fun H1 locs1 a _ b => w H1 locs1 ?_ b)
  rw [nI_clamp (by omega), hset] at a
  exact a
theorem ev_zast {k j : Nat} {i x : Int32} (hd : decode cc pc = .ok (.bastore, 1)) (hk : k < NT) (hc : kd k = 12) (hi : i = nI j) (hj : j < ln k) (hln : ln k < 1000) (kk : Ev cc nL own rty d scr (pc + 1) ls st (updR A k (upd (A k) j (vp_nar .boolean x))) Q) : Ev cc nL own rty d scr pc ls (.int x :: .int i :: .ref k :: st) A Q := by
  intro p l e R s m args below meth c D cy ad B cells slots Qw H locs lsC X hP hS hl hQ
  subst hi
  have w := fun H1 locs1 a b => kk p l e R s m args below meth c D cy ad B cells slots Qw H1 locs1 lsC X a b hl hQ
  have he : (wl ad cy A)[k]? = some (ad k, .inl (cy 12, ln k, .inl (A k))) := by rw [wl_at ad cy A hk, ce_arr hc (by omega) (by omega)]
  have hset : (wl ad cy A).set k (ad k, .inl (cy 12, ln k, .inl (upd (A k) j (vp_nar .boolean x)))) = wl ad cy (updR A k (upd (A k) j (vp_nar .boolean x))) := wl_set hk (by rw [ce_arr hc (by omega) (by omega), updR_self])
  refine va_zast (D := D) X.1 X.2.1 X.2.2.2.2.2.1.1 hP (wl_D X.2.2.2.2.2.1 A) hS k 1 he rfl (vp_in_nI hj (by omega)) hd (fun H1 locs1 a _ b => w H1 locs1 ?_ b)
  rw [nI_clamp (by omega), hset] at a
  exact a
end RULES
