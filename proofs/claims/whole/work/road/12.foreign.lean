section FOR
variable {cc : ByteArray} {nL : Nat} {own : String} {rty : Option FieldType} {d : Nat} {scr : Option (Nat × (Nat → Int32))} {pc : Nat} {ls : List (Nat × Value)} {st : List Value} {A : Mem} {Q : Option Value → Mem → Prop}
theorem ev_ldcS (i : Nat) {idx : Nat} (hd : decode cc pc = .ok (.ldc idx, 2)) (hi : i < 10) (hidx : cpS.getD i 0 = idx) (k : Ev cc nL RX7 rty d scr (pc + 2) ls (.ref (1000000 + i) :: st) A Q) : Ev cc nL RX7 rty d scr pc ls st A Q := by
  intro p l e R s m args below meth c D cy ad B cells slots Qw H locs lsC X hP hS hl hQ
  subst hidx
  exact va_ldcS X.1 X.2.1 X.2.2.2.1 (X.2.2.2.2.2.1.2.2.2.2.2.1 i hi) hd (k p l e R s m args below meth c D cy ad B cells slots Qw H locs lsC X hP hS hl hQ)
theorem ev_sval (i : Nat) {idx : Nat} (hd : decode cc pc = .ok (.getfield idx, 3)) (hw : Cond.fieldLink own idx "java/lang/String" "value" "[B" ∈ lw_good) (hi : i < 10) (k : Ev cc nL own rty d scr (pc + 3) ls (.ref (1000100 + i) :: st) A Q) : Ev cc nL own rty d scr pc ls (.ref (1000000 + i) :: st) A Q := by
  intro p l e R s m args below meth c D cy ad B cells slots Qw H locs lsC X hP hS hl hQ
  exact vk_getf X.1 X.2.1 (X.2.2.2.2.2.1.2.2.2.2.1.1 i hi).2.2.1 hS X.2.2.2.1 (X.2.2.2.2.1 _ hw) (fun _ h => h) hd (k p l e R s m args below meth c D cy ad B cells slots Qw H locs lsC X hP hS hl hQ)
theorem ev_scod (i : Nat) {idx : Nat} (hd : decode cc pc = .ok (.getfield idx, 3)) (hw : Cond.fieldLink own idx "java/lang/String" "coder" "B" ∈ lw_good) (hi : i < 10) (k : Ev cc nL own rty d scr (pc + 3) ls (.int 0 :: st) A Q) : Ev cc nL own rty d scr pc ls (.ref (1000000 + i) :: st) A Q := by
  intro p l e R s m args below meth c D cy ad B cells slots Qw H locs lsC X hP hS hl hQ
  exact vk_getf X.1 X.2.1 (X.2.2.2.2.2.1.2.2.2.2.1.1 i hi).2.1 hS X.2.2.2.1 (X.2.2.2.2.1 _ hw) (fun _ h => h) hd (k p l e R s m args below meth c D cy ad B cells slots Qw H locs lsC X hP hS hl hQ)
theorem ev_slen (i : Nat) (hd : decode cc pc = .ok (.arraylength, 1)) (hi : i < 10) (k : Ev cc nL own rty d scr (pc + 1) ls (.int (nI (lenS.getD i 0)) :: st) A Q) : Ev cc nL own rty d scr pc ls (.ref (1000100 + i) :: st) A Q := by
  intro p l e R s m args below meth c D cy ad B cells slots Qw H locs lsC X hP hS hl hQ
  exact va_tlen X.1 X.2.1 (X.2.2.2.2.2.1.2.2.2.2.1.1 i hi).2.2.2 hS rfl hd (k p l e R s m args below meth c D cy ad B cells slots Qw H locs lsC X hP hS hl hQ)
theorem ev_sbyte (i : Nat) {x : Int32} (hd : decode cc pc = .ok (.baload, 1)) (hi : i < 10) (hx : ¬ x < 0 ∧ x.toNatClampNeg < lenS.getD i 0) (k : Ev cc nL own rty d scr (pc + 1) ls (.int ((bytS.getD i []).getD x.toNatClampNeg 0) :: st) A Q) : Ev cc nL own rty d scr pc ls (.int x :: .ref (1000100 + i) :: st) A Q := by
  intro p l e R s m args below meth c D cy ad B cells slots Qw H locs lsC X hP hS hl hQ
  exact va_tb X.1 X.2.1 (X.2.2.2.2.2.1.2.2.2.2.1.1 i hi).2.2.2 hS (fun z => z.elim hx.1 (fun q => absurd hx.2 (Nat.not_lt.mpr q))) rfl hd (k p l e R s m args below meth c D cy ad B cells slots Qw H locs lsC X hP hS hl hQ)
theorem ev_gcs {idx : Nat} (hd : decode cc pc = .ok (.getstatic idx, 3)) (hw : Cond.fieldLink own idx RJ0 "COMPACT_STRINGS" "Z" ∈ lw_good) (k : Ev cc nL own rty d scr (pc + 3) ls (.int 1 :: st) A Q) : Ev cc nL own rty d scr pc ls st A Q := by
  intro p l e R s m args below meth c D cy ad B cells slots Qw H locs lsC X hP hS hl hQ
  exact va_gets X.1 X.2.1 X.2.2.2.2.2.1.2.2.2.2.2.2.2.2.1 hS X.2.2.2.1 (X.2.2.2.2.1 _ hw) (fun _ h => h) hd (k p l e R s m args below meth c D cy ad B cells slots Qw H locs lsC X hP hS hl hQ)
theorem ev_gfm {idx : Nat} (hd : decode cc pc = .ok (.getstatic idx, 3)) (hw : Cond.fieldLink own idx RJ3 "SIOOBE_FORMATTER" "Ljava/util/function/BiFunction;" ∈ lw_good) (k1 : Ev cc nL own rty d scr (pc + 3) ls (.null :: st) A Q) (k2 : Ev cc nL own rty d scr (pc + 3) ls (.ref 1000400 :: st) A Q) : Ev cc nL own rty d scr pc ls st A Q := by
  intro p l e R s m args below meth c D cy ad B cells slots Qw H locs lsC X hP hS hl hQ
  rcases X.2.2.2.2.2.1.2.2.2.2.2.2.2.2.2 with hz | hz
  · exact va_gets X.1 X.2.1 hz hS X.2.2.2.1 (X.2.2.2.2.1 _ hw) (fun _ h => h) hd (k1 p l e R s m args below meth c D cy ad B cells slots Qw H locs lsC X hP hS hl hQ)
  · exact va_gets X.1 X.2.1 hz hS X.2.2.2.1 (X.2.2.2.2.1 _ hw) (fun _ h => h) hd (k2 p l e R s m args below meth c D cy ad B cells slots Qw H locs lsC X hP hS hl hQ)
theorem ev_gpt {idx : Nat} {host : String} (hd : decode cc pc = .ok (.getstatic idx, 3)) (hw : Cond.fieldLinkNest own idx RX9 "PLAIN_TABLE" "[I" host ∈ lw_nest) (k : Ev cc nL own rty d scr (pc + 3) ls (.ref 1000201 :: st) A Q) : Ev cc nL own rty d scr pc ls st A Q := by
  intro p l e R s m args below meth c D cy ad B cells slots Qw H locs lsC X hP hS hl hQ
  exact va_getsN X.1 X.2.1 X.2.2.2.2.2.1.2.2.2.2.2.2.1 hS X.2.2.2.1 (va_Nw.use rfl (X.2.2.2.2.2.1.2.1 _ hw)) (fun _ h => h) hd (k p l e R s m args below meth c D cy ad B cells slots Qw H locs lsC X hP hS hl hQ)
end FOR
/-- System.arraycopy out of a row of ints that is a constant -/
theorem w_copyT {p : Program} {l : Launch} {e : Env} {R : Room} {s : State} {m : MethodId} {args : Array Value} {below : List Frame} {meth : Method} {c : Code} {H : Heap} {locs : List Loc} {cells slots : Nat} {Q : State → Prop} {cc : ByteArray} {pc : Nat} {ls : Array Slot} {rest : List Value} {D : va_G} {cl : List vw_C} {A : Nat → Prop} {a : Nat} {tys : List (ClassId × FieldType)} {ws : va_W}
    (hexec : p.tables.exec = Jvm.exec) (hb : c.code = cc) (hml : c.maxLocals = ls.size) {own : String} {index : Nat} (hown : s.vm.findClass own = some m.cls) (hlink : (Cond.methodLink own index arraycopyName).before args s = true) (hnat : (Cond.native arraycopyName).before args s = true) (hstat : (Cond.static arraycopyName).before args s = true) (hini : (Cond.initialized "java/lang/System").before args s = true)
    (hK : va_K D cl tys s) (hP : va_P D cl ws H) (hD : va_D A ws) (hS : va_S A s.heap H locs) {b0 n0 : Nat} {f : Nat → Int32} (hX : va_T .int b0 n0 (fun j => .int (f j)) A s s.heap) (q1 t1 : Nat) {c1 : ClassId} {n1 : Nat} {g : Nat → Int32} (ha1 : ws[q1]? = some (a, .inl (c1, n1, .inl g))) (ht1 : tys[t1]? = some (c1, .int))
    {sp dp n : Int32} (h1 : ¬ sp < 0) (h2 : ¬ dp < 0) (h3 : ¬ n < 0) (h4 : sp.toNatClampNeg + n.toNatClampNeg ≤ n0) (h5 : dp.toNatClampNeg + n.toNatClampNeg ≤ n1)
    (hframes : 1 ≤ R.frames) (hlocals : (rest.map fun v => v.category).sum + (nativeFrameWords "java/lang/System" "arraycopy" 5 + 11) ≤ R.locals) (hdg : decode cc pc = .ok (.invokestatic index, 3))
    (kk : ∀ (H1 : Heap) (locs1 : List Loc), va_P D cl (ws.set q1 (a, .inl (c1, n1, .inl (va_cpy f g sp.toNatClampNeg dp.toNatClampNeg n.toNatClampNeg)))) H1 → va_S A s.heap H1 locs1 → W p l e R s m args below meth c H1 locs1 cells slots Q (F0 m (pc + 3) ls rest)) : W p l e R s m args below meth c H locs cells slots Q (F0 m pc ls (.int n :: .int dp :: .ref a :: .int sp :: .ref b0 :: rest)) := by
  have nn : ∀ z : Int32, ¬ z < 0 → z.toInt = (z.toNatClampNeg : Int) := by
    intro z hz
    obtain ⟨j, hj, rfl⟩ := nI_of hz
    rw [nI_clamp hj, nI_toInt hj]
  intro T hT X
  obtain ⟨scr, hs1, hs2, hs3, hs4, -, hs5, hs7⟩ := hX
  have hc0 : H[b0]? = some scr := by rw [hS.2.1 b0 (Array.getElem?_eq_some_iff.mp hs1).1 hs7]; exact hs1
  have hc1 : H[a]? = some (vp_cell c1 (n1, .inl g)) := hP q1 _ ha1
  obtain ⟨hs6, k0, hk0, cm0, hkk0⟩ := hs2
  obtain ⟨-, k1, hk1, cm1, hkk1⟩ := (hK.2 t1 _ ht1).1 n1 (fun j => .int (g j))
  obtain ⟨vm', X', step⟩ := X.arraycopy hexec hown hlink hnat hstat hini (src := b0) (dst := a) (cs := scr) (cd := vp_cell c1 (n1, .inl g)) (srcPos := sp) (destPos := dp) (n := n) (by rw [hT]; exact hc0) (by rw [hT]; exact hc1)
    hs6 (fun _ h => by cases h) hs3 (fun h => by cases h) hk0 hk1 hkk0 hkk1 (by simp [refKind]) h1 h2 h3
    (by rw [nn sp h1, nn n h3]; omega)
    (by rw [nn dp h2, nn n h3]; show ¬ _ > ((arrV c1 n1 (fun j => .int (g j))).slots.size : Int); rw [arrV_size]; omega)
    (fun vm₁ _ i hi => by
      have e : scr.slots.getD (sp.toNatClampNeg + i) .null = .int (f (sp.toNatClampNeg + i)) := by
        rw [Array.getD_eq_getD_getElem?, hs5 _ (by omega)]
        rfl
      refine ⟨?_, ?_⟩
      · rw [e]; rfl
      · rw [e]
        exact trivial)
    (g := F0 m pc ls (.int n :: .int dp :: .ref a :: .int sp :: .ref b0 :: rest)) rfl (by rw [hml]) (rest := rest) rfl (by rw [hb]; exact hdg) hframes (by show 2 * 0 + _ + _ ≤ _; omega)
  have e1 : copied scr (vp_cell c1 (n1, .inl g)) sp dp n = vp_cell c1 (n1, .inl (va_cpy f g sp.toNatClampNeg dp.toNatClampNeg n.toNatClampNeg)) := va_copiedX (fun z => .int z) scr c1 f g hs5 h4
  rw [e1] at X' step
  have hl : a < H.size := (Array.getElem?_eq_some_iff.mp hc1).1
  have hheap : ((T.setVm vm').setCell a (vp_cell c1 (n1, .inl (va_cpy f g sp.toNatClampNeg dp.toNatClampNeg n.toNatClampNeg)))).heap = H.setIfInBounds a (vp_cell c1 (n1, .inl (va_cpy f g sp.toNatClampNeg dp.toNatClampNeg n.toNatClampNeg))) := by rw [← hT]; rfl
  have oq : ∀ q : Nat, q ≠ a → (H.setIfInBounds a (vp_cell c1 (n1, .inl (va_cpy f g sp.toNatClampNeg dp.toNatClampNeg n.toNatClampNeg))))[q]? = H[q]? := fun q hq => by simp [Array.getElem?_setIfInBounds, Ne.symm hq]
  obtain ⟨t, a1, b1⟩ := kk _ _ (hP.set hD ha1 (show (H.setIfInBounds a _)[a]? = some _ by simp [Array.getElem?_setIfInBounds, hl]) oq) ⟨by simp; exact hS.1, fun q g1 g2 => by
      rw [oq q (fun e => g2 (by rw [e]; exact hD.2 q1 _ ha1))]
      exact hS.2.1 q g1 g2, fun q hq => by
      rcases List.mem_append.mp hq with h | h
      · exact hS.2.2 q h
      · obtain ⟨z, -, hz⟩ := List.mem_map.mp h
        rw [← hz]
        exact hD.2 q1 _ ha1⟩ _ hheap X'
  exact ⟨t, step t a1, b1⟩
theorem ev_copyT {cc : ByteArray} {nL : Nat} {own : String} {rty : Option FieldType} {d : Nat} {scr : Option (Nat × (Nat → Int32))} {pc : Nat} {ls : List (Nat × Value)} {st : List Value} {A : Mem} {Q : Option Value → Mem → Prop} {idx k1 : Nat} (n1 : Nat) {sp dp n : Int32} (hd : decode cc pc = .ok (.invokestatic idx, 3)) (hlk : Cond.methodLink own idx arraycopyName ∈ lw_good) (hk1 : k1 < NT) (hc1 : kd k1 = 11) (hN1 : ln k1 = n1) (hb : ¬ sp < 0 ∧ ¬ dp < 0 ∧ ¬ n < 0 ∧ sp.toNatClampNeg + n.toNatClampNeg ≤ 6 ∧ dp.toNatClampNeg + n.toNatClampNeg ≤ n1) (hdd : 1 ≤ d) (hrm : (st.map Value.category).sum ≤ 8)
    (kk : Ev cc nL own rty d scr (pc + 3) ls st (updR A k1 (va_cpy ptab (A k1) sp.toNatClampNeg dp.toNatClampNeg n.toNatClampNeg)) Q) : Ev cc nL own rty d scr pc ls (.int n :: .int dp :: .ref k1 :: .int sp :: .ref 1000201 :: st) A Q := by
  intro p l e R s m args below meth c D cy ad B cells slots Qw H locs lsC X hP hS hl hQ
  obtain ⟨hx, hbb, hml, hown, hts, hG, hA, hfr, hlo, hce, hsl, -⟩ := id X
  have he1 : (wl ad cy A)[k1]? = some (ad k1, .inl (cy 11, ln k1, .inl (A k1))) := by rw [wl_at ad cy A hk1, ce_arr hc1 (by omega) (by omega)]
  have hset : ∀ f : Nat → Int32, (wl ad cy A).set k1 (ad k1, .inl (cy 11, ln k1, .inl f)) = wl ad cy (updR A k1 f) := fun f => wl_set hk1 (by rw [ce_arr hc1 (by omega) (by omega), updR_self])
  have hrm2 : ((st.map (cv ad)).map fun v => v.category).sum ≤ 8 := by
    have e : (st.map (cv ad)).map (fun v => v.category) = st.map Value.category := by rw [List.map_map]; apply List.map_congr_left; intro v _; exact cv_cat ad v
    rw [e]; exact hrm
  have hnw : nativeFrameWords "java/lang/System" "arraycopy" 5 + 11 ≤ 32 := by decide +kernel
  refine w_copyT (D := D) hx hbb (by rw [hml, hl.1]) hown (hts _ hlk) (hts _ cpw.1) (hts _ cpw.2.1) (hts _ cpw.2.2) hG.1 hP (wl_D hG A) hS hG.2.2.2.2.2.2.2.1 k1 0 he1 rfl hb.1 hb.2.1 hb.2.2.1 hb.2.2.2.1 (by rw [hN1]; exact hb.2.2.2.2) (by omega) (by omega) hd (fun H1 locs1 a b => ?_)
  rw [hset] at a
  exact kk p l e R s m args below meth c D cy ad B cells slots Qw H1 locs1 lsC X a b hl hQ
theorem c_coder (w : Nat) (hw : w < 10) (A : Mem) : Ct yJ0_coder_7d493 cJ0_coder_7d493 1 (some .byte) 0 [.ref (1000000 + w)] A (RI (0, A)) := by
  refine ct_of (by decide) (Nat.le_of_ble_eq_true rfl) ?_
  show Ev cJ0_coder_7d493 1 RJ0 (some .byte) 0 none 0 [(0, .ref (1000000 + w))] [] A _
  refine ev_gcs dJ0_coder_7d493_0 (good_in (List.mem_of_getElem? (i := 524) (by decide +kernel)) rfl) ?_
  refine ev_if_eq (tgt := 13) dJ0_coder_7d493_3 (by decide) (fun hh => absurd hh (by decide)) (fun _ => ?_)
  refine ev_aload_n 0 dJ0_coder_7d493_6 rfl rfl ?_
  refine ev_scod w dJ0_coder_7d493_7 (good_in (List.mem_of_getElem? (i := 1363) (by decide +kernel)) rfl) hw ?_
  refine ev_goto (tgt := 14) dJ0_coder_7d493_10 (by decide) ?_
  exact ev_iret dJ0_coder_7d493_14 rfl rfl ⟨rfl, rfl⟩
theorem c_isLatin1 (w : Nat) (hw : w < 10) (A : Mem) : Ct yJ0_isLatin1_aae02 cJ0_isLatin1_aae02 1 (some .boolean) 0 [.ref (1000000 + w)] A (RI (1, A)) := by
  refine ct_of (by decide) (Nat.le_of_ble_eq_true rfl) ?_
  show Ev cJ0_isLatin1_aae02 1 RJ0 (some .boolean) 0 none 0 [(0, .ref (1000000 + w))] [] A _
  refine ev_gcs dJ0_isLatin1_aae02_0 (good_in (List.mem_of_getElem? (i := 524) (by decide +kernel)) rfl) ?_
  refine ev_if_eq (tgt := 17) dJ0_isLatin1_aae02_3 (by decide) (fun hh => absurd hh (by decide)) (fun _ => ?_)
  refine ev_aload_n 0 dJ0_isLatin1_aae02_6 rfl rfl ?_
  refine ev_scod w dJ0_isLatin1_aae02_7 (good_in (List.mem_of_getElem? (i := 1363) (by decide +kernel)) rfl) hw ?_
  refine ev_if_ne (tgt := 17) dJ0_isLatin1_aae02_10 (by decide) (fun hh => absurd rfl hh) (fun _ => ?_)
  refine ev_iconst (v := 1) dJ0_isLatin1_aae02_13 (by decide) ?_
  refine ev_goto (tgt := 18) dJ0_isLatin1_aae02_14 (by decide) ?_
  exact ev_iret dJ0_isLatin1_aae02_18 rfl rfl ⟨rfl, rfl⟩
theorem lenS_lt : ∀ w, w < 10 → lenS.getD w 0 < 10 := by decide +kernel
theorem c_slen (w : Nat) (hw : w < 10) (A : Mem) : Ct yJ0_length_8abf5 cJ0_length_8abf5 1 (some .int) 1 [.ref (1000000 + w)] A (RI (nI (lenS.getD w 0), A)) := by
  refine ct_of (by decide) (Nat.le_of_ble_eq_true rfl) ?_
  show Ev cJ0_length_8abf5 1 RJ0 (some .int) 1 none 0 [(0, .ref (1000000 + w))] [] A _
  refine ev_aload_n 0 dJ0_length_8abf5_0 rfl rfl ?_
  refine ev_sval w dJ0_length_8abf5_1 (good_in (List.mem_of_getElem? (i := 1362) (by decide +kernel)) rfl) hw ?_
  refine ev_slen w dJ0_length_8abf5_4 hw ?_
  refine ev_aload_n 0 dJ0_length_8abf5_5 rfl rfl ?_
  refine ev_callVi (av := []) dJ0_length_8abf5_6 (c_coder w hw A) mk_J0_coder_7d493 lk_J0_335 iv_J0_coder_7d493 (Or.inr ⟨w, hw, rfl, rfl⟩) rfl (by decide) (by decide) (Nat.le_of_ble_eq_true rfl) rfl ?_
  refine ev_ishr dJ0_length_8abf5_9 ?_
  refine ev_iret dJ0_length_8abf5_10 rfl rfl ⟨?_, rfl⟩
  have e : nI (lenS.getD w 0) >>> ((0 : Int32) &&& 31) = nI (lenS.getD w 0) := by
    have h := lenS_lt w hw
    generalize lenS.getD w 0 = z at h
    have h2 : ∀ z, z < 10 → nI z >>> ((0 : Int32) &&& 31) = nI z := by decide +kernel
    exact h2 z h
  exact congrArg (fun z => some (Value.int z)) e
theorem c_ck3 (x y : Int32) (v : Value) (hv : v = .null ∨ v = .ref 1000400) (h0 : ¬ x < 0) (h1 : x < y) (A : Mem) : Ct yJ3_checkIndex_8e157 cJ3_checkIndex_8e157 3 (some .int) 0 [.int x, .int y, v] A (RI (x, A)) := by
  refine ct_of (by decide) (by rcases hv with rfl | rfl <;> exact Nat.le_of_ble_eq_true rfl) ?_
  have e : lv_args 0 [Value.int x, .int y, v] = [(0, .int x), (1, .int y), (2, v)] := rfl
  rw [e]
  show Ev cJ3_checkIndex_8e157 3 RJ3 (some .int) 0 none 0 [(0, .int x), (1, .int y), (2, v)] [] A _
  refine ev_iload_n 0 dJ3_checkIndex_8e157_0 rfl rfl ?_
  refine ev_if_lt (tgt := 9) dJ3_checkIndex_8e157_1 (by decide) (fun hh => absurd hh h0) (fun _ => ?_)
  refine ev_iload_n 0 dJ3_checkIndex_8e157_4 rfl rfl ?_
  refine ev_iload_n 1 dJ3_checkIndex_8e157_5 rfl rfl ?_
  refine ev_icmp_lt (tgt := 16) dJ3_checkIndex_8e157_6 (by decide) (fun _ => ?_) (fun hh => absurd h1 hh)
  refine ev_iload_n 0 dJ3_checkIndex_8e157_16 rfl rfl ?_
  exact ev_iret dJ3_checkIndex_8e157_17 rfl rfl ⟨rfl, rfl⟩
theorem c_ck0 (x y : Int32) (h0 : ¬ x < 0) (h1 : x < y) (A : Mem) : Ct yJ0_checkIndex_df160 cJ0_checkIndex_df160 2 none 1 [.int x, .int y] A (RV (0, A)) := by
  refine ct_of (by decide) (Nat.le_of_ble_eq_true rfl) ?_
  show Ev cJ0_checkIndex_df160 2 RJ0 none 1 none 0 [(0, .int x), (1, .int y)] [] A _
  refine ev_iload_n 0 dJ0_checkIndex_df160_0 rfl rfl ?_
  refine ev_iload_n 1 dJ0_checkIndex_df160_1 rfl rfl ?_
  have key : ∀ v : Value, (v = .null ∨ v = .ref 1000400) → Ev cJ0_checkIndex_df160 2 RJ0 none 1 none 5 [(0, .int x), (1, .int y)] [v, .int y, .int x] A (RV (0, A)) := by
    intro v hv
    refine ev_callSi (av := [.int x, .int y, v]) dJ0_checkIndex_df160_5 (c_ck3 x y v hv h0 h1 A) mk_J3_checkIndex_8e157 lk_J0_1059 is_J3_checkIndex_8e157 rfl (by decide) (by decide) (Nat.le_of_ble_eq_true rfl) rfl ?_
    refine ev_pop dJ0_checkIndex_df160_8 rfl ?_
    exact ev_vret dJ0_checkIndex_df160_9 rfl ⟨rfl, rfl⟩
  exact ev_gfm dJ0_checkIndex_df160_2 (good_in (List.mem_of_getElem? (i := 540) (by decide +kernel)) rfl) (key _ (Or.inl rfl)) (key _ (Or.inr rfl))
theorem bytS_ok : ∀ w, w < 10 → ∀ k, k < lenS.getD w 0 → (((bytS.getD w []).getD k 0 &&& 255).toUInt32 % 65536).toInt32 = (bytS.getD w []).getD k 0 ∧ narrow .char (.int ((bytS.getD w []).getD k 0)) = .int ((bytS.getD w []).getD k 0) := by decide +kernel
theorem ix_lt {x : Int32} {n : Nat} (h : ¬ x < 0 ∧ x.toNatClampNeg < n) (hn : n < 2 ^ 31) : x < nI n := by
  obtain ⟨j, hj, rfl⟩ := nI_of h.1
  rw [nI_clamp hj] at h
  exact nI_lt h.2 hn
theorem c_ch1 (w : Nat) (hw : w < 10) (x : Int32) (hx : ¬ x < 0 ∧ x.toNatClampNeg < lenS.getD w 0) (A : Mem) : Ct yJ1_charAt_3b067 cJ1_charAt_3b067 2 (some .char) 2 [.ref (1000100 + w), .int x] A (RI ((bytS.getD w []).getD x.toNatClampNeg 0, A)) := by
  have hb := bytS_ok w hw _ hx.2
  have hlt := lenS_lt w hw
  refine ct_of (by decide) (Nat.le_of_ble_eq_true rfl) ?_
  show Ev cJ1_charAt_3b067 2 RJ1 (some .char) 2 none 0 [(0, .ref (1000100 + w)), (1, .int x)] [] A _
  refine ev_iload_n 1 dJ1_charAt_3b067_0 rfl rfl ?_
  refine ev_aload_n 0 dJ1_charAt_3b067_1 rfl rfl ?_
  refine ev_slen w dJ1_charAt_3b067_2 hw ?_
  refine ev_callSv (av := [.int x, .int (nI (lenS.getD w 0))]) dJ1_charAt_3b067_3 (c_ck0 x _ hx.1 (ix_lt hx (by omega)) A) mk_J0_checkIndex_df160 lk_J1_9 is_J0_checkIndex_df160 rfl (by decide) (by decide) (Nat.le_of_ble_eq_true rfl) rfl ?_
  refine ev_aload_n 0 dJ1_charAt_3b067_6 rfl rfl ?_
  refine ev_iload_n 1 dJ1_charAt_3b067_7 rfl rfl ?_
  refine ev_sbyte w dJ1_charAt_3b067_8 hw hx ?_
  refine ev_sipush (v := 255) dJ1_charAt_3b067_9 (by decide) ?_
  refine ev_iand dJ1_charAt_3b067_12 ?_
  refine ev_i2c dJ1_charAt_3b067_13 ?_
  rw [hb.1]
  exact ev_iret dJ1_charAt_3b067_14 rfl hb.2 ⟨rfl, rfl⟩
theorem c_schar (w : Nat) (hw : w < 10) (x : Int32) (hx : ¬ x < 0 ∧ x.toNatClampNeg < lenS.getD w 0) (A : Mem) : Ct yJ0_charAt_5068e cJ0_charAt_5068e 2 (some .char) 3 [.ref (1000000 + w), .int x] A (RI ((bytS.getD w []).getD x.toNatClampNeg 0, A)) := by
  have hb := bytS_ok w hw _ hx.2
  refine ct_of (by decide) (Nat.le_of_ble_eq_true rfl) ?_
  show Ev cJ0_charAt_5068e 2 RJ0 (some .char) 3 none 0 [(0, .ref (1000000 + w)), (1, .int x)] [] A _
  refine ev_aload_n 0 dJ0_charAt_5068e_0 rfl rfl ?_
  refine ev_callVi (av := []) dJ0_charAt_5068e_1 (c_isLatin1 w hw A) mk_J0_isLatin1_aae02 lk_J0_492 iv_J0_isLatin1_aae02 (Or.inr ⟨w, hw, rfl, rfl⟩) rfl (by decide) (by decide) (Nat.le_of_ble_eq_true rfl) rfl ?_
  refine ev_if_eq (tgt := 16) dJ0_charAt_5068e_4 (by decide) (fun hh => absurd (show (1 : Int32) = 0 from hh) (by decide)) (fun _ => ?_)
  refine ev_aload_n 0 dJ0_charAt_5068e_7 rfl rfl ?_
  refine ev_sval w dJ0_charAt_5068e_8 (good_in (List.mem_of_getElem? (i := 1362) (by decide +kernel)) rfl) hw ?_
  refine ev_iload_n 1 dJ0_charAt_5068e_11 rfl rfl ?_
  refine ev_callSi (av := [.ref (1000100 + w), .int x]) dJ0_charAt_5068e_12 (c_ch1 w hw x hx A) mk_J1_charAt_3b067 lk_J0_495 is_J1_charAt_3b067 rfl (by decide) (by decide) (Nat.le_of_ble_eq_true rfl) rfl ?_
  exact ev_iret dJ0_charAt_5068e_15 rfl hb.2 ⟨rfl, rfl⟩
theorem gpt_X3_9 : Cond.fieldLinkNest RX3 9 RX9 "PLAIN_TABLE" "[I" "OneManDesk" ∈ lw_nest := nest_in (List.mem_of_getElem? (i := 245) (by decide +kernel)) rfl
def twi (x : Int32) : Nat := if x = 0 then 3 else if x = 1 then 4 else if x = 2 then 5 else if x = 3 then 6 else if x = 4 then 7 else 8
theorem twi_lt (x : Int32) : twi x < 10 := by
  unfold twi
  by_cases c0 : x = 0 <;> by_cases c1 : x = 1 <;> by_cases c2 : x = 2 <;> by_cases c3 : x = 3 <;> by_cases c4 : x = 4 <;> simp only [c0, c1, c2, c3, c4, if_true, if_false] <;> decide
theorem c_tw (x : Int32) (A : Mem) : Ct yX7_tableWord cX7_tableWord 1 (some (.object "java/lang/String")) 0 [.int x] A (RR (1000000 + twi x) A) := by
  refine ct_of (by decide) (Nat.le_of_ble_eq_true rfl) ?_
  show Ev cX7_tableWord 1 RX7 (some (.object "java/lang/String")) 0 none 0 [(0, .int x)] [] A _
  unfold twi
  refine ev_iload_n 0 dX7_tableWord_0 rfl rfl ?_
  by_cases c0 : x = 0
  · rw [if_pos c0]
    refine ev_tin 0 (off := 35) (tgt := 36) dX7_tableWord_1 c0 (by decide) (by decide) (by decide) (by decide) ?_
    refine ev_ldcS 3 dX7_tableWord_36 (by decide) rfl ?_
    exact ev_aret dX7_tableWord_38 rfl ⟨rfl, rfl⟩
  rw [if_neg c0]
  by_cases c1 : x = 1
  · rw [if_pos c1]
    refine ev_tin 1 (off := 38) (tgt := 39) dX7_tableWord_1 c1 (by decide) (by decide) (by decide) (by decide) ?_
    refine ev_ldcS 4 dX7_tableWord_39 (by decide) rfl ?_
    exact ev_aret dX7_tableWord_41 rfl ⟨rfl, rfl⟩
  rw [if_neg c1]
  by_cases c2 : x = 2
  · rw [if_pos c2]
    refine ev_tin 2 (off := 41) (tgt := 42) dX7_tableWord_1 c2 (by decide) (by decide) (by decide) (by decide) ?_
    refine ev_ldcS 5 dX7_tableWord_42 (by decide) rfl ?_
    exact ev_aret dX7_tableWord_44 rfl ⟨rfl, rfl⟩
  rw [if_neg c2]
  by_cases c3 : x = 3
  · rw [if_pos c3]
    refine ev_tin 3 (off := 44) (tgt := 45) dX7_tableWord_1 c3 (by decide) (by decide) (by decide) (by decide) ?_
    refine ev_ldcS 6 dX7_tableWord_45 (by decide) rfl ?_
    exact ev_aret dX7_tableWord_47 rfl ⟨rfl, rfl⟩
  rw [if_neg c3]
  by_cases c4 : x = 4
  · rw [if_pos c4]
    refine ev_tin 4 (off := 47) (tgt := 48) dX7_tableWord_1 c4 (by decide) (by decide) (by decide) (by decide) ?_
    refine ev_ldcS 7 dX7_tableWord_48 (by decide) rfl ?_
    exact ev_aret dX7_tableWord_50 rfl ⟨rfl, rfl⟩
  rw [if_neg c4]
  refine ev_tout 5 (tgt := 51) dX7_tableWord_1 (lt_s (lt_s (lt_s (lt_s (lt_s (fun j hj => absurd hj (Nat.not_lt_zero j)) c0) c1) c2) c3) c4) (by decide) (by decide) ?_
  refine ev_ldcS 8 dX7_tableWord_51 (by decide) rfl ?_
  exact ev_aret dX7_tableWord_53 rfl ⟨rfl, rfl⟩
