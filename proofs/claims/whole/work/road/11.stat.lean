def ush (x y : Int32) : Int32 := (x.toUInt32 >>> (y.toUInt32 &&& Int32.toUInt32 31)).toInt32
section STAT
variable {cc : ByteArray} {nL : Nat} {own : String} {rty : Option FieldType} {d : Nat} {scr : Option (Nat × (Nat → Int32))} {pc : Nat} {ls : List (Nat × Value)} {st : List Value} {A : Mem} {Q : Option Value → Mem → Prop}
theorem ev_tin (j : Int32) {dflt lo hi : Int} {offs : Array Int} {len : Nat} {x : Int32} {off : Int} {tgt : Nat} (hd : decode cc pc = .ok (.tableswitch dflt lo hi offs, len)) (hx : x = j) (h1 : ¬ j.toInt < lo) (h2 : ¬ hi < j.toInt) (ho : offs[(j.toInt - lo).toNat]? = some off) (ht : (pc : Int) + off = (tgt : Int)) (k : Ev cc nL own rty d scr tgt ls st A Q) : Ev cc nL own rty d scr pc ls (.int x :: st) A Q := by
  subst hx
  exact ev_tableIn hd h1 h2 ho ht k
theorem ev_tout (N : Nat) {dflt hi : Int} {offs : Array Int} {len : Nat} {x : Int32} {tgt : Nat} (hd : decode cc pc = .ok (.tableswitch dflt 0 hi offs, len)) (h : ∀ j, j < N → ¬ x = nI j) (hh : hi = (N : Int) - 1) (ht : (pc : Int) + dflt = (tgt : Int)) (k : Ev cc nL own rty d scr tgt ls st A Q) : Ev cc nL own rty d scr pc ls (.int x :: st) A Q := by
  refine ev_tableOut hd ?_ ht k
  by_cases hx : x < 0
  · left
    have := Int32.lt_iff_toInt_lt.mp hx
    simpa using this
  · right
    obtain ⟨j, hj, rfl⟩ := nI_of hx
    rw [nI_toInt hj, hh]
    rcases Nat.lt_or_ge j N with q | q
    · exact absurd rfl (h j q)
    · omega
end STAT
theorem sl_0_0 : ∀ k, k < NT → kd k = 0 → 0 < ln k := by decide +kernel
theorem sr_0_0 : ∀ k, k < NT → kd k = 0 → rt k 0 = some (rf k 0) := by decide +kernel
theorem sa_0_0 : ∀ k, k < NT → kd k = 0 → rf k 0 < NT ∧ kd (rf k 0) = 11 ∧ ln (rf k 0) = 8 := by decide +kernel
theorem sl_0_1 : ∀ k, k < NT → kd k = 0 → 1 < ln k := by decide +kernel
theorem sr_0_1 : ∀ k, k < NT → kd k = 0 → rt k 1 = some (rf k 1) := by decide +kernel
theorem sa_0_1 : ∀ k, k < NT → kd k = 0 → rf k 1 < NT ∧ kd (rf k 1) = 11 ∧ ln (rf k 1) = 8 := by decide +kernel
theorem sl_0_2 : ∀ k, k < NT → kd k = 0 → 2 < ln k := by decide +kernel
theorem sr_0_2 : ∀ k, k < NT → kd k = 0 → rt k 2 = some (rf k 2) := by decide +kernel
theorem sa_0_2 : ∀ k, k < NT → kd k = 0 → rf k 2 < NT ∧ kd (rf k 2) = 11 ∧ ln (rf k 2) = 8 := by decide +kernel
theorem sl_0_3 : ∀ k, k < NT → kd k = 0 → 3 < ln k := by decide +kernel
theorem sn_0_3 : ∀ k, k < NT → kd k = 0 → rt k 3 = none := by decide +kernel
theorem sl_0_4 : ∀ k, k < NT → kd k = 0 → 4 < ln k := by decide +kernel
theorem sn_0_4 : ∀ k, k < NT → kd k = 0 → rt k 4 = none := by decide +kernel
theorem sl_3_0 : ∀ k, k < NT → kd k = 3 → 0 < ln k := by decide +kernel
theorem sr_3_0 : ∀ k, k < NT → kd k = 3 → rt k 0 = some (rf k 0) := by decide +kernel
theorem sa_3_0 : ∀ k, k < NT → kd k = 3 → rf k 0 < NT ∧ kd (rf k 0) = 11 ∧ ln (rf k 0) = 6 := by decide +kernel
theorem sl_3_1 : ∀ k, k < NT → kd k = 3 → 1 < ln k := by decide +kernel
theorem sr_3_1 : ∀ k, k < NT → kd k = 3 → rt k 1 = some (rf k 1) := by decide +kernel
theorem sa_3_1 : ∀ k, k < NT → kd k = 3 → rf k 1 < NT ∧ kd (rf k 1) = 11 ∧ ln (rf k 1) = 6 := by decide +kernel
theorem sl_3_2 : ∀ k, k < NT → kd k = 3 → 2 < ln k := by decide +kernel
theorem sr_3_2 : ∀ k, k < NT → kd k = 3 → rt k 2 = some (rf k 2) := by decide +kernel
theorem sa_3_2 : ∀ k, k < NT → kd k = 3 → rf k 2 < NT ∧ kd (rf k 2) = 11 ∧ ln (rf k 2) = 6 := by decide +kernel
theorem sl_3_3 : ∀ k, k < NT → kd k = 3 → 3 < ln k := by decide +kernel
theorem sr_3_3 : ∀ k, k < NT → kd k = 3 → rt k 3 = some (rf k 3) := by decide +kernel
theorem sa_3_3 : ∀ k, k < NT → kd k = 3 → rf k 3 < NT ∧ kd (rf k 3) = 11 ∧ ln (rf k 3) = 6 := by decide +kernel
theorem sl_3_4 : ∀ k, k < NT → kd k = 3 → 4 < ln k := by decide +kernel
theorem sn_3_4 : ∀ k, k < NT → kd k = 3 → rt k 4 = none := by decide +kernel
theorem el_25 : ∀ j, j < 6 → rt 25 j = some (rf 25 j) ∧ rf 25 j < NT ∧ kd (rf 25 j) = 0 := by decide +kernel
theorem el_50 : ∀ j, j < 2 → rt 50 j = some (rf 50 j) ∧ rf 50 j < NT ∧ kd (rf 50 j) = 3 := by decide +kernel
theorem mw_max : Cond.static Lib.Math.max.name ∈ lw_good ∧ Cond.initialized "java/lang/Math" ∈ lw_good ∧ Cond.code Lib.Math.max.name Lib.Math.max.code 2 (some .int) ∈ lw_good := ⟨good_in (List.mem_of_getElem? (i := 731) (by decide +kernel)) rfl, good_in (List.mem_of_getElem? (i := 95) (by decide +kernel)) rfl, good_in (List.mem_of_getElem? (i := 732) (by decide +kernel)) rfl⟩
theorem ev_mmax {cc : ByteArray} {nL : Nat} {own : String} {rty : Option FieldType} {d : Nat} {scr : Option (Nat × (Nat → Int32))} {pc : Nat} {ls : List (Nat × Value)} {st : List Value} {A : Mem} {Q : Option Value → Mem → Prop} {idx : Nat} {x y : Int32} (hd : decode cc pc = .ok (.invokestatic idx, 3)) (hlk : Cond.methodLink own idx Lib.Math.max.name ∈ lw_good) (hdd : 1 ≤ d) (hrm : (st.map Value.category).sum ≤ 8) (kk : Ev cc nL own rty d scr (pc + 3) ls (.int (if x < y then y else x) :: st) A Q) : Ev cc nL own rty d scr pc ls (.int y :: .int x :: st) A Q := by
  intro p l e R s m args below meth c D cy ad B cells slots Qw H locs lsC X hP hS hl hQ
  obtain ⟨hx, hb, hml, hown, hts, hG, hA, hfr, hlo, hce, hsl, -⟩ := id X
  have hrm2 : ((st.map (cv ad)).map fun v => v.category).sum ≤ 8 := by
    have e : (st.map (cv ad)).map (fun v => v.category) = st.map Value.category := by rw [List.map_map]; apply List.map_congr_left; intro v _; exact cv_cat ad v
    rw [e]; exact hrm
  exact va_mmax hx hb (by rw [hml, hl.1]) hown (hts _ hlk) (hts _ mw_max.1) (hts _ mw_max.2.1) (hts _ mw_max.2.2) (by omega) (by omega) hce hsl hd (kk p l e R s m args below meth c D cy ad B cells slots Qw H locs lsC X hP hS hl hQ)
theorem mw_min : Cond.static Lib.Math.min.name ∈ lw_good ∧ Cond.initialized "java/lang/Math" ∈ lw_good ∧ Cond.code Lib.Math.min.name Lib.Math.min.code 2 (some .int) ∈ lw_good := ⟨good_in (List.mem_of_getElem? (i := 673) (by decide +kernel)) rfl, good_in (List.mem_of_getElem? (i := 95) (by decide +kernel)) rfl, good_in (List.mem_of_getElem? (i := 674) (by decide +kernel)) rfl⟩
theorem ev_mmin {cc : ByteArray} {nL : Nat} {own : String} {rty : Option FieldType} {d : Nat} {scr : Option (Nat × (Nat → Int32))} {pc : Nat} {ls : List (Nat × Value)} {st : List Value} {A : Mem} {Q : Option Value → Mem → Prop} {idx : Nat} {x y : Int32} (hd : decode cc pc = .ok (.invokestatic idx, 3)) (hlk : Cond.methodLink own idx Lib.Math.min.name ∈ lw_good) (hdd : 1 ≤ d) (hrm : (st.map Value.category).sum ≤ 8) (kk : Ev cc nL own rty d scr (pc + 3) ls (.int (if y < x then y else x) :: st) A Q) : Ev cc nL own rty d scr pc ls (.int y :: .int x :: st) A Q := by
  intro p l e R s m args below meth c D cy ad B cells slots Qw H locs lsC X hP hS hl hQ
  obtain ⟨hx, hb, hml, hown, hts, hG, hA, hfr, hlo, hce, hsl, -⟩ := id X
  have hrm2 : ((st.map (cv ad)).map fun v => v.category).sum ≤ 8 := by
    have e : (st.map (cv ad)).map (fun v => v.category) = st.map Value.category := by rw [List.map_map]; apply List.map_congr_left; intro v _; exact cv_cat ad v
    rw [e]; exact hrm
  exact va_mmin hx hb (by rw [hml, hl.1]) hown (hts _ hlk) (hts _ mw_min.1) (hts _ mw_min.2.1) (hts _ mw_min.2.2) (by omega) (by omega) hce hsl hd (kk p l e R s m args below meth c D cy ad B cells slots Qw H locs lsC X hP hS hl hQ)
theorem lm_X4_55 : Cond.methodLink RX4 55 Lib.Math.max.name ∈ lw_good := good_in (List.mem_of_getElem? (i := 730) (by decide +kernel)) rfl
theorem lm_X4_79 : Cond.methodLink RX4 79 Lib.Math.min.name ∈ lw_good := good_in (List.mem_of_getElem? (i := 736) (by decide +kernel)) rfl
theorem lm_X8_57 : Cond.methodLink RX8 57 Lib.Math.min.name ∈ lw_good := good_in (List.mem_of_getElem? (i := 672) (by decide +kernel)) rfl
theorem lm_X9_265 : Cond.methodLink RX9 265 Lib.Math.max.name ∈ lw_good := good_in (List.mem_of_getElem? (i := 902) (by decide +kernel)) rfl
def bitc1 (x : Int32) : Int32 := (x - ((ush x 1) &&& 1431655765))
def bitc2 (x : Int32) : Int32 := (((bitc1 x) &&& 858993459) + ((ush (bitc1 x) 2) &&& 858993459))
def bitc3 (x : Int32) : Int32 := (((bitc2 x) + (ush (bitc2 x) 4)) &&& 252645135)
def bitc4 (x : Int32) : Int32 := ((bitc3 x) + (ush (bitc3 x) 8))
def bitc5 (x : Int32) : Int32 := ((bitc4 x) + (ush (bitc4 x) 16))
def bitc (x : Int32) : Int32 := ((bitc5 x) &&& 63)
theorem c_bitc (x : Int32) (A : Mem) : Ct yJ6_bitCount_0f7a4 cJ6_bitCount_0f7a4 1 (some .int) 0 [.int x] A (RI (bitc x, A)) := by
  refine ct_of (by decide) (Nat.le_of_ble_eq_true rfl) ?_
  show Ev cJ6_bitCount_0f7a4 1 RJ6 (some .int) 0 none 0 [(0, .int x)] [] A _
  refine ev_iload_n 0 dJ6_bitCount_0f7a4_0 rfl rfl ?_
  refine ev_iload_n 0 dJ6_bitCount_0f7a4_1 rfl rfl ?_
  refine ev_iconst (v := 1) dJ6_bitCount_0f7a4_2 (by decide) ?_
  refine ev_iushr (v := ush x 1) dJ6_bitCount_0f7a4_3 rfl ?_
  refine ev_ldcw dJ6_bitCount_0f7a4_4 kc_J6_265 ?_
  refine ev_iand dJ6_bitCount_0f7a4_7 ?_
  refine ev_isub dJ6_bitCount_0f7a4_8 ?_
  refine ev_istore_n (ls' := [(0, .int (bitc1 x))]) dJ6_bitCount_0f7a4_9 rfl (by decide) rfl ?_
  refine ev_iload_n 0 dJ6_bitCount_0f7a4_10 rfl rfl ?_
  refine ev_ldcw dJ6_bitCount_0f7a4_11 kc_J6_266 ?_
  refine ev_iand dJ6_bitCount_0f7a4_14 ?_
  refine ev_iload_n 0 dJ6_bitCount_0f7a4_15 rfl rfl ?_
  refine ev_iconst (v := 2) dJ6_bitCount_0f7a4_16 (by decide) ?_
  refine ev_iushr (v := ush (bitc1 x) 2) dJ6_bitCount_0f7a4_17 rfl ?_
  refine ev_ldcw dJ6_bitCount_0f7a4_18 kc_J6_266 ?_
  refine ev_iand dJ6_bitCount_0f7a4_21 ?_
  refine ev_iadd dJ6_bitCount_0f7a4_22 ?_
  refine ev_istore_n (ls' := [(0, .int (bitc2 x))]) dJ6_bitCount_0f7a4_23 rfl (by decide) rfl ?_
  refine ev_iload_n 0 dJ6_bitCount_0f7a4_24 rfl rfl ?_
  refine ev_iload_n 0 dJ6_bitCount_0f7a4_25 rfl rfl ?_
  refine ev_iconst (v := 4) dJ6_bitCount_0f7a4_26 (by decide) ?_
  refine ev_iushr (v := ush (bitc2 x) 4) dJ6_bitCount_0f7a4_27 rfl ?_
  refine ev_iadd dJ6_bitCount_0f7a4_28 ?_
  refine ev_ldcw dJ6_bitCount_0f7a4_29 kc_J6_267 ?_
  refine ev_iand dJ6_bitCount_0f7a4_32 ?_
  refine ev_istore_n (ls' := [(0, .int (bitc3 x))]) dJ6_bitCount_0f7a4_33 rfl (by decide) rfl ?_
  refine ev_iload_n 0 dJ6_bitCount_0f7a4_34 rfl rfl ?_
  refine ev_iload_n 0 dJ6_bitCount_0f7a4_35 rfl rfl ?_
  refine ev_bipush (v := 8) dJ6_bitCount_0f7a4_36 (by decide) ?_
  refine ev_iushr (v := ush (bitc3 x) 8) dJ6_bitCount_0f7a4_38 rfl ?_
  refine ev_iadd dJ6_bitCount_0f7a4_39 ?_
  refine ev_istore_n (ls' := [(0, .int (bitc4 x))]) dJ6_bitCount_0f7a4_40 rfl (by decide) rfl ?_
  refine ev_iload_n 0 dJ6_bitCount_0f7a4_41 rfl rfl ?_
  refine ev_iload_n 0 dJ6_bitCount_0f7a4_42 rfl rfl ?_
  refine ev_bipush (v := 16) dJ6_bitCount_0f7a4_43 (by decide) ?_
  refine ev_iushr (v := ush (bitc4 x) 16) dJ6_bitCount_0f7a4_45 rfl ?_
  refine ev_iadd dJ6_bitCount_0f7a4_46 ?_
  refine ev_istore_n (ls' := [(0, .int (bitc5 x))]) dJ6_bitCount_0f7a4_47 rfl (by decide) rfl ?_
  refine ev_iload_n 0 dJ6_bitCount_0f7a4_48 rfl rfl ?_
  refine ev_bipush (v := 63) dJ6_bitCount_0f7a4_49 (by decide) ?_
  refine ev_iand dJ6_bitCount_0f7a4_51 ?_
  exact ev_iret dJ6_bitCount_0f7a4_52 rfl rfl ⟨rfl, rfl⟩
