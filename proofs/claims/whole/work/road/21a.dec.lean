def f_X9_isBelow (n : Nat) (x0 : Int32) (x1 : Int32) (A : Mem) : Option (Int32 × Mem) :=
  if x0 < 0 then
    some ((0 : Int32), A)
  else
    if x1 ≤ x0 then
      some ((0 : Int32), A)
    else
      some ((1 : Int32), A)
set_option maxRecDepth 100000 in
set_option maxHeartbeats 4000000 in
theorem c_X9_isBelow (n : Nat) (x0 : Int32) (x1 : Int32) (A : Mem) (q : Int32 × Mem) (h : f_X9_isBelow n x0 x1 A = some q) : Ct yX9_isBelow cX9_isBelow 2 (some .boolean) 0 [.int x0, .int x1] A (RI q) := by
  unfold f_X9_isBelow at h
  refine ct_of (by decide) (Nat.le_of_ble_eq_true rfl) ?_
  show Ev cX9_isBelow 2 RX9 (some .boolean) 0 none 0 [(0, .int x0), (1, .int x1)] [] A (RI q)
  refine ev_iload_n 0 dX9_isBelow_0 rfl rfl ?_
  refine ev_if_lt (tgt := 13) dX9_isBelow_1 (by decide) (fun c1 => ?_) (fun c1 => ?_)
  · have h := if_t c1 h
    refine ev_iconst (v := 0) dX9_isBelow_13 (by decide) ?_
    cases h
    exact ev_iret dX9_isBelow_14 rfl rfl ⟨rfl, rfl⟩
  · have h := if_f c1 h
    refine ev_iload_n 0 dX9_isBelow_4 rfl rfl ?_
    refine ev_iload_n 1 dX9_isBelow_5 rfl rfl ?_
    refine ev_icmp_ge (tgt := 13) dX9_isBelow_6 (by decide) (fun c2 => ?_) (fun c2 => ?_)
    · have h := if_t c2 h
      refine ev_iconst (v := 0) dX9_isBelow_13 (by decide) ?_
      cases h
      exact ev_iret dX9_isBelow_14 rfl rfl ⟨rfl, rfl⟩
    · have h := if_f c2 h
      refine ev_iconst (v := 1) dX9_isBelow_9 (by decide) ?_
      refine ev_goto (tgt := 14) dX9_isBelow_10 (by decide) ?_
      cases h
      exact ev_iret dX9_isBelow_14 rfl rfl ⟨rfl, rfl⟩
def f_X9_view (n : Nat) (x1 : Int32) (x2 : Int32) (A : Mem) : Option (Int32 × Mem) :=
  (f_X9_isBelow n x1 ((8 : Int32)) A).bind fun q1 =>
  if q1.1 = 0 then
    some ((-2 : Int32), q1.2)
  else
    (f_X9_isBelow n x2 ((256 : Int32)) q1.2).bind fun q4 =>
    if q4.1 = 0 then
      some ((-3 : Int32), q4.2)
    else
      if ¬ x1 < 0 ∧ (x1).toNatClampNeg < 8 then
        some (q4.2 2 (x1).toNatClampNeg, st2 q4.2 2 (x1).toNatClampNeg x2)
      else
        none
set_option maxRecDepth 100000 in
set_option maxHeartbeats 4000000 in
theorem c_X9_view (n : Nat) (x1 : Int32) (x2 : Int32) (A : Mem) (q : Int32 × Mem) (h : f_X9_view n x1 x2 A = some q) : Ct yX9_view cX9_view 4 (some .int) 1 [.ref 0, .int x1, .int x2] A (RI q) := by
  unfold f_X9_view at h
  refine ct_of (by decide) (Nat.le_of_ble_eq_true rfl) ?_
  show Ev cX9_view 4 RX9 (some .int) 1 none 0 [(0, .ref 0), (1, .int x1), (2, .int x2)] [] A (RI q)
  refine ev_iload_n 1 dX9_view_0 rfl rfl ?_
  refine ev_bipush (v := 8) dX9_view_1 (by decide) ?_
  obtain ⟨q1, e2, h⟩ := bd_c h
  refine ev_callSi (av := [.int x1, .int ((8 : Int32))]) dX9_view_3 (c_X9_isBelow n x1 ((8 : Int32))  A q1 e2) mk_X9_isBelow lk_X9_93 is_X9_isBelow rfl (by decide) (by decide) (Nat.le_of_ble_eq_true rfl) rfl ?_
  refine ev_if_ne (tgt := 12) dX9_view_6 (by decide) (fun c3 => ?_) (fun c3 => ?_)
  · have h := if_f c3 h
    refine ev_iload_n 2 dX9_view_12 rfl rfl ?_
    refine ev_sipush (v := 256) dX9_view_13 (by decide) ?_
    obtain ⟨q4, e5, h⟩ := bd_c h
    refine ev_callSi (av := [.int x2, .int ((256 : Int32))]) dX9_view_16 (c_X9_isBelow n x2 ((256 : Int32))  q1.2 q4 e5) mk_X9_isBelow lk_X9_93 is_X9_isBelow rfl (by decide) (by decide) (Nat.le_of_ble_eq_true rfl) rfl ?_
    refine ev_if_ne (tgt := 25) dX9_view_19 (by decide) (fun c6 => ?_) (fun c6 => ?_)
    · have h := if_f c6 h
      refine ev_aload_n 0 dX9_view_25 rfl rfl ?_
      refine ev_getR (r := 1) dX9_view_26 fl_X9_37 (by decide) rfl (by decide) (by decide) rfl ?_
      refine ev_getR (r := 2) dX9_view_29 fl_X9_97 (by decide) rfl (by decide) (by decide) rfl ?_
      refine ev_iload_n 1 dX9_view_32 rfl rfl ?_
      obtain ⟨c7, h⟩ := if_c h
      refine ev_ialdc 8 dX9_view_33 (by decide) rfl rfl (by decide) c7 ?_
      refine ev_istore_n (ls' := [(3, .int (q4.2 2 (x1).toNatClampNeg)), (0, .ref 0), (1, .int x1), (2, .int x2)]) dX9_view_34 rfl (by decide) rfl ?_
      refine ev_aload_n 1 dX9_view_35 rfl rfl ?_
      refine ev_getR (r := 1) dX9_view_36 fl_X9_37 (by decide) rfl (by decide) (by decide) rfl ?_
      refine ev_getR (r := 2) dX9_view_39 fl_X9_97 (by decide) rfl (by decide) (by decide) rfl ?_
      refine ev_iload_n 2 dX9_view_42 rfl rfl ?_
      refine ev_iload_n 3 dX9_view_43 rfl rfl ?_
      refine ev_iastc 8 dX9_view_44 (by decide) rfl rfl (by decide) c7 ?_
      refine ev_iload_n 0 dX9_view_45 rfl rfl ?_
      cases h
      exact ev_iret dX9_view_46 rfl rfl ⟨rfl, rfl⟩
    · have h := if_t c6 h
      refine ev_bipush (v := -3) dX9_view_22 (by decide) ?_
      cases h
      exact ev_iret dX9_view_24 rfl rfl ⟨rfl, rfl⟩
  · have h := if_t c3 h
    refine ev_bipush (v := -2) dX9_view_9 (by decide) ?_
    cases h
    exact ev_iret dX9_view_11 rfl rfl ⟨rfl, rfl⟩
def f_X9_isSpan (n : Nat) (x0 : Int32) (x1 : Int32) (A : Mem) : Option (Int32 × Mem) :=
  (f_X9_isBelow n x0 ((61 : Int32)) A).bind fun q1 =>
  if q1.1 = 0 then
    some ((0 : Int32), q1.2)
  else
    (f_X9_isBelow n x1 ((61 : Int32)) q1.2).bind fun q4 =>
    if q4.1 = 0 then
      some ((0 : Int32), q4.2)
    else
      if x1 < x0 then
        some ((0 : Int32), q4.2)
      else
        some ((1 : Int32), q4.2)
set_option maxRecDepth 100000 in
set_option maxHeartbeats 4000000 in
theorem c_X9_isSpan (n : Nat) (x0 : Int32) (x1 : Int32) (A : Mem) (q : Int32 × Mem) (h : f_X9_isSpan n x0 x1 A = some q) : Ct yX9_isSpan cX9_isSpan 2 (some .boolean) 1 [.int x0, .int x1] A (RI q) := by
  unfold f_X9_isSpan at h
  refine ct_of (by decide) (Nat.le_of_ble_eq_true rfl) ?_
  show Ev cX9_isSpan 2 RX9 (some .boolean) 1 none 0 [(0, .int x0), (1, .int x1)] [] A (RI q)
  refine ev_iload_n 0 dX9_isSpan_0 rfl rfl ?_
  refine ev_bipush (v := 61) dX9_isSpan_1 (by decide) ?_
  obtain ⟨q1, e2, h⟩ := bd_c h
  refine ev_callSi (av := [.int x0, .int ((61 : Int32))]) dX9_isSpan_3 (c_X9_isBelow n x0 ((61 : Int32))  A q1 e2) mk_X9_isBelow lk_X9_93 is_X9_isBelow rfl (by decide) (by decide) (Nat.le_of_ble_eq_true rfl) rfl ?_
  refine ev_if_eq (tgt := 27) dX9_isSpan_6 (by decide) (fun c3 => ?_) (fun c3 => ?_)
  · have h := if_t c3 h
    refine ev_iconst (v := 0) dX9_isSpan_27 (by decide) ?_
    cases h
    exact ev_iret dX9_isSpan_28 rfl rfl ⟨rfl, rfl⟩
  · have h := if_f c3 h
    refine ev_iload_n 1 dX9_isSpan_9 rfl rfl ?_
    refine ev_bipush (v := 61) dX9_isSpan_10 (by decide) ?_
    obtain ⟨q4, e5, h⟩ := bd_c h
    refine ev_callSi (av := [.int x1, .int ((61 : Int32))]) dX9_isSpan_12 (c_X9_isBelow n x1 ((61 : Int32))  q1.2 q4 e5) mk_X9_isBelow lk_X9_93 is_X9_isBelow rfl (by decide) (by decide) (Nat.le_of_ble_eq_true rfl) rfl ?_
    refine ev_if_eq (tgt := 27) dX9_isSpan_15 (by decide) (fun c6 => ?_) (fun c6 => ?_)
    · have h := if_t c6 h
      refine ev_iconst (v := 0) dX9_isSpan_27 (by decide) ?_
      cases h
      exact ev_iret dX9_isSpan_28 rfl rfl ⟨rfl, rfl⟩
    · have h := if_f c6 h
      refine ev_iload_n 0 dX9_isSpan_18 rfl rfl ?_
      refine ev_iload_n 1 dX9_isSpan_19 rfl rfl ?_
      refine ev_icmp_gt (tgt := 27) dX9_isSpan_20 (by decide) (fun c7 => ?_) (fun c7 => ?_)
      · have h := if_t c7 h
        refine ev_iconst (v := 0) dX9_isSpan_27 (by decide) ?_
        cases h
        exact ev_iret dX9_isSpan_28 rfl rfl ⟨rfl, rfl⟩
      · have h := if_f c7 h
        refine ev_iconst (v := 1) dX9_isSpan_23 (by decide) ?_
        refine ev_goto (tgt := 28) dX9_isSpan_24 (by decide) ?_
        cases h
        exact ev_iret dX9_isSpan_28 rfl rfl ⟨rfl, rfl⟩
def f_X8_addFact (n : Nat) (x1 : Int32) (x2 : Int32) (x3 : Int32) (x4 : Int32) (x5 : Int32) (x6 : Int32) (A : Mem) : Option (Int32 × Mem) :=
  if (A 1 7) < ((16 : Int32)) then
    if ¬ (A 1 7) < 0 ∧ (A 1 7).toNatClampNeg < 16 then
      if ¬ ((st2 A 3 (A 1 7).toNatClampNeg x1) 1 7) < 0 ∧ ((st2 A 3 (A 1 7).toNatClampNeg x1) 1 7).toNatClampNeg < 16 then
        if ¬ ((st2 (st2 A 3 (A 1 7).toNatClampNeg x1) 4 ((st2 A 3 (A 1 7).toNatClampNeg x1) 1 7).toNatClampNeg x2) 1 7) < 0 ∧ ((st2 (st2 A 3 (A 1 7).toNatClampNeg x1) 4 ((st2 A 3 (A 1 7).toNatClampNeg x1) 1 7).toNatClampNeg x2) 1 7).toNatClampNeg < 16 then
          if ¬ ((st2 (st2 (st2 A 3 (A 1 7).toNatClampNeg x1) 4 ((st2 A 3 (A 1 7).toNatClampNeg x1) 1 7).toNatClampNeg x2) 5 ((st2 (st2 A 3 (A 1 7).toNatClampNeg x1) 4 ((st2 A 3 (A 1 7).toNatClampNeg x1) 1 7).toNatClampNeg x2) 1 7).toNatClampNeg x3) 1 7) < 0 ∧ ((st2 (st2 (st2 A 3 (A 1 7).toNatClampNeg x1) 4 ((st2 A 3 (A 1 7).toNatClampNeg x1) 1 7).toNatClampNeg x2) 5 ((st2 (st2 A 3 (A 1 7).toNatClampNeg x1) 4 ((st2 A 3 (A 1 7).toNatClampNeg x1) 1 7).toNatClampNeg x2) 1 7).toNatClampNeg x3) 1 7).toNatClampNeg < 16 then
            if ¬ ((st2 (st2 (st2 (st2 A 3 (A 1 7).toNatClampNeg x1) 4 ((st2 A 3 (A 1 7).toNatClampNeg x1) 1 7).toNatClampNeg x2) 5 ((st2 (st2 A 3 (A 1 7).toNatClampNeg x1) 4 ((st2 A 3 (A 1 7).toNatClampNeg x1) 1 7).toNatClampNeg x2) 1 7).toNatClampNeg x3) 6 ((st2 (st2 (st2 A 3 (A 1 7).toNatClampNeg x1) 4 ((st2 A 3 (A 1 7).toNatClampNeg x1) 1 7).toNatClampNeg x2) 5 ((st2 (st2 A 3 (A 1 7).toNatClampNeg x1) 4 ((st2 A 3 (A 1 7).toNatClampNeg x1) 1 7).toNatClampNeg x2) 1 7).toNatClampNeg x3) 1 7).toNatClampNeg x4) 1 7) < 0 ∧ ((st2 (st2 (st2 (st2 A 3 (A 1 7).toNatClampNeg x1) 4 ((st2 A 3 (A 1 7).toNatClampNeg x1) 1 7).toNatClampNeg x2) 5 ((st2 (st2 A 3 (A 1 7).toNatClampNeg x1) 4 ((st2 A 3 (A 1 7).toNatClampNeg x1) 1 7).toNatClampNeg x2) 1 7).toNatClampNeg x3) 6 ((st2 (st2 (st2 A 3 (A 1 7).toNatClampNeg x1) 4 ((st2 A 3 (A 1 7).toNatClampNeg x1) 1 7).toNatClampNeg x2) 5 ((st2 (st2 A 3 (A 1 7).toNatClampNeg x1) 4 ((st2 A 3 (A 1 7).toNatClampNeg x1) 1 7).toNatClampNeg x2) 1 7).toNatClampNeg x3) 1 7).toNatClampNeg x4) 1 7).toNatClampNeg < 16 then
              if ¬ ((st2 (st2 (st2 (st2 (st2 A 3 (A 1 7).toNatClampNeg x1) 4 ((st2 A 3 (A 1 7).toNatClampNeg x1) 1 7).toNatClampNeg x2) 5 ((st2 (st2 A 3 (A 1 7).toNatClampNeg x1) 4 ((st2 A 3 (A 1 7).toNatClampNeg x1) 1 7).toNatClampNeg x2) 1 7).toNatClampNeg x3) 6 ((st2 (st2 (st2 A 3 (A 1 7).toNatClampNeg x1) 4 ((st2 A 3 (A 1 7).toNatClampNeg x1) 1 7).toNatClampNeg x2) 5 ((st2 (st2 A 3 (A 1 7).toNatClampNeg x1) 4 ((st2 A 3 (A 1 7).toNatClampNeg x1) 1 7).toNatClampNeg x2) 1 7).toNatClampNeg x3) 1 7).toNatClampNeg x4) 7 ((st2 (st2 (st2 (st2 A 3 (A 1 7).toNatClampNeg x1) 4 ((st2 A 3 (A 1 7).toNatClampNeg x1) 1 7).toNatClampNeg x2) 5 ((st2 (st2 A 3 (A 1 7).toNatClampNeg x1) 4 ((st2 A 3 (A 1 7).toNatClampNeg x1) 1 7).toNatClampNeg x2) 1 7).toNatClampNeg x3) 6 ((st2 (st2 (st2 A 3 (A 1 7).toNatClampNeg x1) 4 ((st2 A 3 (A 1 7).toNatClampNeg x1) 1 7).toNatClampNeg x2) 5 ((st2 (st2 A 3 (A 1 7).toNatClampNeg x1) 4 ((st2 A 3 (A 1 7).toNatClampNeg x1) 1 7).toNatClampNeg x2) 1 7).toNatClampNeg x3) 1 7).toNatClampNeg x4) 1 7).toNatClampNeg x5) 1 7) < 0 ∧ ((st2 (st2 (st2 (st2 (st2 A 3 (A 1 7).toNatClampNeg x1) 4 ((st2 A 3 (A 1 7).toNatClampNeg x1) 1 7).toNatClampNeg x2) 5 ((st2 (st2 A 3 (A 1 7).toNatClampNeg x1) 4 ((st2 A 3 (A 1 7).toNatClampNeg x1) 1 7).toNatClampNeg x2) 1 7).toNatClampNeg x3) 6 ((st2 (st2 (st2 A 3 (A 1 7).toNatClampNeg x1) 4 ((st2 A 3 (A 1 7).toNatClampNeg x1) 1 7).toNatClampNeg x2) 5 ((st2 (st2 A 3 (A 1 7).toNatClampNeg x1) 4 ((st2 A 3 (A 1 7).toNatClampNeg x1) 1 7).toNatClampNeg x2) 1 7).toNatClampNeg x3) 1 7).toNatClampNeg x4) 7 ((st2 (st2 (st2 (st2 A 3 (A 1 7).toNatClampNeg x1) 4 ((st2 A 3 (A 1 7).toNatClampNeg x1) 1 7).toNatClampNeg x2) 5 ((st2 (st2 A 3 (A 1 7).toNatClampNeg x1) 4 ((st2 A 3 (A 1 7).toNatClampNeg x1) 1 7).toNatClampNeg x2) 1 7).toNatClampNeg x3) 6 ((st2 (st2 (st2 A 3 (A 1 7).toNatClampNeg x1) 4 ((st2 A 3 (A 1 7).toNatClampNeg x1) 1 7).toNatClampNeg x2) 5 ((st2 (st2 A 3 (A 1 7).toNatClampNeg x1) 4 ((st2 A 3 (A 1 7).toNatClampNeg x1) 1 7).toNatClampNeg x2) 1 7).toNatClampNeg x3) 1 7).toNatClampNeg x4) 1 7).toNatClampNeg x5) 1 7).toNatClampNeg < 16 then
                some (((st2 (st2 (st2 (st2 (st2 (st2 (st2 A 3 (A 1 7).toNatClampNeg x1) 4 ((st2 A 3 (A 1 7).toNatClampNeg x1) 1 7).toNatClampNeg x2) 5 ((st2 (st2 A 3 (A 1 7).toNatClampNeg x1) 4 ((st2 A 3 (A 1 7).toNatClampNeg x1) 1 7).toNatClampNeg x2) 1 7).toNatClampNeg x3) 6 ((st2 (st2 (st2 A 3 (A 1 7).toNatClampNeg x1) 4 ((st2 A 3 (A 1 7).toNatClampNeg x1) 1 7).toNatClampNeg x2) 5 ((st2 (st2 A 3 (A 1 7).toNatClampNeg x1) 4 ((st2 A 3 (A 1 7).toNatClampNeg x1) 1 7).toNatClampNeg x2) 1 7).toNatClampNeg x3) 1 7).toNatClampNeg x4) 7 ((st2 (st2 (st2 (st2 A 3 (A 1 7).toNatClampNeg x1) 4 ((st2 A 3 (A 1 7).toNatClampNeg x1) 1 7).toNatClampNeg x2) 5 ((st2 (st2 A 3 (A 1 7).toNatClampNeg x1) 4 ((st2 A 3 (A 1 7).toNatClampNeg x1) 1 7).toNatClampNeg x2) 1 7).toNatClampNeg x3) 6 ((st2 (st2 (st2 A 3 (A 1 7).toNatClampNeg x1) 4 ((st2 A 3 (A 1 7).toNatClampNeg x1) 1 7).toNatClampNeg x2) 5 ((st2 (st2 A 3 (A 1 7).toNatClampNeg x1) 4 ((st2 A 3 (A 1 7).toNatClampNeg x1) 1 7).toNatClampNeg x2) 1 7).toNatClampNeg x3) 1 7).toNatClampNeg x4) 1 7).toNatClampNeg x5) 8 ((st2 (st2 (st2 (st2 (st2 A 3 (A 1 7).toNatClampNeg x1) 4 ((st2 A 3 (A 1 7).toNatClampNeg x1) 1 7).toNatClampNeg x2) 5 ((st2 (st2 A 3 (A 1 7).toNatClampNeg x1) 4 ((st2 A 3 (A 1 7).toNatClampNeg x1) 1 7).toNatClampNeg x2) 1 7).toNatClampNeg x3) 6 ((st2 (st2 (st2 A 3 (A 1 7).toNatClampNeg x1) 4 ((st2 A 3 (A 1 7).toNatClampNeg x1) 1 7).toNatClampNeg x2) 5 ((st2 (st2 A 3 (A 1 7).toNatClampNeg x1) 4 ((st2 A 3 (A 1 7).toNatClampNeg x1) 1 7).toNatClampNeg x2) 1 7).toNatClampNeg x3) 1 7).toNatClampNeg x4) 7 ((st2 (st2 (st2 (st2 A 3 (A 1 7).toNatClampNeg x1) 4 ((st2 A 3 (A 1 7).toNatClampNeg x1) 1 7).toNatClampNeg x2) 5 ((st2 (st2 A 3 (A 1 7).toNatClampNeg x1) 4 ((st2 A 3 (A 1 7).toNatClampNeg x1) 1 7).toNatClampNeg x2) 1 7).toNatClampNeg x3) 6 ((st2 (st2 (st2 A 3 (A 1 7).toNatClampNeg x1) 4 ((st2 A 3 (A 1 7).toNatClampNeg x1) 1 7).toNatClampNeg x2) 5 ((st2 (st2 A 3 (A 1 7).toNatClampNeg x1) 4 ((st2 A 3 (A 1 7).toNatClampNeg x1) 1 7).toNatClampNeg x2) 1 7).toNatClampNeg x3) 1 7).toNatClampNeg x4) 1 7).toNatClampNeg x5) 1 7).toNatClampNeg (vp_nar .boolean x6)) 1 7 (((st2 (st2 (st2 (st2 (st2 (st2 A 3 (A 1 7).toNatClampNeg x1) 4 ((st2 A 3 (A 1 7).toNatClampNeg x1) 1 7).toNatClampNeg x2) 5 ((st2 (st2 A 3 (A 1 7).toNatClampNeg x1) 4 ((st2 A 3 (A 1 7).toNatClampNeg x1) 1 7).toNatClampNeg x2) 1 7).toNatClampNeg x3) 6 ((st2 (st2 (st2 A 3 (A 1 7).toNatClampNeg x1) 4 ((st2 A 3 (A 1 7).toNatClampNeg x1) 1 7).toNatClampNeg x2) 5 ((st2 (st2 A 3 (A 1 7).toNatClampNeg x1) 4 ((st2 A 3 (A 1 7).toNatClampNeg x1) 1 7).toNatClampNeg x2) 1 7).toNatClampNeg x3) 1 7).toNatClampNeg x4) 7 ((st2 (st2 (st2 (st2 A 3 (A 1 7).toNatClampNeg x1) 4 ((st2 A 3 (A 1 7).toNatClampNeg x1) 1 7).toNatClampNeg x2) 5 ((st2 (st2 A 3 (A 1 7).toNatClampNeg x1) 4 ((st2 A 3 (A 1 7).toNatClampNeg x1) 1 7).toNatClampNeg x2) 1 7).toNatClampNeg x3) 6 ((st2 (st2 (st2 A 3 (A 1 7).toNatClampNeg x1) 4 ((st2 A 3 (A 1 7).toNatClampNeg x1) 1 7).toNatClampNeg x2) 5 ((st2 (st2 A 3 (A 1 7).toNatClampNeg x1) 4 ((st2 A 3 (A 1 7).toNatClampNeg x1) 1 7).toNatClampNeg x2) 1 7).toNatClampNeg x3) 1 7).toNatClampNeg x4) 1 7).toNatClampNeg x5) 8 ((st2 (st2 (st2 (st2 (st2 A 3 (A 1 7).toNatClampNeg x1) 4 ((st2 A 3 (A 1 7).toNatClampNeg x1) 1 7).toNatClampNeg x2) 5 ((st2 (st2 A 3 (A 1 7).toNatClampNeg x1) 4 ((st2 A 3 (A 1 7).toNatClampNeg x1) 1 7).toNatClampNeg x2) 1 7).toNatClampNeg x3) 6 ((st2 (st2 (st2 A 3 (A 1 7).toNatClampNeg x1) 4 ((st2 A 3 (A 1 7).toNatClampNeg x1) 1 7).toNatClampNeg x2) 5 ((st2 (st2 A 3 (A 1 7).toNatClampNeg x1) 4 ((st2 A 3 (A 1 7).toNatClampNeg x1) 1 7).toNatClampNeg x2) 1 7).toNatClampNeg x3) 1 7).toNatClampNeg x4) 7 ((st2 (st2 (st2 (st2 A 3 (A 1 7).toNatClampNeg x1) 4 ((st2 A 3 (A 1 7).toNatClampNeg x1) 1 7).toNatClampNeg x2) 5 ((st2 (st2 A 3 (A 1 7).toNatClampNeg x1) 4 ((st2 A 3 (A 1 7).toNatClampNeg x1) 1 7).toNatClampNeg x2) 1 7).toNatClampNeg x3) 6 ((st2 (st2 (st2 A 3 (A 1 7).toNatClampNeg x1) 4 ((st2 A 3 (A 1 7).toNatClampNeg x1) 1 7).toNatClampNeg x2) 5 ((st2 (st2 A 3 (A 1 7).toNatClampNeg x1) 4 ((st2 A 3 (A 1 7).toNatClampNeg x1) 1 7).toNatClampNeg x2) 1 7).toNatClampNeg x3) 1 7).toNatClampNeg x4) 1 7).toNatClampNeg x5) 1 7).toNatClampNeg (vp_nar .boolean x6)) 1 7) + ((1 : Int32)))) 1 7) - ((1 : Int32)), st2 (st2 (st2 (st2 (st2 (st2 (st2 A 3 (A 1 7).toNatClampNeg x1) 4 ((st2 A 3 (A 1 7).toNatClampNeg x1) 1 7).toNatClampNeg x2) 5 ((st2 (st2 A 3 (A 1 7).toNatClampNeg x1) 4 ((st2 A 3 (A 1 7).toNatClampNeg x1) 1 7).toNatClampNeg x2) 1 7).toNatClampNeg x3) 6 ((st2 (st2 (st2 A 3 (A 1 7).toNatClampNeg x1) 4 ((st2 A 3 (A 1 7).toNatClampNeg x1) 1 7).toNatClampNeg x2) 5 ((st2 (st2 A 3 (A 1 7).toNatClampNeg x1) 4 ((st2 A 3 (A 1 7).toNatClampNeg x1) 1 7).toNatClampNeg x2) 1 7).toNatClampNeg x3) 1 7).toNatClampNeg x4) 7 ((st2 (st2 (st2 (st2 A 3 (A 1 7).toNatClampNeg x1) 4 ((st2 A 3 (A 1 7).toNatClampNeg x1) 1 7).toNatClampNeg x2) 5 ((st2 (st2 A 3 (A 1 7).toNatClampNeg x1) 4 ((st2 A 3 (A 1 7).toNatClampNeg x1) 1 7).toNatClampNeg x2) 1 7).toNatClampNeg x3) 6 ((st2 (st2 (st2 A 3 (A 1 7).toNatClampNeg x1) 4 ((st2 A 3 (A 1 7).toNatClampNeg x1) 1 7).toNatClampNeg x2) 5 ((st2 (st2 A 3 (A 1 7).toNatClampNeg x1) 4 ((st2 A 3 (A 1 7).toNatClampNeg x1) 1 7).toNatClampNeg x2) 1 7).toNatClampNeg x3) 1 7).toNatClampNeg x4) 1 7).toNatClampNeg x5) 8 ((st2 (st2 (st2 (st2 (st2 A 3 (A 1 7).toNatClampNeg x1) 4 ((st2 A 3 (A 1 7).toNatClampNeg x1) 1 7).toNatClampNeg x2) 5 ((st2 (st2 A 3 (A 1 7).toNatClampNeg x1) 4 ((st2 A 3 (A 1 7).toNatClampNeg x1) 1 7).toNatClampNeg x2) 1 7).toNatClampNeg x3) 6 ((st2 (st2 (st2 A 3 (A 1 7).toNatClampNeg x1) 4 ((st2 A 3 (A 1 7).toNatClampNeg x1) 1 7).toNatClampNeg x2) 5 ((st2 (st2 A 3 (A 1 7).toNatClampNeg x1) 4 ((st2 A 3 (A 1 7).toNatClampNeg x1) 1 7).toNatClampNeg x2) 1 7).toNatClampNeg x3) 1 7).toNatClampNeg x4) 7 ((st2 (st2 (st2 (st2 A 3 (A 1 7).toNatClampNeg x1) 4 ((st2 A 3 (A 1 7).toNatClampNeg x1) 1 7).toNatClampNeg x2) 5 ((st2 (st2 A 3 (A 1 7).toNatClampNeg x1) 4 ((st2 A 3 (A 1 7).toNatClampNeg x1) 1 7).toNatClampNeg x2) 1 7).toNatClampNeg x3) 6 ((st2 (st2 (st2 A 3 (A 1 7).toNatClampNeg x1) 4 ((st2 A 3 (A 1 7).toNatClampNeg x1) 1 7).toNatClampNeg x2) 5 ((st2 (st2 A 3 (A 1 7).toNatClampNeg x1) 4 ((st2 A 3 (A 1 7).toNatClampNeg x1) 1 7).toNatClampNeg x2) 1 7).toNatClampNeg x3) 1 7).toNatClampNeg x4) 1 7).toNatClampNeg x5) 1 7).toNatClampNeg (vp_nar .boolean x6)) 1 7 (((st2 (st2 (st2 (st2 (st2 (st2 A 3 (A 1 7).toNatClampNeg x1) 4 ((st2 A 3 (A 1 7).toNatClampNeg x1) 1 7).toNatClampNeg x2) 5 ((st2 (st2 A 3 (A 1 7).toNatClampNeg x1) 4 ((st2 A 3 (A 1 7).toNatClampNeg x1) 1 7).toNatClampNeg x2) 1 7).toNatClampNeg x3) 6 ((st2 (st2 (st2 A 3 (A 1 7).toNatClampNeg x1) 4 ((st2 A 3 (A 1 7).toNatClampNeg x1) 1 7).toNatClampNeg x2) 5 ((st2 (st2 A 3 (A 1 7).toNatClampNeg x1) 4 ((st2 A 3 (A 1 7).toNatClampNeg x1) 1 7).toNatClampNeg x2) 1 7).toNatClampNeg x3) 1 7).toNatClampNeg x4) 7 ((st2 (st2 (st2 (st2 A 3 (A 1 7).toNatClampNeg x1) 4 ((st2 A 3 (A 1 7).toNatClampNeg x1) 1 7).toNatClampNeg x2) 5 ((st2 (st2 A 3 (A 1 7).toNatClampNeg x1) 4 ((st2 A 3 (A 1 7).toNatClampNeg x1) 1 7).toNatClampNeg x2) 1 7).toNatClampNeg x3) 6 ((st2 (st2 (st2 A 3 (A 1 7).toNatClampNeg x1) 4 ((st2 A 3 (A 1 7).toNatClampNeg x1) 1 7).toNatClampNeg x2) 5 ((st2 (st2 A 3 (A 1 7).toNatClampNeg x1) 4 ((st2 A 3 (A 1 7).toNatClampNeg x1) 1 7).toNatClampNeg x2) 1 7).toNatClampNeg x3) 1 7).toNatClampNeg x4) 1 7).toNatClampNeg x5) 8 ((st2 (st2 (st2 (st2 (st2 A 3 (A 1 7).toNatClampNeg x1) 4 ((st2 A 3 (A 1 7).toNatClampNeg x1) 1 7).toNatClampNeg x2) 5 ((st2 (st2 A 3 (A 1 7).toNatClampNeg x1) 4 ((st2 A 3 (A 1 7).toNatClampNeg x1) 1 7).toNatClampNeg x2) 1 7).toNatClampNeg x3) 6 ((st2 (st2 (st2 A 3 (A 1 7).toNatClampNeg x1) 4 ((st2 A 3 (A 1 7).toNatClampNeg x1) 1 7).toNatClampNeg x2) 5 ((st2 (st2 A 3 (A 1 7).toNatClampNeg x1) 4 ((st2 A 3 (A 1 7).toNatClampNeg x1) 1 7).toNatClampNeg x2) 1 7).toNatClampNeg x3) 1 7).toNatClampNeg x4) 7 ((st2 (st2 (st2 (st2 A 3 (A 1 7).toNatClampNeg x1) 4 ((st2 A 3 (A 1 7).toNatClampNeg x1) 1 7).toNatClampNeg x2) 5 ((st2 (st2 A 3 (A 1 7).toNatClampNeg x1) 4 ((st2 A 3 (A 1 7).toNatClampNeg x1) 1 7).toNatClampNeg x2) 1 7).toNatClampNeg x3) 6 ((st2 (st2 (st2 A 3 (A 1 7).toNatClampNeg x1) 4 ((st2 A 3 (A 1 7).toNatClampNeg x1) 1 7).toNatClampNeg x2) 5 ((st2 (st2 A 3 (A 1 7).toNatClampNeg x1) 4 ((st2 A 3 (A 1 7).toNatClampNeg x1) 1 7).toNatClampNeg x2) 1 7).toNatClampNeg x3) 1 7).toNatClampNeg x4) 1 7).toNatClampNeg x5) 1 7).toNatClampNeg (vp_nar .boolean x6)) 1 7) + ((1 : Int32))))
              else
                none
            else
              none
          else
            none
        else
          none
      else
        none
    else
      none
  else
    some ((-5 : Int32), A)
set_option maxRecDepth 100000 in
set_option maxHeartbeats 4000000 in
theorem c_X8_addFact (n : Nat) (x1 : Int32) (x2 : Int32) (x3 : Int32) (x4 : Int32) (x5 : Int32) (x6 : Int32) (A : Mem) (q : Int32 × Mem) (h : f_X8_addFact n x1 x2 x3 x4 x5 x6 A = some q) : Ct yX8_addFact cX8_addFact 7 (some .int) 0 [.ref 1, .int x1, .int x2, .int x3, .int x4, .int x5, .int x6] A (RI q) := by
  unfold f_X8_addFact at h
  refine ct_of (by decide) (Nat.le_of_ble_eq_true rfl) ?_
  show Ev cX8_addFact 7 RX8 (some .int) 0 none 0 [(0, .ref 1), (1, .int x1), (2, .int x2), (3, .int x3), (4, .int x4), (5, .int x5), (6, .int x6)] [] A (RI q)
  refine ev_aload_n 0 dX8_addFact_0 rfl rfl ?_
  refine ev_getI dX8_addFact_1 fl_X8_34 (by decide) rfl (by decide) (by decide) rfl ?_
  refine ev_bipush (v := 16) dX8_addFact_4 (by decide) ?_
  refine ev_icmp_lt (tgt := 12) dX8_addFact_6 (by decide) (fun c1 => ?_) (fun c1 => ?_)
  · have h := if_t c1 h
    refine ev_aload_n 0 dX8_addFact_12 rfl rfl ?_
    refine ev_getR (r := 3) dX8_addFact_13 fl_X8_15 (by decide) rfl (by decide) (by decide) rfl ?_
    refine ev_aload_n 0 dX8_addFact_16 rfl rfl ?_
    refine ev_getI dX8_addFact_17 fl_X8_34 (by decide) rfl (by decide) (by decide) rfl ?_
    refine ev_iload_n 1 dX8_addFact_20 rfl rfl ?_
    obtain ⟨c2, h⟩ := if_c h
    refine ev_iastc 16 dX8_addFact_21 (by decide) rfl rfl (by decide) c2 ?_
    refine ev_aload_n 0 dX8_addFact_22 rfl rfl ?_
    refine ev_getR (r := 4) dX8_addFact_23 fl_X8_18 (by decide) rfl (by decide) (by decide) rfl ?_
    refine ev_aload_n 0 dX8_addFact_26 rfl rfl ?_
    refine ev_getI dX8_addFact_27 fl_X8_34 (by decide) rfl (by decide) (by decide) rfl ?_
    refine ev_iload_n 2 dX8_addFact_30 rfl rfl ?_
    obtain ⟨c3, h⟩ := if_c h
    refine ev_iastc 16 dX8_addFact_31 (by decide) rfl rfl (by decide) c3 ?_
    refine ev_aload_n 0 dX8_addFact_32 rfl rfl ?_
    refine ev_getR (r := 5) dX8_addFact_33 fl_X8_21 (by decide) rfl (by decide) (by decide) rfl ?_
    refine ev_aload_n 0 dX8_addFact_36 rfl rfl ?_
    refine ev_getI dX8_addFact_37 fl_X8_34 (by decide) rfl (by decide) (by decide) rfl ?_
    refine ev_iload_n 3 dX8_addFact_40 rfl rfl ?_
    obtain ⟨c4, h⟩ := if_c h
    refine ev_iastc 16 dX8_addFact_41 (by decide) rfl rfl (by decide) c4 ?_
    refine ev_aload_n 0 dX8_addFact_42 rfl rfl ?_
    refine ev_getR (r := 6) dX8_addFact_43 fl_X8_24 (by decide) rfl (by decide) (by decide) rfl ?_
    refine ev_aload_n 0 dX8_addFact_46 rfl rfl ?_
    refine ev_getI dX8_addFact_47 fl_X8_34 (by decide) rfl (by decide) (by decide) rfl ?_
    refine ev_iload 4 dX8_addFact_50 rfl ?_
    obtain ⟨c5, h⟩ := if_c h
    refine ev_iastc 16 dX8_addFact_52 (by decide) rfl rfl (by decide) c5 ?_
    refine ev_aload_n 0 dX8_addFact_53 rfl rfl ?_
    refine ev_getR (r := 7) dX8_addFact_54 fl_X8_27 (by decide) rfl (by decide) (by decide) rfl ?_
    refine ev_aload_n 0 dX8_addFact_57 rfl rfl ?_
    refine ev_getI dX8_addFact_58 fl_X8_34 (by decide) rfl (by decide) (by decide) rfl ?_
    refine ev_iload 5 dX8_addFact_61 rfl ?_
    obtain ⟨c6, h⟩ := if_c h
    refine ev_iastc 16 dX8_addFact_63 (by decide) rfl rfl (by decide) c6 ?_
    refine ev_aload_n 0 dX8_addFact_64 rfl rfl ?_
    refine ev_getR (r := 8) dX8_addFact_65 fl_X8_30 (by decide) rfl (by decide) (by decide) rfl ?_
    refine ev_aload_n 0 dX8_addFact_68 rfl rfl ?_
    refine ev_getI dX8_addFact_69 fl_X8_34 (by decide) rfl (by decide) (by decide) rfl ?_
    refine ev_iload 6 dX8_addFact_72 rfl ?_
    obtain ⟨c7, h⟩ := if_c h
    refine ev_zastc 16 dX8_addFact_74 (by decide) rfl rfl (by decide) c7 ?_
    refine ev_aload_n 0 dX8_addFact_75 rfl rfl ?_
    refine ev_dup dX8_addFact_76 rfl ?_
    refine ev_getI dX8_addFact_77 fl_X8_34 (by decide) rfl (by decide) (by decide) rfl ?_
    refine ev_iconst (v := 1) dX8_addFact_80 (by decide) ?_
    refine ev_iadd dX8_addFact_81 ?_
    refine ev_put2 dX8_addFact_82 fl_X8_34 pk_8_7 (by decide) rfl (by decide) (by decide) rfl ?_
    refine ev_aload_n 0 dX8_addFact_85 rfl rfl ?_
    refine ev_getI dX8_addFact_86 fl_X8_34 (by decide) rfl (by decide) (by decide) rfl ?_
    refine ev_iconst (v := 1) dX8_addFact_89 (by decide) ?_
    refine ev_isub dX8_addFact_90 ?_
    cases h
    exact ev_iret dX8_addFact_91 rfl rfl ⟨rfl, rfl⟩
  · have h := if_f c1 h
    refine ev_bipush (v := -5) dX8_addFact_9 (by decide) ?_
    cases h
    exact ev_iret dX8_addFact_11 rfl rfl ⟨rfl, rfl⟩
def f_X9_fact (n : Nat) (x1 : Int32) (x2 : Int32) (x3 : Int32) (x4 : Int32) (x5 : Int32) (x6 : Int32) (A : Mem) : Option (Int32 × Mem) :=
  (f_X9_isBelow n x1 ((8 : Int32)) A).bind fun q1 =>
  if q1.1 = 0 then
    some ((-2 : Int32), q1.2)
  else
    (f_X9_isBelow n x2 ((4 : Int32)) q1.2).bind fun q4 =>
    if q4.1 = 0 then
      some ((-2 : Int32), q4.2)
    else
      (f_X9_isSpan n x3 x4 q4.2).bind fun q7 =>
      if q7.1 = 0 then
        some ((-3 : Int32), q7.2)
      else
        if x5 < ((1 : Int32)) then
          some ((-3 : Int32), q7.2)
        else
          if x5 ≤ ((9 : Int32)) then
            (f_X8_addFact n x1 x2 x3 x4 x5 x6 q7.2).bind fun q12 =>
            some (q12.1, q12.2)
          else
            some ((-3 : Int32), q7.2)
set_option maxRecDepth 100000 in
set_option maxHeartbeats 4000000 in
theorem c_X9_fact (n : Nat) (x1 : Int32) (x2 : Int32) (x3 : Int32) (x4 : Int32) (x5 : Int32) (x6 : Int32) (A : Mem) (q : Int32 × Mem) (h : f_X9_fact n x1 x2 x3 x4 x5 x6 A = some q) : Ct yX9_fact cX9_fact 7 (some .int) 2 [.ref 0, .int x1, .int x2, .int x3, .int x4, .int x5, .int x6] A (RI q) := by
  unfold f_X9_fact at h
  refine ct_of (by decide) (Nat.le_of_ble_eq_true rfl) ?_
  show Ev cX9_fact 7 RX9 (some .int) 2 none 0 [(0, .ref 0), (1, .int x1), (2, .int x2), (3, .int x3), (4, .int x4), (5, .int x5), (6, .int x6)] [] A (RI q)
  refine ev_iload_n 1 dX9_fact_0 rfl rfl ?_
  refine ev_bipush (v := 8) dX9_fact_1 (by decide) ?_
  obtain ⟨q1, e2, h⟩ := bd_c h
  refine ev_callSi (av := [.int x1, .int ((8 : Int32))]) dX9_fact_3 (c_X9_isBelow n x1 ((8 : Int32))  A q1 e2) mk_X9_isBelow lk_X9_93 is_X9_isBelow rfl (by decide) (by decide) (Nat.le_of_ble_eq_true rfl) rfl ?_
  refine ev_if_eq (tgt := 17) dX9_fact_6 (by decide) (fun c3 => ?_) (fun c3 => ?_)
  · have h := if_t c3 h
    refine ev_bipush (v := -2) dX9_fact_17 (by decide) ?_
    cases h
    exact ev_iret dX9_fact_19 rfl rfl ⟨rfl, rfl⟩
  · have h := if_f c3 h
    refine ev_iload_n 2 dX9_fact_9 rfl rfl ?_
    refine ev_iconst (v := 4) dX9_fact_10 (by decide) ?_
    obtain ⟨q4, e5, h⟩ := bd_c h
    refine ev_callSi (av := [.int x2, .int ((4 : Int32))]) dX9_fact_11 (c_X9_isBelow n x2 ((4 : Int32))  q1.2 q4 e5) mk_X9_isBelow lk_X9_93 is_X9_isBelow rfl (by decide) (by decide) (Nat.le_of_ble_eq_true rfl) rfl ?_
    refine ev_if_ne (tgt := 20) dX9_fact_14 (by decide) (fun c6 => ?_) (fun c6 => ?_)
    · have h := if_f c6 h
      refine ev_iload_n 3 dX9_fact_20 rfl rfl ?_
      refine ev_iload 4 dX9_fact_21 rfl ?_
      obtain ⟨q7, e8, h⟩ := bd_c h
      refine ev_callSi (av := [.int x3, .int x4]) dX9_fact_23 (c_X9_isSpan n x3 x4  q4.2 q7 e8) mk_X9_isSpan lk_X9_100 is_X9_isSpan rfl (by decide) (by decide) (Nat.le_of_ble_eq_true rfl) rfl ?_
      refine ev_if_eq (tgt := 42) dX9_fact_26 (by decide) (fun c9 => ?_) (fun c9 => ?_)
      · have h := if_t c9 h
        refine ev_bipush (v := -3) dX9_fact_42 (by decide) ?_
        cases h
        exact ev_iret dX9_fact_44 rfl rfl ⟨rfl, rfl⟩
      · have h := if_f c9 h
        refine ev_iload 5 dX9_fact_29 rfl ?_
        refine ev_iconst (v := 1) dX9_fact_31 (by decide) ?_
        refine ev_icmp_lt (tgt := 42) dX9_fact_32 (by decide) (fun c10 => ?_) (fun c10 => ?_)
        · have h := if_t c10 h
          refine ev_bipush (v := -3) dX9_fact_42 (by decide) ?_
          cases h
          exact ev_iret dX9_fact_44 rfl rfl ⟨rfl, rfl⟩
        · have h := if_f c10 h
          refine ev_iload 5 dX9_fact_35 rfl ?_
          refine ev_bipush (v := 9) dX9_fact_37 (by decide) ?_
          refine ev_icmp_le (tgt := 45) dX9_fact_39 (by decide) (fun c11 => ?_) (fun c11 => ?_)
          · have h := if_t c11 h
            refine ev_aload_n 0 dX9_fact_45 rfl rfl ?_
            refine ev_getR (r := 1) dX9_fact_46 fl_X9_37 (by decide) rfl (by decide) (by decide) rfl ?_
            refine ev_iload_n 1 dX9_fact_49 rfl rfl ?_
            refine ev_iload_n 2 dX9_fact_50 rfl rfl ?_
            refine ev_iload_n 3 dX9_fact_51 rfl rfl ?_
            refine ev_iload 4 dX9_fact_52 rfl ?_
            refine ev_iload 5 dX9_fact_54 rfl ?_
            refine ev_iload 6 dX9_fact_56 rfl ?_
            obtain ⟨q12, e13, h⟩ := bd_c h
            refine ev_callVi (av := [.int x1, .int x2, .int x3, .int x4, .int x5, .int x6]) dX9_fact_58 (c_X8_addFact n x1 x2 x3 x4 x5 x6  q7.2 q12 e13) mk_X8_addFact lk_X9_103 iv_X8_addFact (Or.inl ⟨8, _, by decide, rfl, by decide, rfl, rfl⟩) rfl (by decide) (by decide) (Nat.le_of_ble_eq_true rfl) rfl ?_
            cases h
            exact ev_iret dX9_fact_61 rfl rfl ⟨rfl, rfl⟩
          · have h := if_f c11 h
            refine ev_bipush (v := -3) dX9_fact_42 (by decide) ?_
            cases h
            exact ev_iret dX9_fact_44 rfl rfl ⟨rfl, rfl⟩
    · have h := if_t c6 h
      refine ev_bipush (v := -2) dX9_fact_17 (by decide) ?_
      cases h
      exact ev_iret dX9_fact_19 rfl rfl ⟨rfl, rfl⟩
def f_X9_refuseTopic (n : Nat) (x0 : Int32) (x1 : Int32) (x2 : Int32) (A : Mem) : Option (Int32 × Mem) :=
  (f_X9_isBelow n x0 ((8 : Int32)) A).bind fun q1 =>
  if q1.1 = 0 then
    some ((-2 : Int32), q1.2)
  else
    (f_X9_isBelow n x1 ((4 : Int32)) q1.2).bind fun q4 =>
    if q4.1 = 0 then
      some ((-2 : Int32), q4.2)
    else
      (f_X9_isBelow n x2 ((61 : Int32)) q4.2).bind fun q7 =>
      if q7.1 = 0 then
        some ((-3 : Int32), q7.2)
      else
        some ((0 : Int32), q7.2)
set_option maxRecDepth 100000 in
set_option maxHeartbeats 4000000 in
theorem c_X9_refuseTopic (n : Nat) (x0 : Int32) (x1 : Int32) (x2 : Int32) (A : Mem) (q : Int32 × Mem) (h : f_X9_refuseTopic n x0 x1 x2 A = some q) : Ct yX9_refuseTopic cX9_refuseTopic 3 (some .int) 1 [.int x0, .int x1, .int x2] A (RI q) := by
  unfold f_X9_refuseTopic at h
  refine ct_of (by decide) (Nat.le_of_ble_eq_true rfl) ?_
  show Ev cX9_refuseTopic 3 RX9 (some .int) 1 none 0 [(0, .int x0), (1, .int x1), (2, .int x2)] [] A (RI q)
  refine ev_iload_n 0 dX9_refuseTopic_0 rfl rfl ?_
  refine ev_bipush (v := 8) dX9_refuseTopic_1 (by decide) ?_
  obtain ⟨q1, e2, h⟩ := bd_c h
  refine ev_callSi (av := [.int x0, .int ((8 : Int32))]) dX9_refuseTopic_3 (c_X9_isBelow n x0 ((8 : Int32))  A q1 e2) mk_X9_isBelow lk_X9_93 is_X9_isBelow rfl (by decide) (by decide) (Nat.le_of_ble_eq_true rfl) rfl ?_
  refine ev_if_eq (tgt := 17) dX9_refuseTopic_6 (by decide) (fun c3 => ?_) (fun c3 => ?_)
  · have h := if_t c3 h
    refine ev_bipush (v := -2) dX9_refuseTopic_17 (by decide) ?_
    cases h
    exact ev_iret dX9_refuseTopic_19 rfl rfl ⟨rfl, rfl⟩
  · have h := if_f c3 h
    refine ev_iload_n 1 dX9_refuseTopic_9 rfl rfl ?_
    refine ev_iconst (v := 4) dX9_refuseTopic_10 (by decide) ?_
    obtain ⟨q4, e5, h⟩ := bd_c h
    refine ev_callSi (av := [.int x1, .int ((4 : Int32))]) dX9_refuseTopic_11 (c_X9_isBelow n x1 ((4 : Int32))  q1.2 q4 e5) mk_X9_isBelow lk_X9_93 is_X9_isBelow rfl (by decide) (by decide) (Nat.le_of_ble_eq_true rfl) rfl ?_
    refine ev_if_ne (tgt := 20) dX9_refuseTopic_14 (by decide) (fun c6 => ?_) (fun c6 => ?_)
    · have h := if_f c6 h
      refine ev_iload_n 2 dX9_refuseTopic_20 rfl rfl ?_
      refine ev_bipush (v := 61) dX9_refuseTopic_21 (by decide) ?_
      obtain ⟨q7, e8, h⟩ := bd_c h
      refine ev_callSi (av := [.int x2, .int ((61 : Int32))]) dX9_refuseTopic_23 (c_X9_isBelow n x2 ((61 : Int32))  q4.2 q7 e8) mk_X9_isBelow lk_X9_93 is_X9_isBelow rfl (by decide) (by decide) (Nat.le_of_ble_eq_true rfl) rfl ?_
      refine ev_if_eq (tgt := 33) dX9_refuseTopic_26 (by decide) (fun c9 => ?_) (fun c9 => ?_)
      · have h := if_t c9 h
        refine ev_bipush (v := -3) dX9_refuseTopic_33 (by decide) ?_
        cases h
        exact ev_iret dX9_refuseTopic_35 rfl rfl ⟨rfl, rfl⟩
      · have h := if_f c9 h
        refine ev_iconst (v := 0) dX9_refuseTopic_29 (by decide) ?_
        refine ev_goto (tgt := 35) dX9_refuseTopic_30 (by decide) ?_
        cases h
        exact ev_iret dX9_refuseTopic_35 rfl rfl ⟨rfl, rfl⟩
    · have h := if_t c6 h
      refine ev_bipush (v := -2) dX9_refuseTopic_17 (by decide) ?_
      cases h
      exact ev_iret dX9_refuseTopic_19 rfl rfl ⟨rfl, rfl⟩
def f_X9_topicOf (n : Nat) (x0 : Int32) (x1 : Int32) (x2 : Int32) (A : Mem) : Option (Int32 × Mem) :=
  some ((((x0 * ((4 : Int32))) + x1) * ((61 : Int32))) + x2, A)
set_option maxRecDepth 100000 in
set_option maxHeartbeats 4000000 in
theorem c_X9_topicOf (n : Nat) (x0 : Int32) (x1 : Int32) (x2 : Int32) (A : Mem) (q : Int32 × Mem) (h : f_X9_topicOf n x0 x1 x2 A = some q) : Ct yX9_topicOf cX9_topicOf 3 (some .int) 0 [.int x0, .int x1, .int x2] A (RI q) := by
  unfold f_X9_topicOf at h
  refine ct_of (by decide) (Nat.le_of_ble_eq_true rfl) ?_
  show Ev cX9_topicOf 3 RX9 (some .int) 0 none 0 [(0, .int x0), (1, .int x1), (2, .int x2)] [] A (RI q)
  refine ev_iload_n 0 dX9_topicOf_0 rfl rfl ?_
  refine ev_iconst (v := 4) dX9_topicOf_1 (by decide) ?_
  refine ev_imul dX9_topicOf_2 ?_
  refine ev_iload_n 1 dX9_topicOf_3 rfl rfl ?_
  refine ev_iadd dX9_topicOf_4 ?_
  refine ev_bipush (v := 61) dX9_topicOf_5 (by decide) ?_
  refine ev_imul dX9_topicOf_7 ?_
  refine ev_iload_n 2 dX9_topicOf_8 rfl rfl ?_
  refine ev_iadd dX9_topicOf_9 ?_
  cases h
  exact ev_iret dX9_topicOf_10 rfl rfl ⟨rfl, rfl⟩
def f_X9_placeOf (n : Nat) (x0 : Int32) (A : Mem) : Option (Int32 × Mem) :=
  some (x0 / ((244 : Int32)), A)
set_option maxRecDepth 100000 in
set_option maxHeartbeats 4000000 in
theorem c_X9_placeOf (n : Nat) (x0 : Int32) (A : Mem) (q : Int32 × Mem) (h : f_X9_placeOf n x0 A = some q) : Ct yX9_placeOf cX9_placeOf 1 (some .int) 0 [.int x0] A (RI q) := by
  unfold f_X9_placeOf at h
  refine ct_of (by decide) (Nat.le_of_ble_eq_true rfl) ?_
  show Ev cX9_placeOf 1 RX9 (some .int) 0 none 0 [(0, .int x0)] [] A (RI q)
  refine ev_iload_n 0 dX9_placeOf_0 rfl rfl ?_
  refine ev_sipush (v := 244) dX9_placeOf_1 (by decide) ?_
  refine ev_idiv dX9_placeOf_4 (by decide) ?_
  cases h
  exact ev_iret dX9_placeOf_5 rfl rfl ⟨rfl, rfl⟩
def f_X9_kindOf (n : Nat) (x0 : Int32) (A : Mem) : Option (Int32 × Mem) :=
  some ((x0 / ((61 : Int32))) - (x0 / ((61 : Int32))) / ((4 : Int32)) * ((4 : Int32)), A)
set_option maxRecDepth 100000 in
set_option maxHeartbeats 4000000 in
theorem c_X9_kindOf (n : Nat) (x0 : Int32) (A : Mem) (q : Int32 × Mem) (h : f_X9_kindOf n x0 A = some q) : Ct yX9_kindOf cX9_kindOf 1 (some .int) 0 [.int x0] A (RI q) := by
  unfold f_X9_kindOf at h
  refine ct_of (by decide) (Nat.le_of_ble_eq_true rfl) ?_
  show Ev cX9_kindOf 1 RX9 (some .int) 0 none 0 [(0, .int x0)] [] A (RI q)
  refine ev_iload_n 0 dX9_kindOf_0 rfl rfl ?_
  refine ev_bipush (v := 61) dX9_kindOf_1 (by decide) ?_
  refine ev_idiv dX9_kindOf_3 (by decide) ?_
  refine ev_iconst (v := 4) dX9_kindOf_4 (by decide) ?_
  refine ev_irem dX9_kindOf_5 (by decide) ?_
  cases h
  exact ev_iret dX9_kindOf_6 rfl rfl ⟨rfl, rfl⟩
def f_X9_dayOf (n : Nat) (x0 : Int32) (A : Mem) : Option (Int32 × Mem) :=
  some (x0 - x0 / ((61 : Int32)) * ((61 : Int32)), A)
set_option maxRecDepth 100000 in
set_option maxHeartbeats 4000000 in
theorem c_X9_dayOf (n : Nat) (x0 : Int32) (A : Mem) (q : Int32 × Mem) (h : f_X9_dayOf n x0 A = some q) : Ct yX9_dayOf cX9_dayOf 1 (some .int) 0 [.int x0] A (RI q) := by
  unfold f_X9_dayOf at h
  refine ct_of (by decide) (Nat.le_of_ble_eq_true rfl) ?_
  show Ev cX9_dayOf 1 RX9 (some .int) 0 none 0 [(0, .int x0)] [] A (RI q)
  refine ev_iload_n 0 dX9_dayOf_0 rfl rfl ?_
  refine ev_bipush (v := 61) dX9_dayOf_1 (by decide) ?_
  refine ev_irem dX9_dayOf_3 (by decide) ?_
  cases h
  exact ev_iret dX9_dayOf_4 rfl rfl ⟨rfl, rfl⟩
def f_X8_tells (n : Nat) (x1 : Int32) (x2 : Int32) (x3 : Int32) (x4 : Int32) (A : Mem) : Option (Int32 × Mem) :=
  if ¬ x1 < 0 ∧ (x1).toNatClampNeg < 16 then
    if (A 3 (x1).toNatClampNeg) = x2 then
      if (A 4 (x1).toNatClampNeg) = x3 then
        if x4 < (A 5 (x1).toNatClampNeg) then
          some ((0 : Int32), A)
        else
          if (A 6 (x1).toNatClampNeg) < x4 then
            some ((0 : Int32), A)
          else
            some ((1 : Int32), A)
      else
        some ((0 : Int32), A)
    else
      some ((0 : Int32), A)
  else
    none
set_option maxRecDepth 100000 in
set_option maxHeartbeats 4000000 in
theorem c_X8_tells (n : Nat) (x1 : Int32) (x2 : Int32) (x3 : Int32) (x4 : Int32) (A : Mem) (q : Int32 × Mem) (h : f_X8_tells n x1 x2 x3 x4 A = some q) : Ct yX8_tells cX8_tells 5 (some .boolean) 0 [.ref 1, .int x1, .int x2, .int x3, .int x4] A (RI q) := by
  unfold f_X8_tells at h
  refine ct_of (by decide) (Nat.le_of_ble_eq_true rfl) ?_
  show Ev cX8_tells 5 RX8 (some .boolean) 0 none 0 [(0, .ref 1), (1, .int x1), (2, .int x2), (3, .int x3), (4, .int x4)] [] A (RI q)
  refine ev_aload_n 0 dX8_tells_0 rfl rfl ?_
  refine ev_getR (r := 3) dX8_tells_1 fl_X8_15 (by decide) rfl (by decide) (by decide) rfl ?_
  refine ev_iload_n 1 dX8_tells_4 rfl rfl ?_
  obtain ⟨c1, h⟩ := if_c h
  refine ev_ialdc 16 dX8_tells_5 (by decide) rfl rfl (by decide) c1 ?_
  refine ev_iload_n 2 dX8_tells_6 rfl rfl ?_
  refine ev_icmp_ne (tgt := 46) dX8_tells_7 (by decide) (fun c2 => ?_) (fun c2 => ?_)
  · have h := if_f c2 h
    refine ev_iconst (v := 0) dX8_tells_46 (by decide) ?_
    cases h
    exact ev_iret dX8_tells_47 rfl rfl ⟨rfl, rfl⟩
  · have h := if_t c2 h
    refine ev_aload_n 0 dX8_tells_10 rfl rfl ?_
    refine ev_getR (r := 4) dX8_tells_11 fl_X8_18 (by decide) rfl (by decide) (by decide) rfl ?_
    refine ev_iload_n 1 dX8_tells_14 rfl rfl ?_
    refine ev_ialdc 16 dX8_tells_15 (by decide) rfl rfl (by decide) c1 ?_
    refine ev_iload_n 3 dX8_tells_16 rfl rfl ?_
    refine ev_icmp_ne (tgt := 46) dX8_tells_17 (by decide) (fun c3 => ?_) (fun c3 => ?_)
    · have h := if_f c3 h
      refine ev_iconst (v := 0) dX8_tells_46 (by decide) ?_
      cases h
      exact ev_iret dX8_tells_47 rfl rfl ⟨rfl, rfl⟩
    · have h := if_t c3 h
      refine ev_aload_n 0 dX8_tells_20 rfl rfl ?_
      refine ev_getR (r := 5) dX8_tells_21 fl_X8_21 (by decide) rfl (by decide) (by decide) rfl ?_
      refine ev_iload_n 1 dX8_tells_24 rfl rfl ?_
      refine ev_ialdc 16 dX8_tells_25 (by decide) rfl rfl (by decide) c1 ?_
      refine ev_iload 4 dX8_tells_26 rfl ?_
      refine ev_icmp_gt (tgt := 46) dX8_tells_28 (by decide) (fun c4 => ?_) (fun c4 => ?_)
      · have h := if_t c4 h
        refine ev_iconst (v := 0) dX8_tells_46 (by decide) ?_
        cases h
        exact ev_iret dX8_tells_47 rfl rfl ⟨rfl, rfl⟩
      · have h := if_f c4 h
        refine ev_iload 4 dX8_tells_31 rfl ?_
        refine ev_aload_n 0 dX8_tells_33 rfl rfl ?_
        refine ev_getR (r := 6) dX8_tells_34 fl_X8_24 (by decide) rfl (by decide) (by decide) rfl ?_
        refine ev_iload_n 1 dX8_tells_37 rfl rfl ?_
        refine ev_ialdc 16 dX8_tells_38 (by decide) rfl rfl (by decide) c1 ?_
        refine ev_icmp_gt (tgt := 46) dX8_tells_39 (by decide) (fun c5 => ?_) (fun c5 => ?_)
        · have h := if_t c5 h
          refine ev_iconst (v := 0) dX8_tells_46 (by decide) ?_
          cases h
          exact ev_iret dX8_tells_47 rfl rfl ⟨rfl, rfl⟩
        · have h := if_f c5 h
          refine ev_iconst (v := 1) dX8_tells_42 (by decide) ?_
          refine ev_goto (tgt := 47) dX8_tells_43 (by decide) ?_
          cases h
          exact ev_iret dX8_tells_47 rfl rfl ⟨rfl, rfl⟩
def g_X8_valueOf_24 (n : Nat) : Nat → Int32 → Int32 → Int32 → Int32 → Mem → Option (Int32 × Mem)
  | 0, _, _, _, _, _ => none
  | m + 1, x2, x3, x4, x5, A =>
    if x5 < 0 then
      some ((0 : Int32), A)
    else
      (f_X8_tells n x5 x2 x3 x4 A).bind fun q8 =>
      if q8.1 = 0 then
        g_X8_valueOf_24 n  m x2 x3 x4 (x5 + (-1)) q8.2
      else
        if ¬ x5 < 0 ∧ (x5).toNatClampNeg < 16 then
          some (q8.2 7 (x5).toNatClampNeg, q8.2)
        else
          none
set_option maxRecDepth 100000 in
set_option maxHeartbeats 4000000 in
theorem l_X8_valueOf_24 (n : Nat) : ∀ (m : Nat) (x2 : Int32) (x3 : Int32) (x4 : Int32) (x5 : Int32) (A : Mem) (q : Int32 × Mem), g_X8_valueOf_24 n  m x2 x3 x4 x5 A = some q → Ev cX8_valueOf 6 RX8 (some .int) 1 none 24 [(0, .ref 1), (2, .int x2), (3, .int x3), (4, .int x4), (5, .int x5)] [] A (RI q) := by
  intro m
  induction m with
  | zero => intro x2 x3 x4 x5 A q h; exact absurd h (by simp [g_X8_valueOf_24])
  | succ m ih =>
    intro x2 x3 x4 x5 A q h
    rw [g_X8_valueOf_24] at h
    refine ev_iload 4 dX8_valueOf_24 rfl ?_
    refine ev_if_lt (tgt := 56) dX8_valueOf_26 (by decide) (fun c7 => ?_) (fun c7 => ?_)
    · have h := if_t c7 h
      refine ev_iconst (v := 0) dX8_valueOf_56 (by decide) ?_
      cases h
      exact ev_iret dX8_valueOf_57 rfl rfl ⟨rfl, rfl⟩
    · have h := if_f c7 h
      refine ev_aload_n 0 dX8_valueOf_29 rfl rfl ?_
      refine ev_iload 4 dX8_valueOf_30 rfl ?_
      refine ev_iload_n 1 dX8_valueOf_32 rfl rfl ?_
      refine ev_iload_n 2 dX8_valueOf_33 rfl rfl ?_
      refine ev_iload 3 dX8_valueOf_34 rfl ?_
      obtain ⟨q8, e9, h⟩ := bd_c h
      refine ev_callVi (av := [.int x5, .int x2, .int x3, .int x4]) dX8_valueOf_36 (c_X8_tells n x5 x2 x3 x4  A q8 e9) mk_X8_tells lk_X8_48 iv_X8_tells (Or.inl ⟨8, _, by decide, rfl, by decide, rfl, rfl⟩) rfl (by decide) (by decide) (Nat.le_of_ble_eq_true rfl) rfl ?_
      refine ev_if_eq (tgt := 50) dX8_valueOf_39 (by decide) (fun c10 => ?_) (fun c10 => ?_)
      · have h := if_t c10 h
        refine ev_iinc (v := x5 + (-1)) (ls' := [(5, .int (x5 + (-1))), (0, .ref 1), (2, .int x2), (3, .int x3), (4, .int x4)]) 4 dX8_valueOf_50 rfl rfl (by decide) rfl ?_
        refine ev_goto (tgt := 24) dX8_valueOf_53 (by decide) ?_
        refine ev_pick [1, 2, 3, 4, 0] (ls' := [(0, .ref 1), (2, .int x2), (3, .int x3), (4, .int x4), (5, .int (x5 + (-1)))]) rfl ?_
        exact ih x2 x3 x4 (x5 + (-1)) _ q h
      · have h := if_f c10 h
        refine ev_aload_n 0 dX8_valueOf_42 rfl rfl ?_
        refine ev_getR (r := 7) dX8_valueOf_43 fl_X8_27 (by decide) rfl (by decide) (by decide) rfl ?_
        refine ev_iload 4 dX8_valueOf_46 rfl ?_
        obtain ⟨c11, h⟩ := if_c h
        refine ev_ialdc 16 dX8_valueOf_48 (by decide) rfl rfl (by decide) c11 ?_
        cases h
        exact ev_iret dX8_valueOf_49 rfl rfl ⟨rfl, rfl⟩
def f_X8_valueOf (n : Nat) (x1 : Int32) (A : Mem) : Option (Int32 × Mem) :=
  (f_X9_placeOf n x1 A).bind fun q1 =>
  (f_X9_kindOf n x1 q1.2).bind fun q3 =>
  (f_X9_dayOf n x1 q3.2).bind fun q5 =>
  g_X8_valueOf_24 n  n q1.1 q3.1 q5.1 ((q5.2 1 7) - ((1 : Int32))) q5.2
set_option maxRecDepth 100000 in
set_option maxHeartbeats 4000000 in
theorem c_X8_valueOf (n : Nat) (x1 : Int32) (A : Mem) (q : Int32 × Mem) (h : f_X8_valueOf n x1 A = some q) : Ct yX8_valueOf cX8_valueOf 6 (some .int) 1 [.ref 1, .int x1] A (RI q) := by
  unfold f_X8_valueOf at h
  refine ct_of (by decide) (Nat.le_of_ble_eq_true rfl) ?_
  show Ev cX8_valueOf 6 RX8 (some .int) 1 none 0 [(0, .ref 1), (1, .int x1)] [] A (RI q)
  refine ev_iload_n 1 dX8_valueOf_0 rfl rfl ?_
  obtain ⟨q1, e2, h⟩ := bd_c h
  refine ev_callSi (av := [.int x1]) dX8_valueOf_1 (c_X9_placeOf n x1  A q1 e2) mk_X9_placeOf lk_X8_38 is_X9_placeOf rfl (by decide) (by decide) (Nat.le_of_ble_eq_true rfl) rfl ?_
  refine ev_istore_n (ls' := [(2, .int q1.1), (0, .ref 1), (1, .int x1)]) dX8_valueOf_4 rfl (by decide) rfl ?_
  refine ev_iload_n 2 dX8_valueOf_5 rfl rfl ?_
  obtain ⟨q3, e4, h⟩ := bd_c h
  refine ev_callSi (av := [.int x1]) dX8_valueOf_6 (c_X9_kindOf n x1  q1.2 q3 e4) mk_X9_kindOf lk_X8_42 is_X9_kindOf rfl (by decide) (by decide) (Nat.le_of_ble_eq_true rfl) rfl ?_
  refine ev_istore_n (ls' := [(3, .int q3.1), (2, .int q1.1), (0, .ref 1), (1, .int x1)]) dX8_valueOf_9 rfl (by decide) rfl ?_
  refine ev_iload_n 3 dX8_valueOf_10 rfl rfl ?_
  obtain ⟨q5, e6, h⟩ := bd_c h
  refine ev_callSi (av := [.int x1]) dX8_valueOf_11 (c_X9_dayOf n x1  q3.2 q5 e6) mk_X9_dayOf lk_X8_45 is_X9_dayOf rfl (by decide) (by decide) (Nat.le_of_ble_eq_true rfl) rfl ?_
  refine ev_istore (ls' := [(4, .int q5.1), (3, .int q3.1), (2, .int q1.1), (0, .ref 1), (1, .int x1)]) dX8_valueOf_14 (by decide) rfl ?_
  refine ev_aload_n 3 dX8_valueOf_16 rfl rfl ?_
  refine ev_getI dX8_valueOf_17 fl_X8_34 (by decide) rfl (by decide) (by decide) rfl ?_
  refine ev_iconst (v := 1) dX8_valueOf_20 (by decide) ?_
  refine ev_isub dX8_valueOf_21 ?_
  refine ev_istore (ls' := [(5, .int ((q5.2 1 7) - ((1 : Int32)))), (4, .int q5.1), (3, .int q3.1), (2, .int q1.1), (0, .ref 1), (1, .int x1)]) dX8_valueOf_22 (by decide) rfl ?_
  refine ev_pick [4, 3, 2, 1, 0] (ls' := [(0, .ref 1), (2, .int q1.1), (3, .int q3.1), (4, .int q5.1), (5, .int ((q5.2 1 7) - ((1 : Int32))))]) rfl ?_
  exact (l_X8_valueOf_24 n   n) q1.1 q3.1 q5.1 ((q5.2 1 7) - ((1 : Int32))) _ q h
def f_X9_world (n : Nat) (x1 : Int32) (x2 : Int32) (x3 : Int32) (A : Mem) : Option (Int32 × Mem) :=
  (f_X9_refuseTopic n x1 x2 x3 A).bind fun q1 =>
  if q1.1 = 0 then
    (f_X9_topicOf n x1 x2 x3 q1.2).bind fun q4 =>
    (f_X8_valueOf n q4.1 q4.2).bind fun q6 =>
    some (q6.1, q6.2)
  else
    some (q1.1, q1.2)
set_option maxRecDepth 100000 in
set_option maxHeartbeats 4000000 in
theorem c_X9_world (n : Nat) (x1 : Int32) (x2 : Int32) (x3 : Int32) (A : Mem) (q : Int32 × Mem) (h : f_X9_world n x1 x2 x3 A = some q) : Ct yX9_world cX9_world 5 (some .int) 2 [.ref 0, .int x1, .int x2, .int x3] A (RI q) := by
  unfold f_X9_world at h
  refine ct_of (by decide) (Nat.le_of_ble_eq_true rfl) ?_
  show Ev cX9_world 5 RX9 (some .int) 2 none 0 [(0, .ref 0), (1, .int x1), (2, .int x2), (3, .int x3)] [] A (RI q)
  refine ev_iload_n 1 dX9_world_0 rfl rfl ?_
  refine ev_iload_n 2 dX9_world_1 rfl rfl ?_
  refine ev_iload_n 3 dX9_world_2 rfl rfl ?_
  obtain ⟨q1, e2, h⟩ := bd_c h
  refine ev_callSi (av := [.int x1, .int x2, .int x3]) dX9_world_3 (c_X9_refuseTopic n x1 x2 x3  A q1 e2) mk_X9_refuseTopic lk_X9_107 is_X9_refuseTopic rfl (by decide) (by decide) (Nat.le_of_ble_eq_true rfl) rfl ?_
  refine ev_istore (ls' := [(4, .int q1.1), (0, .ref 0), (1, .int x1), (2, .int x2), (3, .int x3)]) dX9_world_6 (by decide) rfl ?_
  refine ev_iload 0 dX9_world_8 rfl ?_
  refine ev_if_eq (tgt := 18) dX9_world_10 (by decide) (fun c3 => ?_) (fun c3 => ?_)
  · have h := if_t c3 h
    refine ev_aload_n 1 dX9_world_18 rfl rfl ?_
    refine ev_getR (r := 1) dX9_world_19 fl_X9_37 (by decide) rfl (by decide) (by decide) rfl ?_
    refine ev_iload_n 2 dX9_world_22 rfl rfl ?_
    refine ev_iload_n 3 dX9_world_23 rfl rfl ?_
    refine ev_iload_n 4 dX9_world_24 rfl rfl ?_
    obtain ⟨q4, e5, h⟩ := bd_c h
    refine ev_callSi (av := [.int x1, .int x2, .int x3]) dX9_world_25 (c_X9_topicOf n x1 x2 x3  q1.2 q4 e5) mk_X9_topicOf lk_X9_111 is_X9_topicOf rfl (by decide) (by decide) (Nat.le_of_ble_eq_true rfl) rfl ?_
    obtain ⟨q6, e7, h⟩ := bd_c h
    refine ev_callVi (av := [.int q4.1]) dX9_world_28 (c_X8_valueOf n q4.1  q4.2 q6 e7) mk_X8_valueOf lk_X9_114 iv_X8_valueOf (Or.inl ⟨8, _, by decide, rfl, by decide, rfl, rfl⟩) rfl (by decide) (by decide) (Nat.le_of_ble_eq_true rfl) rfl ?_
    cases h
    exact ev_iret dX9_world_31 rfl rfl ⟨rfl, rfl⟩
  · have h := if_f c3 h
    refine ev_iload 0 dX9_world_13 rfl ?_
    refine ev_goto (tgt := 31) dX9_world_15 (by decide) ?_
    cases h
    exact ev_iret dX9_world_31 rfl rfl ⟨rfl, rfl⟩
def f_X9_home (n : Nat) (x1 : Int32) (x2 : Int32) (A : Mem) : Option (Int32 × Mem) :=
  (f_X9_isBelow n x1 ((6 : Int32)) A).bind fun q1 =>
  if q1.1 = 0 then
    some ((-2 : Int32), q1.2)
  else
    (f_X9_isBelow n x2 ((8 : Int32)) q1.2).bind fun q4 =>
    if q4.1 = 0 then
      some ((-2 : Int32), q4.2)
    else
      if ¬ x1 < 0 ∧ (x1).toNatClampNeg < 6 then
        some (q4.2 (rf 25 (x1).toNatClampNeg) 3, st2 q4.2 (rf 25 (x1).toNatClampNeg) 3 x2)
      else
        none
set_option maxRecDepth 100000 in
set_option maxHeartbeats 4000000 in
theorem c_X9_home (n : Nat) (x1 : Int32) (x2 : Int32) (A : Mem) (q : Int32 × Mem) (h : f_X9_home n x1 x2 A = some q) : Ct yX9_home cX9_home 4 (some .int) 1 [.ref 0, .int x1, .int x2] A (RI q) := by
  unfold f_X9_home at h
  refine ct_of (by decide) (Nat.le_of_ble_eq_true rfl) ?_
  show Ev cX9_home 4 RX9 (some .int) 1 none 0 [(0, .ref 0), (1, .int x1), (2, .int x2)] [] A (RI q)
  refine ev_iload_n 1 dX9_home_0 rfl rfl ?_
  refine ev_bipush (v := 6) dX9_home_1 (by decide) ?_
  obtain ⟨q1, e2, h⟩ := bd_c h
  refine ev_callSi (av := [.int x1, .int ((6 : Int32))]) dX9_home_3 (c_X9_isBelow n x1 ((6 : Int32))  A q1 e2) mk_X9_isBelow lk_X9_93 is_X9_isBelow rfl (by decide) (by decide) (Nat.le_of_ble_eq_true rfl) rfl ?_
  refine ev_if_eq (tgt := 18) dX9_home_6 (by decide) (fun c3 => ?_) (fun c3 => ?_)
  · have h := if_t c3 h
    refine ev_bipush (v := -2) dX9_home_18 (by decide) ?_
    cases h
    exact ev_iret dX9_home_20 rfl rfl ⟨rfl, rfl⟩
  · have h := if_f c3 h
    refine ev_iload_n 2 dX9_home_9 rfl rfl ?_
    refine ev_bipush (v := 8) dX9_home_10 (by decide) ?_
    obtain ⟨q4, e5, h⟩ := bd_c h
    refine ev_callSi (av := [.int x2, .int ((8 : Int32))]) dX9_home_12 (c_X9_isBelow n x2 ((8 : Int32))  q1.2 q4 e5) mk_X9_isBelow lk_X9_93 is_X9_isBelow rfl (by decide) (by decide) (Nat.le_of_ble_eq_true rfl) rfl ?_
    refine ev_if_ne (tgt := 21) dX9_home_15 (by decide) (fun c6 => ?_) (fun c6 => ?_)
    · have h := if_f c6 h
      refine ev_aload_n 0 dX9_home_21 rfl rfl ?_
      refine ev_getR (r := 25) dX9_home_22 fl_X9_41 (by decide) rfl (by decide) (by decide) rfl ?_
      refine ev_iload_n 1 dX9_home_25 rfl rfl ?_
      obtain ⟨c7, h⟩ := if_c h
      have e8 := el_25 _ c7.2
      refine ev_aaldc 6 dX9_home_26 (by decide) rfl (Or.inl rfl) rfl (by decide) c7 e8.1 ?_
      refine ev_getI dX9_home_27 fl_X9_118 e8.2.1 e8.2.2 (sl_0_3 (rf 25 (x1).toNatClampNeg) e8.2.1 e8.2.2) (by decide) (sn_0_3 (rf 25 (x1).toNatClampNeg) e8.2.1 e8.2.2) ?_
      refine ev_istore_n (ls' := [(3, .int (q4.2 (rf 25 (x1).toNatClampNeg) 3)), (0, .ref 0), (1, .int x1), (2, .int x2)]) dX9_home_30 rfl (by decide) rfl ?_
      refine ev_aload_n 1 dX9_home_31 rfl rfl ?_
      refine ev_getR (r := 25) dX9_home_32 fl_X9_41 (by decide) rfl (by decide) (by decide) rfl ?_
      refine ev_iload_n 2 dX9_home_35 rfl rfl ?_
      have e9 := el_25 _ c7.2
      refine ev_aaldc 6 dX9_home_36 (by decide) rfl (Or.inl rfl) rfl (by decide) c7 e9.1 ?_
      refine ev_iload_n 3 dX9_home_37 rfl rfl ?_
      refine ev_put2 dX9_home_38 fl_X9_118 pk_0_3 e9.2.1 e9.2.2 (sl_0_3 (rf 25 (x1).toNatClampNeg) e9.2.1 e9.2.2) (by decide) (sn_0_3 (rf 25 (x1).toNatClampNeg) e9.2.1 e9.2.2) ?_
      refine ev_iload_n 0 dX9_home_41 rfl rfl ?_
      cases h
      exact ev_iret dX9_home_42 rfl rfl ⟨rfl, rfl⟩
    · have h := if_t c6 h
      refine ev_bipush (v := -2) dX9_home_18 (by decide) ?_
      cases h
      exact ev_iret dX9_home_20 rfl rfl ⟨rfl, rfl⟩
def g_X7_append_18 (n : Nat) (y1 : Int64) : Nat → Int32 → Int32 → Mem → Option (Int32 × Mem)
  | 0, _, _, _ => none
  | m + 1, x3, x4, A =>
    if x3 ≤ x4 then
      some ((st2 A 61 4 ((A 61 4) + x3)) 61 4, st2 A 61 4 ((A 61 4) + x3))
    else
      if ¬ ((A 61 4) + x4) < 0 ∧ ((A 61 4) + x4).toNatClampNeg < 160 then
        g_X7_append_18 n y1 m x3 (x4 + 1) (st2 A 62 ((A 61 4) + x4).toNatClampNeg (((y1 >>> ((((8 : Int32)) * x4).toInt64 &&& 63)) &&& ((255 : Int64))).toInt32))
      else
        none
set_option maxRecDepth 100000 in
set_option maxHeartbeats 4000000 in
theorem l_X7_append_18 (n : Nat) (y1 : Int64) : ∀ (m : Nat) (x3 : Int32) (x4 : Int32) (A : Mem) (q : Int32 × Mem), g_X7_append_18 n y1 m x3 x4 A = some q → Ev cX7_append 5 RX7 (some .int) 0 none 18 [(0, .ref 61), (1, .long y1), (3, .int x3), (4, .int x4)] [] A (RI q) := by
  intro m
  induction m with
  | zero => intro x3 x4 A q h; exact absurd h (by simp [g_X7_append_18])
  | succ m ih =>
    intro x3 x4 A q h
    rw [g_X7_append_18] at h
    refine ev_iload 3 dX7_append_18 rfl ?_
    refine ev_iload_n 2 dX7_append_20 rfl rfl ?_
    refine ev_icmp_ge (tgt := 54) dX7_append_21 (by decide) (fun c2 => ?_) (fun c2 => ?_)
    · have h := if_t c2 h
      refine ev_aload_n 0 dX7_append_54 rfl rfl ?_
      refine ev_dup dX7_append_55 rfl ?_
      refine ev_getI dX7_append_56 fl_X7_24 (by decide) rfl (by decide) (by decide) rfl ?_
      refine ev_iload_n 2 dX7_append_59 rfl rfl ?_
      refine ev_iadd dX7_append_60 ?_
      refine ev_put2 dX7_append_61 fl_X7_24 pk_7_4 (by decide) rfl (by decide) (by decide) rfl ?_
      refine ev_aload_n 0 dX7_append_64 rfl rfl ?_
      refine ev_getI dX7_append_65 fl_X7_24 (by decide) rfl (by decide) (by decide) rfl ?_
      cases h
      exact ev_iret dX7_append_68 rfl rfl ⟨rfl, rfl⟩
    · have h := if_f c2 h
      refine ev_aload_n 0 dX7_append_24 rfl rfl ?_
      refine ev_getR (r := 62) dX7_append_25 fl_X7_9 (by decide) rfl (by decide) (by decide) rfl ?_
      refine ev_aload_n 0 dX7_append_28 rfl rfl ?_
      refine ev_getI dX7_append_29 fl_X7_24 (by decide) rfl (by decide) (by decide) rfl ?_
      refine ev_iload 3 dX7_append_32 rfl ?_
      refine ev_iadd dX7_append_34 ?_
      refine ev_lload_n 1 dX7_append_35 rfl rfl ?_
      refine ev_bipush (v := 8) dX7_append_36 (by decide) ?_
      refine ev_iload 3 dX7_append_38 rfl ?_
      refine ev_imul dX7_append_40 ?_
      refine ev_lshr dX7_append_41 ?_
      refine ev_ldc2 dX7_append_42 kc_X7_37 ?_
      refine ev_land dX7_append_45 ?_
      refine ev_l2i dX7_append_46 ?_
      obtain ⟨c3, h⟩ := if_c h
      refine ev_iastc 160 dX7_append_47 (by decide) rfl rfl (by decide) c3 ?_
      refine ev_iinc (v := x4 + 1) (ls' := [(4, .int (x4 + 1)), (0, .ref 61), (1, .long y1), (3, .int x3)]) 3 dX7_append_48 rfl rfl (by decide) rfl ?_
      refine ev_goto (tgt := 18) dX7_append_51 (by decide) ?_
      refine ev_pick [1, 2, 3, 0] (ls' := [(0, .ref 61), (1, .long y1), (3, .int x3), (4, .int (x4 + 1))]) rfl ?_
      exact ih x3 (x4 + 1) _ q h
def f_X7_append (n : Nat) (y1 : Int64) (x3 : Int32) (A : Mem) : Option (Int32 × Mem) :=
  if ((A 61 4) + x3) ≤ ((160 : Int32)) then
    g_X7_append_18 n y1 n x3 ((0 : Int32)) A
  else
    some ((-5 : Int32), A)
set_option maxRecDepth 100000 in
set_option maxHeartbeats 4000000 in
theorem c_X7_append (n : Nat) (y1 : Int64) (x3 : Int32) (A : Mem) (q : Int32 × Mem) (h : f_X7_append n y1 x3 A = some q) : Ct yX7_append cX7_append 5 (some .int) 0 [.ref 61, .long y1, .int x3] A (RI q) := by
  unfold f_X7_append at h
  refine ct_of (by decide) (Nat.le_of_ble_eq_true rfl) ?_
  show Ev cX7_append 5 RX7 (some .int) 0 none 0 [(0, .ref 61), (1, .long y1), (3, .int x3)] [] A (RI q)
  refine ev_aload_n 0 dX7_append_0 rfl rfl ?_
  refine ev_getI dX7_append_1 fl_X7_24 (by decide) rfl (by decide) (by decide) rfl ?_
  refine ev_iload_n 2 dX7_append_4 rfl rfl ?_
  refine ev_iadd dX7_append_5 ?_
  refine ev_sipush (v := 160) dX7_append_6 (by decide) ?_
  refine ev_icmp_le (tgt := 15) dX7_append_9 (by decide) (fun c1 => ?_) (fun c1 => ?_)
  · have h := if_t c1 h
    refine ev_iconst (v := 0) dX7_append_15 (by decide) ?_
    refine ev_istore (ls' := [(4, .int ((0 : Int32))), (0, .ref 61), (1, .long y1), (3, .int x3)]) dX7_append_16 (by decide) rfl ?_
    refine ev_pick [1, 2, 3, 0] (ls' := [(0, .ref 61), (1, .long y1), (3, .int x3), (4, .int ((0 : Int32)))]) rfl ?_
    exact (l_X7_append_18 n y1  n) x3 ((0 : Int32)) _ q h
  · have h := if_f c1 h
    refine ev_bipush (v := -5) dX7_append_12 (by decide) ?_
    cases h
    exact ev_iret dX7_append_14 rfl rfl ⟨rfl, rfl⟩
def f_X9_write (n : Nat) (y1 : Int64) (x3 : Int32) (A : Mem) : Option (Int32 × Mem) :=
  if x3 < ((1 : Int32)) then
    some ((-3 : Int32), A)
  else
    if x3 ≤ ((8 : Int32)) then
      (f_X7_append n y1 x3 A).bind fun q3 =>
      some (q3.1, q3.2)
    else
      some ((-3 : Int32), A)
set_option maxRecDepth 100000 in
set_option maxHeartbeats 4000000 in
theorem c_X9_write (n : Nat) (y1 : Int64) (x3 : Int32) (A : Mem) (q : Int32 × Mem) (h : f_X9_write n y1 x3 A = some q) : Ct yX9_write cX9_write 4 (some .int) 1 [.ref 0, .long y1, .int x3] A (RI q) := by
  unfold f_X9_write at h
  refine ct_of (by decide) (Nat.le_of_ble_eq_true rfl) ?_
  show Ev cX9_write 4 RX9 (some .int) 1 none 0 [(0, .ref 0), (1, .long y1), (3, .int x3)] [] A (RI q)
  refine ev_iload_n 2 dX9_write_0 rfl rfl ?_
  refine ev_iconst (v := 1) dX9_write_1 (by decide) ?_
  refine ev_icmp_lt (tgt := 11) dX9_write_2 (by decide) (fun c1 => ?_) (fun c1 => ?_)
  · have h := if_t c1 h
    refine ev_bipush (v := -3) dX9_write_11 (by decide) ?_
    cases h
    exact ev_iret dX9_write_13 rfl rfl ⟨rfl, rfl⟩
  · have h := if_f c1 h
    refine ev_iload_n 2 dX9_write_5 rfl rfl ?_
    refine ev_bipush (v := 8) dX9_write_6 (by decide) ?_
    refine ev_icmp_le (tgt := 14) dX9_write_8 (by decide) (fun c2 => ?_) (fun c2 => ?_)
    · have h := if_t c2 h
      refine ev_aload_n 0 dX9_write_14 rfl rfl ?_
      refine ev_getR (r := 61) dX9_write_15 fl_X9_48 (by decide) rfl (by decide) (by decide) rfl ?_
      refine ev_lload_n 1 dX9_write_18 rfl rfl ?_
      refine ev_iload_n 2 dX9_write_19 rfl rfl ?_
      obtain ⟨q3, e4, h⟩ := bd_c h
      refine ev_callVi (av := [.long y1, .int x3]) dX9_write_20 (c_X7_append n y1 x3  A q3 e4) mk_X7_append lk_X9_122 iv_X7_append (Or.inl ⟨7, _, by decide, rfl, by decide, rfl, rfl⟩) rfl (by decide) (by decide) (Nat.le_of_ble_eq_true rfl) rfl ?_
      cases h
      exact ev_iret dX9_write_23 rfl rfl ⟨rfl, rfl⟩
    · have h := if_f c2 h
      refine ev_bipush (v := -3) dX9_write_11 (by decide) ?_
      cases h
      exact ev_iret dX9_write_13 rfl rfl ⟨rfl, rfl⟩
def f_X7_empty (n : Nat) (A : Mem) : Option (Int32 × Mem) :=
  some (A 61 4, st2 A 61 4 ((0 : Int32)))
set_option maxRecDepth 100000 in
set_option maxHeartbeats 4000000 in
theorem c_X7_empty (n : Nat) (A : Mem) (q : Int32 × Mem) (h : f_X7_empty n  A = some q) : Ct yX7_empty cX7_empty 2 (some .int) 0 [.ref 61] A (RI q) := by
  unfold f_X7_empty at h
  refine ct_of (by decide) (Nat.le_of_ble_eq_true rfl) ?_
  show Ev cX7_empty 2 RX7 (some .int) 0 none 0 [(0, .ref 61)] [] A (RI q)
  refine ev_aload_n 0 dX7_empty_0 rfl rfl ?_
  refine ev_getI dX7_empty_1 fl_X7_24 (by decide) rfl (by decide) (by decide) rfl ?_
  refine ev_istore_n (ls' := [(1, .int (A 61 4)), (0, .ref 61)]) dX7_empty_4 rfl (by decide) rfl ?_
  refine ev_aload_n 1 dX7_empty_5 rfl rfl ?_
  refine ev_iconst (v := 0) dX7_empty_6 (by decide) ?_
  refine ev_put2 dX7_empty_7 fl_X7_24 pk_7_4 (by decide) rfl (by decide) (by decide) rfl ?_
  refine ev_iload_n 0 dX7_empty_10 rfl rfl ?_
  cases h
  exact ev_iret dX7_empty_11 rfl rfl ⟨rfl, rfl⟩
def f_X9_erase (n : Nat) (A : Mem) : Option (Int32 × Mem) :=
  (f_X7_empty n  A).bind fun q1 =>
  some (q1.1, q1.2)
set_option maxRecDepth 100000 in
set_option maxHeartbeats 4000000 in
theorem c_X9_erase (n : Nat) (A : Mem) (q : Int32 × Mem) (h : f_X9_erase n  A = some q) : Ct yX9_erase cX9_erase 1 (some .int) 1 [.ref 0] A (RI q) := by
  unfold f_X9_erase at h
  refine ct_of (by decide) (Nat.le_of_ble_eq_true rfl) ?_
  show Ev cX9_erase 1 RX9 (some .int) 1 none 0 [(0, .ref 0)] [] A (RI q)
  refine ev_aload_n 0 dX9_erase_0 rfl rfl ?_
  refine ev_getR (r := 61) dX9_erase_1 fl_X9_48 (by decide) rfl (by decide) (by decide) rfl ?_
  obtain ⟨q1, e2, h⟩ := bd_c h
  refine ev_callVi (av := []) dX9_erase_4 (c_X7_empty n   A q1 e2) mk_X7_empty lk_X9_126 iv_X7_empty (Or.inl ⟨7, _, by decide, rfl, by decide, rfl, rfl⟩) rfl (by decide) (by decide) (Nat.le_of_ble_eq_true rfl) rfl ?_
  cases h
  exact ev_iret dX9_erase_7 rfl rfl ⟨rfl, rfl⟩
def f_X9_refuseDayOf (n : Nat) (x0 : Int32) (x1 : Int32) (x2 : Int32) (A : Mem) : Option (Int32 × Mem) :=
  (f_X9_isBelow n x0 x1 A).bind fun q1 =>
  if q1.1 = 0 then
    some ((-2 : Int32), q1.2)
  else
    (f_X9_isBelow n x2 ((61 : Int32)) q1.2).bind fun q4 =>
    if q4.1 = 0 then
      some ((-3 : Int32), q4.2)
    else
      some ((0 : Int32), q4.2)
set_option maxRecDepth 100000 in
set_option maxHeartbeats 4000000 in
theorem c_X9_refuseDayOf (n : Nat) (x0 : Int32) (x1 : Int32) (x2 : Int32) (A : Mem) (q : Int32 × Mem) (h : f_X9_refuseDayOf n x0 x1 x2 A = some q) : Ct yX9_refuseDayOf cX9_refuseDayOf 3 (some .int) 1 [.int x0, .int x1, .int x2] A (RI q) := by
  unfold f_X9_refuseDayOf at h
  refine ct_of (by decide) (Nat.le_of_ble_eq_true rfl) ?_
  show Ev cX9_refuseDayOf 3 RX9 (some .int) 1 none 0 [(0, .int x0), (1, .int x1), (2, .int x2)] [] A (RI q)
  refine ev_iload_n 0 dX9_refuseDayOf_0 rfl rfl ?_
  refine ev_iload_n 1 dX9_refuseDayOf_1 rfl rfl ?_
  obtain ⟨q1, e2, h⟩ := bd_c h
  refine ev_callSi (av := [.int x0, .int x1]) dX9_refuseDayOf_2 (c_X9_isBelow n x0 x1  A q1 e2) mk_X9_isBelow lk_X9_93 is_X9_isBelow rfl (by decide) (by decide) (Nat.le_of_ble_eq_true rfl) rfl ?_
  refine ev_if_ne (tgt := 11) dX9_refuseDayOf_5 (by decide) (fun c3 => ?_) (fun c3 => ?_)
  · have h := if_f c3 h
    refine ev_iload_n 2 dX9_refuseDayOf_11 rfl rfl ?_
    refine ev_bipush (v := 61) dX9_refuseDayOf_12 (by decide) ?_
    obtain ⟨q4, e5, h⟩ := bd_c h
    refine ev_callSi (av := [.int x2, .int ((61 : Int32))]) dX9_refuseDayOf_14 (c_X9_isBelow n x2 ((61 : Int32))  q1.2 q4 e5) mk_X9_isBelow lk_X9_93 is_X9_isBelow rfl (by decide) (by decide) (Nat.le_of_ble_eq_true rfl) rfl ?_
    refine ev_if_eq (tgt := 24) dX9_refuseDayOf_17 (by decide) (fun c6 => ?_) (fun c6 => ?_)
    · have h := if_t c6 h
      refine ev_bipush (v := -3) dX9_refuseDayOf_24 (by decide) ?_
      cases h
      exact ev_iret dX9_refuseDayOf_26 rfl rfl ⟨rfl, rfl⟩
    · have h := if_f c6 h
      refine ev_iconst (v := 0) dX9_refuseDayOf_20 (by decide) ?_
      refine ev_goto (tgt := 26) dX9_refuseDayOf_21 (by decide) ?_
      cases h
      exact ev_iret dX9_refuseDayOf_26 rfl rfl ⟨rfl, rfl⟩
  · have h := if_t c3 h
    refine ev_bipush (v := -2) dX9_refuseDayOf_8 (by decide) ?_
    cases h
    exact ev_iret dX9_refuseDayOf_10 rfl rfl ⟨rfl, rfl⟩
def g_X0_placeOn_7 (n : Nat) (p0 : Nat) : Nat → Int32 → Int32 → Mem → Option (Int32 × Mem)
  | 0, _, _, _ => none
  | m + 1, x1, x2, A =>
    if x2 < 0 then
      some (A p0 3, A)
    else
      if ¬ x2 < 0 ∧ (x2).toNatClampNeg < 8 then
        if x1 < (A (rf p0 1) (x2).toNatClampNeg) then
          g_X0_placeOn_7 n p0 m x1 (x2 + (-1)) A
        else
          if (A (rf p0 2) (x2).toNatClampNeg) < x1 then
            g_X0_placeOn_7 n p0 m x1 (x2 + (-1)) A
          else
            some (A (rf p0 0) (x2).toNatClampNeg, A)
      else
        none
set_option maxRecDepth 100000 in
set_option maxHeartbeats 4000000 in
theorem l_X0_placeOn_7 (n : Nat) (p0 : Nat) (hp0 : p0 < NT) (hk0 : kd p0 = 0) : ∀ (m : Nat) (x1 : Int32) (x2 : Int32) (A : Mem) (q : Int32 × Mem), g_X0_placeOn_7 n p0 m x1 x2 A = some q → Ev cX0_placeOn 3 RX0 (some .int) 0 none 7 [(0, .ref p0), (1, .int x1), (2, .int x2)] [] A (RI q) := by
  intro m
  induction m with
  | zero => intro x1 x2 A q h; exact absurd h (by simp [g_X0_placeOn_7])
  | succ m ih =>
    intro x1 x2 A q h
    rw [g_X0_placeOn_7] at h
    refine ev_iload_n 2 dX0_placeOn_7 rfl rfl ?_
    refine ev_if_lt (tgt := 44) dX0_placeOn_8 (by decide) (fun c1 => ?_) (fun c1 => ?_)
    · have h := if_t c1 h
      refine ev_aload_n 0 dX0_placeOn_44 rfl rfl ?_
      refine ev_getI dX0_placeOn_45 fl_X0_21 hp0 hk0 (sl_0_3 p0 hp0 hk0) (by decide) (sn_0_3 p0 hp0 hk0) ?_
      cases h
      exact ev_iret dX0_placeOn_48 rfl rfl ⟨rfl, rfl⟩
    · have h := if_f c1 h
      refine ev_aload_n 0 dX0_placeOn_11 rfl rfl ?_
      refine ev_getR (r := rf p0 1) dX0_placeOn_12 fl_X0_15 hp0 hk0 (sl_0_1 p0 hp0 hk0) (by decide) (sr_0_1 p0 hp0 hk0) ?_
      refine ev_iload_n 2 dX0_placeOn_15 rfl rfl ?_
      obtain ⟨c2, h⟩ := if_c h
      refine ev_ialdc 8 dX0_placeOn_16 (sa_0_1 p0 hp0 hk0).1 (sa_0_1 p0 hp0 hk0).2.1 (sa_0_1 p0 hp0 hk0).2.2 (by decide) c2 ?_
      refine ev_iload_n 1 dX0_placeOn_17 rfl rfl ?_
      refine ev_icmp_gt (tgt := 38) dX0_placeOn_18 (by decide) (fun c3 => ?_) (fun c3 => ?_)
      · have h := if_t c3 h
        refine ev_iinc (v := x2 + (-1)) (ls' := [(2, .int (x2 + (-1))), (0, .ref p0), (1, .int x1)]) 2 dX0_placeOn_38 rfl rfl (by decide) rfl ?_
        refine ev_goto (tgt := 7) dX0_placeOn_41 (by decide) ?_
        refine ev_pick [1, 2, 0] (ls' := [(0, .ref p0), (1, .int x1), (2, .int (x2 + (-1)))]) rfl ?_
        exact ih x1 (x2 + (-1)) _ q h
      · have h := if_f c3 h
        refine ev_iload_n 1 dX0_placeOn_21 rfl rfl ?_
        refine ev_aload_n 0 dX0_placeOn_22 rfl rfl ?_
        refine ev_getR (r := rf p0 2) dX0_placeOn_23 fl_X0_18 hp0 hk0 (sl_0_2 p0 hp0 hk0) (by decide) (sr_0_2 p0 hp0 hk0) ?_
        refine ev_iload_n 2 dX0_placeOn_26 rfl rfl ?_
        refine ev_ialdc 8 dX0_placeOn_27 (sa_0_2 p0 hp0 hk0).1 (sa_0_2 p0 hp0 hk0).2.1 (sa_0_2 p0 hp0 hk0).2.2 (by decide) c2 ?_
        refine ev_icmp_gt (tgt := 38) dX0_placeOn_28 (by decide) (fun c4 => ?_) (fun c4 => ?_)
        · have h := if_t c4 h
          refine ev_iinc (v := x2 + (-1)) (ls' := [(2, .int (x2 + (-1))), (0, .ref p0), (1, .int x1)]) 2 dX0_placeOn_38 rfl rfl (by decide) rfl ?_
          refine ev_goto (tgt := 7) dX0_placeOn_41 (by decide) ?_
          refine ev_pick [1, 2, 0] (ls' := [(0, .ref p0), (1, .int x1), (2, .int (x2 + (-1)))]) rfl ?_
          exact ih x1 (x2 + (-1)) _ q h
        · have h := if_f c4 h
          refine ev_aload_n 0 dX0_placeOn_31 rfl rfl ?_
          refine ev_getR (r := rf p0 0) dX0_placeOn_32 fl_X0_9 hp0 hk0 (sl_0_0 p0 hp0 hk0) (by decide) (sr_0_0 p0 hp0 hk0) ?_
          refine ev_iload_n 2 dX0_placeOn_35 rfl rfl ?_
          refine ev_ialdc 8 dX0_placeOn_36 (sa_0_0 p0 hp0 hk0).1 (sa_0_0 p0 hp0 hk0).2.1 (sa_0_0 p0 hp0 hk0).2.2 (by decide) c2 ?_
          cases h
          exact ev_iret dX0_placeOn_37 rfl rfl ⟨rfl, rfl⟩
def f_X0_placeOn (n : Nat) (p0 : Nat) (x1 : Int32) (A : Mem) : Option (Int32 × Mem) :=
  g_X0_placeOn_7 n p0 n x1 ((A p0 4) - ((1 : Int32))) A
set_option maxRecDepth 100000 in
set_option maxHeartbeats 4000000 in
theorem c_X0_placeOn (n : Nat) (p0 : Nat) (x1 : Int32) (hp0 : p0 < NT) (hk0 : kd p0 = 0) (A : Mem) (q : Int32 × Mem) (h : f_X0_placeOn n p0 x1 A = some q) : Ct yX0_placeOn cX0_placeOn 3 (some .int) 0 [.ref p0, .int x1] A (RI q) := by
  unfold f_X0_placeOn at h
  refine ct_of (by decide) (Nat.le_of_ble_eq_true rfl) ?_
  show Ev cX0_placeOn 3 RX0 (some .int) 0 none 0 [(0, .ref p0), (1, .int x1)] [] A (RI q)
  refine ev_aload_n 0 dX0_placeOn_0 rfl rfl ?_
  refine ev_getI dX0_placeOn_1 fl_X0_25 hp0 hk0 (sl_0_4 p0 hp0 hk0) (by decide) (sn_0_4 p0 hp0 hk0) ?_
  refine ev_iconst (v := 1) dX0_placeOn_4 (by decide) ?_
  refine ev_isub dX0_placeOn_5 ?_
  refine ev_istore_n (ls' := [(2, .int ((A p0 4) - ((1 : Int32)))), (0, .ref p0), (1, .int x1)]) dX0_placeOn_6 rfl (by decide) rfl ?_
  refine ev_pick [1, 2, 0] (ls' := [(0, .ref p0), (1, .int x1), (2, .int ((A p0 4) - ((1 : Int32))))]) rfl ?_
  exact (l_X0_placeOn_7 n p0 hp0 hk0 n) x1 ((A p0 4) - ((1 : Int32))) _ q h
def f_X9_where (n : Nat) (x1 : Int32) (x2 : Int32) (A : Mem) : Option (Int32 × Mem) :=
  (f_X9_refuseDayOf n x1 ((6 : Int32)) x2 A).bind fun q1 =>
  if q1.1 = 0 then
    if ¬ x1 < 0 ∧ (x1).toNatClampNeg < 6 then
      (f_X0_placeOn n (rf 25 (x1).toNatClampNeg) x2 q1.2).bind fun q6 =>
      some (q6.1, q6.2)
    else
      none
  else
    some (q1.1, q1.2)
set_option maxRecDepth 100000 in
set_option maxHeartbeats 4000000 in
theorem c_X9_where (n : Nat) (x1 : Int32) (x2 : Int32) (A : Mem) (q : Int32 × Mem) (h : f_X9_where n x1 x2 A = some q) : Ct yX9_where cX9_where 4 (some .int) 2 [.ref 0, .int x1, .int x2] A (RI q) := by
  unfold f_X9_where at h
  refine ct_of (by decide) (Nat.le_of_ble_eq_true rfl) ?_
  show Ev cX9_where 4 RX9 (some .int) 2 none 0 [(0, .ref 0), (1, .int x1), (2, .int x2)] [] A (RI q)
  refine ev_iload_n 1 dX9_where_0 rfl rfl ?_
  refine ev_bipush (v := 6) dX9_where_1 (by decide) ?_
  refine ev_iload_n 2 dX9_where_3 rfl rfl ?_
  obtain ⟨q1, e2, h⟩ := bd_c h
  refine ev_callSi (av := [.int x1, .int ((6 : Int32)), .int x2]) dX9_where_4 (c_X9_refuseDayOf n x1 ((6 : Int32)) x2  A q1 e2) mk_X9_refuseDayOf lk_X9_141 is_X9_refuseDayOf rfl (by decide) (by decide) (Nat.le_of_ble_eq_true rfl) rfl ?_
  refine ev_istore_n (ls' := [(3, .int q1.1), (0, .ref 0), (1, .int x1), (2, .int x2)]) dX9_where_7 rfl (by decide) rfl ?_
  refine ev_iload_n 0 dX9_where_8 rfl rfl ?_
  refine ev_if_eq (tgt := 16) dX9_where_9 (by decide) (fun c3 => ?_) (fun c3 => ?_)
  · have h := if_t c3 h
    refine ev_aload_n 1 dX9_where_16 rfl rfl ?_
    refine ev_getR (r := 25) dX9_where_17 fl_X9_41 (by decide) rfl (by decide) (by decide) rfl ?_
    refine ev_iload_n 2 dX9_where_20 rfl rfl ?_
    obtain ⟨c4, h⟩ := if_c h
    have e5 := el_25 _ c4.2
    refine ev_aaldc 6 dX9_where_21 (by decide) rfl (Or.inl rfl) rfl (by decide) c4 e5.1 ?_
    refine ev_iload_n 3 dX9_where_22 rfl rfl ?_
    obtain ⟨q6, e7, h⟩ := bd_c h
    refine ev_callVi (av := [.int x2]) dX9_where_23 (c_X0_placeOn n (rf 25 (x1).toNatClampNeg) x2 e5.2.1 e5.2.2 q1.2 q6 e7) mk_X0_placeOn lk_X9_144 iv_X0_placeOn (Or.inl ⟨0, _, e5.2.1, e5.2.2, by decide, rfl, rfl⟩) rfl (by decide) (by decide) (Nat.le_of_ble_eq_true rfl) rfl ?_
    cases h
    exact ev_iret dX9_where_26 rfl rfl ⟨rfl, rfl⟩
  · have h := if_f c3 h
    refine ev_iload_n 0 dX9_where_12 rfl rfl ?_
    refine ev_goto (tgt := 26) dX9_where_13 (by decide) ?_
    cases h
    exact ev_iret dX9_where_26 rfl rfl ⟨rfl, rfl⟩
def f_X8_seenBy (n : Nat) (p1 : Nat) (x2 : Int32) (A : Mem) : Option (Int32 × Mem) :=
  (f_X0_placeOn n p1 x2 A).bind fun q1 =>
  if ¬ q1.1 < 0 ∧ (q1.1).toNatClampNeg < 8 then
    some (q1.2 2 (q1.1).toNatClampNeg, q1.2)
  else
    none
set_option maxRecDepth 100000 in
set_option maxHeartbeats 4000000 in
theorem c_X8_seenBy (n : Nat) (p1 : Nat) (x2 : Int32) (hp1 : p1 < NT) (hk1 : kd p1 = 0) (A : Mem) (q : Int32 × Mem) (h : f_X8_seenBy n p1 x2 A = some q) : Ct yX8_seenBy cX8_seenBy 3 (some .int) 1 [.ref 1, .ref p1, .int x2] A (RI q) := by
  unfold f_X8_seenBy at h
  refine ct_of (by decide) (Nat.le_of_ble_eq_true rfl) ?_
  show Ev cX8_seenBy 3 RX8 (some .int) 1 none 0 [(0, .ref 1), (1, .ref p1), (2, .int x2)] [] A (RI q)
  refine ev_aload_n 0 dX8_seenBy_0 rfl rfl ?_
  refine ev_getR (r := 2) dX8_seenBy_1 fl_X8_9 (by decide) rfl (by decide) (by decide) rfl ?_
  refine ev_aload_n 1 dX8_seenBy_4 rfl rfl ?_
  refine ev_iload_n 2 dX8_seenBy_5 rfl rfl ?_
  obtain ⟨q1, e2, h⟩ := bd_c h
  refine ev_callVi (av := [.int x2]) dX8_seenBy_6 (c_X0_placeOn n p1 x2 hp1 hk1 A q1 e2) mk_X0_placeOn lk_X8_52 iv_X0_placeOn (Or.inl ⟨0, _, hp1, hk1, by decide, rfl, rfl⟩) rfl (by decide) (by decide) (Nat.le_of_ble_eq_true rfl) rfl ?_
  obtain ⟨c3, h⟩ := if_c h
  refine ev_ialdc 8 dX8_seenBy_9 (by decide) rfl rfl (by decide) c3 ?_
  cases h
  exact ev_iret dX8_seenBy_10 rfl rfl ⟨rfl, rfl⟩
def f_X9_saw (n : Nat) (x1 : Int32) (x2 : Int32) (A : Mem) : Option (Int32 × Mem) :=
  (f_X9_refuseDayOf n x1 ((6 : Int32)) x2 A).bind fun q1 =>
  if q1.1 = 0 then
    if ¬ x1 < 0 ∧ (x1).toNatClampNeg < 6 then
      (f_X8_seenBy n (rf 25 (x1).toNatClampNeg) x2 q1.2).bind fun q6 =>
      some (q6.1, q6.2)
    else
      none
  else
    some (q1.1, q1.2)
set_option maxRecDepth 100000 in
set_option maxHeartbeats 4000000 in
theorem c_X9_saw (n : Nat) (x1 : Int32) (x2 : Int32) (A : Mem) (q : Int32 × Mem) (h : f_X9_saw n x1 x2 A = some q) : Ct yX9_saw cX9_saw 4 (some .int) 2 [.ref 0, .int x1, .int x2] A (RI q) := by
  unfold f_X9_saw at h
  refine ct_of (by decide) (Nat.le_of_ble_eq_true rfl) ?_
  show Ev cX9_saw 4 RX9 (some .int) 2 none 0 [(0, .ref 0), (1, .int x1), (2, .int x2)] [] A (RI q)
  refine ev_iload_n 1 dX9_saw_0 rfl rfl ?_
  refine ev_bipush (v := 6) dX9_saw_1 (by decide) ?_
  refine ev_iload_n 2 dX9_saw_3 rfl rfl ?_
  obtain ⟨q1, e2, h⟩ := bd_c h
  refine ev_callSi (av := [.int x1, .int ((6 : Int32)), .int x2]) dX9_saw_4 (c_X9_refuseDayOf n x1 ((6 : Int32)) x2  A q1 e2) mk_X9_refuseDayOf lk_X9_141 is_X9_refuseDayOf rfl (by decide) (by decide) (Nat.le_of_ble_eq_true rfl) rfl ?_
  refine ev_istore_n (ls' := [(3, .int q1.1), (0, .ref 0), (1, .int x1), (2, .int x2)]) dX9_saw_7 rfl (by decide) rfl ?_
  refine ev_iload_n 0 dX9_saw_8 rfl rfl ?_
  refine ev_if_eq (tgt := 16) dX9_saw_9 (by decide) (fun c3 => ?_) (fun c3 => ?_)
  · have h := if_t c3 h
    refine ev_aload_n 1 dX9_saw_16 rfl rfl ?_
    refine ev_getR (r := 1) dX9_saw_17 fl_X9_37 (by decide) rfl (by decide) (by decide) rfl ?_
    refine ev_aload_n 1 dX9_saw_20 rfl rfl ?_
    refine ev_getR (r := 25) dX9_saw_21 fl_X9_41 (by decide) rfl (by decide) (by decide) rfl ?_
    refine ev_iload_n 2 dX9_saw_24 rfl rfl ?_
    obtain ⟨c4, h⟩ := if_c h
    have e5 := el_25 _ c4.2
    refine ev_aaldc 6 dX9_saw_25 (by decide) rfl (Or.inl rfl) rfl (by decide) c4 e5.1 ?_
    refine ev_iload_n 3 dX9_saw_26 rfl rfl ?_
    obtain ⟨q6, e7, h⟩ := bd_c h
    refine ev_callVi (av := [.ref (rf 25 (x1).toNatClampNeg), .int x2]) dX9_saw_27 (c_X8_seenBy n (rf 25 (x1).toNatClampNeg) x2 e5.2.1 e5.2.2 q1.2 q6 e7) mk_X8_seenBy lk_X9_147 iv_X8_seenBy (Or.inl ⟨8, _, by decide, rfl, by decide, rfl, rfl⟩) rfl (by decide) (by decide) (Nat.le_of_ble_eq_true rfl) rfl ?_
    cases h
    exact ev_iret dX9_saw_30 rfl rfl ⟨rfl, rfl⟩
  · have h := if_f c3 h
    refine ev_iload_n 0 dX9_saw_12 rfl rfl ?_
    refine ev_goto (tgt := 30) dX9_saw_13 (by decide) ?_
    cases h
    exact ev_iret dX9_saw_30 rfl rfl ⟨rfl, rfl⟩
def f_X9_post (n : Nat) (x1 : Int32) (x2 : Int32) (A : Mem) : Option (Int32 × Mem) :=
  (f_X9_isBelow n x1 ((3 : Int32)) A).bind fun q1 =>
  if q1.1 = 0 then
    some ((-2 : Int32), q1.2)
  else
    if x2 < 0 then
      some ((-3 : Int32), q1.2)
    else
      if x2 ≤ ((20 : Int32)) then
        if ¬ x1 < 0 ∧ (x1).toNatClampNeg < 3 then
          some (q1.2 9 (x1).toNatClampNeg, st2 q1.2 9 (x1).toNatClampNeg x2)
        else
          none
      else
        some ((-3 : Int32), q1.2)
set_option maxRecDepth 100000 in
set_option maxHeartbeats 4000000 in
theorem c_X9_post (n : Nat) (x1 : Int32) (x2 : Int32) (A : Mem) (q : Int32 × Mem) (h : f_X9_post n x1 x2 A = some q) : Ct yX9_post cX9_post 4 (some .int) 1 [.ref 0, .int x1, .int x2] A (RI q) := by
  unfold f_X9_post at h
  refine ct_of (by decide) (Nat.le_of_ble_eq_true rfl) ?_
  show Ev cX9_post 4 RX9 (some .int) 1 none 0 [(0, .ref 0), (1, .int x1), (2, .int x2)] [] A (RI q)
  refine ev_iload_n 1 dX9_post_0 rfl rfl ?_
  refine ev_iconst (v := 3) dX9_post_1 (by decide) ?_
  obtain ⟨q1, e2, h⟩ := bd_c h
  refine ev_callSi (av := [.int x1, .int ((3 : Int32))]) dX9_post_2 (c_X9_isBelow n x1 ((3 : Int32))  A q1 e2) mk_X9_isBelow lk_X9_93 is_X9_isBelow rfl (by decide) (by decide) (Nat.le_of_ble_eq_true rfl) rfl ?_
  refine ev_if_ne (tgt := 11) dX9_post_5 (by decide) (fun c3 => ?_) (fun c3 => ?_)
  · have h := if_f c3 h
    refine ev_iload_n 2 dX9_post_11 rfl rfl ?_
    refine ev_if_lt (tgt := 21) dX9_post_12 (by decide) (fun c4 => ?_) (fun c4 => ?_)
    · have h := if_t c4 h
      refine ev_bipush (v := -3) dX9_post_21 (by decide) ?_
      cases h
      exact ev_iret dX9_post_23 rfl rfl ⟨rfl, rfl⟩
    · have h := if_f c4 h
      refine ev_iload_n 2 dX9_post_15 rfl rfl ?_
      refine ev_bipush (v := 20) dX9_post_16 (by decide) ?_
      refine ev_icmp_le (tgt := 24) dX9_post_18 (by decide) (fun c5 => ?_) (fun c5 => ?_)
      · have h := if_t c5 h
        refine ev_aload_n 0 dX9_post_24 rfl rfl ?_
        refine ev_getR (r := 9) dX9_post_25 fl_X9_52 (by decide) rfl (by decide) (by decide) rfl ?_
        refine ev_iload_n 1 dX9_post_28 rfl rfl ?_
        obtain ⟨c6, h⟩ := if_c h
        refine ev_ialdc 3 dX9_post_29 (by decide) rfl rfl (by decide) c6 ?_
        refine ev_istore_n (ls' := [(3, .int (q1.2 9 (x1).toNatClampNeg)), (0, .ref 0), (1, .int x1), (2, .int x2)]) dX9_post_30 rfl (by decide) rfl ?_
        refine ev_aload_n 1 dX9_post_31 rfl rfl ?_
        refine ev_getR (r := 9) dX9_post_32 fl_X9_52 (by decide) rfl (by decide) (by decide) rfl ?_
        refine ev_iload_n 2 dX9_post_35 rfl rfl ?_
        refine ev_iload_n 3 dX9_post_36 rfl rfl ?_
        refine ev_iastc 3 dX9_post_37 (by decide) rfl rfl (by decide) c6 ?_
        refine ev_iload_n 0 dX9_post_38 rfl rfl ?_
        cases h
        exact ev_iret dX9_post_39 rfl rfl ⟨rfl, rfl⟩
      · have h := if_f c5 h
        refine ev_bipush (v := -3) dX9_post_21 (by decide) ?_
        cases h
        exact ev_iret dX9_post_23 rfl rfl ⟨rfl, rfl⟩
  · have h := if_t c3 h
    refine ev_bipush (v := -2) dX9_post_8 (by decide) ?_
    cases h
    exact ev_iret dX9_post_10 rfl rfl ⟨rfl, rfl⟩
def f_X9_refuseLetter (n : Nat) (x0 : Int32) (x1 : Int32) (x2 : Int32) (x3 : Int32) (x4 : Int32) (x5 : Int32) (x6 : Int32) (A : Mem) : Option (Int32 × Mem) :=
  (f_X9_isBelow n x0 ((6 : Int32)) A).bind fun q1 =>
  if q1.1 = 0 then
    some ((-2 : Int32), q1.2)
  else
    (f_X9_isBelow n x2 ((3 : Int32)) q1.2).bind fun q4 =>
    if q4.1 = 0 then
      some ((-2 : Int32), q4.2)
    else
      (f_X9_refuseTopic n x3 x4 x5 q4.2).bind fun q7 =>
      if q7.1 = 0 then
        (f_X9_isBelow n x1 ((61 : Int32)) q7.2).bind fun q10 =>
        if q10.1 = 0 then
          some ((-3 : Int32), q10.2)
        else
          (f_X9_isBelow n x6 ((10 : Int32)) q10.2).bind fun q13 =>
          if q13.1 = 0 then
            some ((-3 : Int32), q13.2)
          else
            some (q7.1, q13.2)
      else
        some (q7.1, q7.2)
set_option maxRecDepth 100000 in
set_option maxHeartbeats 4000000 in
theorem c_X9_refuseLetter (n : Nat) (x0 : Int32) (x1 : Int32) (x2 : Int32) (x3 : Int32) (x4 : Int32) (x5 : Int32) (x6 : Int32) (A : Mem) (q : Int32 × Mem) (h : f_X9_refuseLetter n x0 x1 x2 x3 x4 x5 x6 A = some q) : Ct yX9_refuseLetter cX9_refuseLetter 8 (some .int) 2 [.int x0, .int x1, .int x2, .int x3, .int x4, .int x5, .int x6] A (RI q) := by
  unfold f_X9_refuseLetter at h
  refine ct_of (by decide) (Nat.le_of_ble_eq_true rfl) ?_
  show Ev cX9_refuseLetter 8 RX9 (some .int) 2 none 0 [(0, .int x0), (1, .int x1), (2, .int x2), (3, .int x3), (4, .int x4), (5, .int x5), (6, .int x6)] [] A (RI q)
  refine ev_iload_n 0 dX9_refuseLetter_0 rfl rfl ?_
  refine ev_bipush (v := 6) dX9_refuseLetter_1 (by decide) ?_
  obtain ⟨q1, e2, h⟩ := bd_c h
  refine ev_callSi (av := [.int x0, .int ((6 : Int32))]) dX9_refuseLetter_3 (c_X9_isBelow n x0 ((6 : Int32))  A q1 e2) mk_X9_isBelow lk_X9_93 is_X9_isBelow rfl (by decide) (by decide) (Nat.le_of_ble_eq_true rfl) rfl ?_
  refine ev_if_eq (tgt := 17) dX9_refuseLetter_6 (by decide) (fun c3 => ?_) (fun c3 => ?_)
  · have h := if_t c3 h
    refine ev_bipush (v := -2) dX9_refuseLetter_17 (by decide) ?_
    cases h
    exact ev_iret dX9_refuseLetter_19 rfl rfl ⟨rfl, rfl⟩
  · have h := if_f c3 h
    refine ev_iload_n 2 dX9_refuseLetter_9 rfl rfl ?_
    refine ev_iconst (v := 3) dX9_refuseLetter_10 (by decide) ?_
    obtain ⟨q4, e5, h⟩ := bd_c h
    refine ev_callSi (av := [.int x2, .int ((3 : Int32))]) dX9_refuseLetter_11 (c_X9_isBelow n x2 ((3 : Int32))  q1.2 q4 e5) mk_X9_isBelow lk_X9_93 is_X9_isBelow rfl (by decide) (by decide) (Nat.le_of_ble_eq_true rfl) rfl ?_
    refine ev_if_ne (tgt := 20) dX9_refuseLetter_14 (by decide) (fun c6 => ?_) (fun c6 => ?_)
    · have h := if_f c6 h
      refine ev_iload_n 3 dX9_refuseLetter_20 rfl rfl ?_
      refine ev_iload 4 dX9_refuseLetter_21 rfl ?_
      refine ev_iload 5 dX9_refuseLetter_23 rfl ?_
      obtain ⟨q7, e8, h⟩ := bd_c h
      refine ev_callSi (av := [.int x3, .int x4, .int x5]) dX9_refuseLetter_25 (c_X9_refuseTopic n x3 x4 x5  q4.2 q7 e8) mk_X9_refuseTopic lk_X9_107 is_X9_refuseTopic rfl (by decide) (by decide) (Nat.le_of_ble_eq_true rfl) rfl ?_
      refine ev_istore (ls' := [(7, .int q7.1), (0, .int x0), (1, .int x1), (2, .int x2), (3, .int x3), (4, .int x4), (5, .int x5), (6, .int x6)]) dX9_refuseLetter_28 (by decide) rfl ?_
      refine ev_iload 0 dX9_refuseLetter_30 rfl ?_
      refine ev_if_ne (tgt := 59) dX9_refuseLetter_32 (by decide) (fun c9 => ?_) (fun c9 => ?_)
      · have h := if_f c9 h
        refine ev_iload 0 dX9_refuseLetter_59 rfl ?_
        cases h
        exact ev_iret dX9_refuseLetter_61 rfl rfl ⟨rfl, rfl⟩
      · have h := if_t c9 h
        refine ev_iload_n 2 dX9_refuseLetter_35 rfl rfl ?_
        refine ev_bipush (v := 61) dX9_refuseLetter_36 (by decide) ?_
        obtain ⟨q10, e11, h⟩ := bd_c h
        refine ev_callSi (av := [.int x1, .int ((61 : Int32))]) dX9_refuseLetter_38 (c_X9_isBelow n x1 ((61 : Int32))  q7.2 q10 e11) mk_X9_isBelow lk_X9_93 is_X9_isBelow rfl (by decide) (by decide) (Nat.le_of_ble_eq_true rfl) rfl ?_
        refine ev_if_eq (tgt := 54) dX9_refuseLetter_41 (by decide) (fun c12 => ?_) (fun c12 => ?_)
        · have h := if_t c12 h
          refine ev_bipush (v := -3) dX9_refuseLetter_54 (by decide) ?_
          refine ev_goto (tgt := 61) dX9_refuseLetter_56 (by decide) ?_
          cases h
          exact ev_iret dX9_refuseLetter_61 rfl rfl ⟨rfl, rfl⟩
        · have h := if_f c12 h
          refine ev_iload 7 dX9_refuseLetter_44 rfl ?_
          refine ev_bipush (v := 10) dX9_refuseLetter_46 (by decide) ?_
          obtain ⟨q13, e14, h⟩ := bd_c h
          refine ev_callSi (av := [.int x6, .int ((10 : Int32))]) dX9_refuseLetter_48 (c_X9_isBelow n x6 ((10 : Int32))  q10.2 q13 e14) mk_X9_isBelow lk_X9_93 is_X9_isBelow rfl (by decide) (by decide) (Nat.le_of_ble_eq_true rfl) rfl ?_
          refine ev_if_ne (tgt := 59) dX9_refuseLetter_51 (by decide) (fun c15 => ?_) (fun c15 => ?_)
          · have h := if_f c15 h
            refine ev_iload 0 dX9_refuseLetter_59 rfl ?_
            cases h
            exact ev_iret dX9_refuseLetter_61 rfl rfl ⟨rfl, rfl⟩
          · have h := if_t c15 h
            refine ev_bipush (v := -3) dX9_refuseLetter_54 (by decide) ?_
            refine ev_goto (tgt := 61) dX9_refuseLetter_56 (by decide) ?_
            cases h
            exact ev_iret dX9_refuseLetter_61 rfl rfl ⟨rfl, rfl⟩
    · have h := if_t c6 h
      refine ev_bipush (v := -2) dX9_refuseLetter_17 (by decide) ?_
      cases h
      exact ev_iret dX9_refuseLetter_19 rfl rfl ⟨rfl, rfl⟩
def f_X1_add_10 (n : Nat) (x1 : Int32) (x2 : Int32) (x3 : Int32) (x4 : Int32) (x5 : Int32) (A : Mem) : Option (Int32 × Mem) :=
  if (A 10 7) < (A 10 6) then
    if ¬ (A 10 7) < 0 ∧ (A 10 7).toNatClampNeg < 24 then
      if ¬ ((st2 A 11 (A 10 7).toNatClampNeg x1) 10 7) < 0 ∧ ((st2 A 11 (A 10 7).toNatClampNeg x1) 10 7).toNatClampNeg < 24 then
        if ¬ ((st2 (st2 A 11 (A 10 7).toNatClampNeg x1) 12 ((st2 A 11 (A 10 7).toNatClampNeg x1) 10 7).toNatClampNeg x2) 10 7) < 0 ∧ ((st2 (st2 A 11 (A 10 7).toNatClampNeg x1) 12 ((st2 A 11 (A 10 7).toNatClampNeg x1) 10 7).toNatClampNeg x2) 10 7).toNatClampNeg < 24 then
          if ¬ ((st2 (st2 (st2 A 11 (A 10 7).toNatClampNeg x1) 12 ((st2 A 11 (A 10 7).toNatClampNeg x1) 10 7).toNatClampNeg x2) 13 ((st2 (st2 A 11 (A 10 7).toNatClampNeg x1) 12 ((st2 A 11 (A 10 7).toNatClampNeg x1) 10 7).toNatClampNeg x2) 10 7).toNatClampNeg x3) 10 7) < 0 ∧ ((st2 (st2 (st2 A 11 (A 10 7).toNatClampNeg x1) 12 ((st2 A 11 (A 10 7).toNatClampNeg x1) 10 7).toNatClampNeg x2) 13 ((st2 (st2 A 11 (A 10 7).toNatClampNeg x1) 12 ((st2 A 11 (A 10 7).toNatClampNeg x1) 10 7).toNatClampNeg x2) 10 7).toNatClampNeg x3) 10 7).toNatClampNeg < 24 then
            if ¬ ((st2 (st2 (st2 (st2 A 11 (A 10 7).toNatClampNeg x1) 12 ((st2 A 11 (A 10 7).toNatClampNeg x1) 10 7).toNatClampNeg x2) 13 ((st2 (st2 A 11 (A 10 7).toNatClampNeg x1) 12 ((st2 A 11 (A 10 7).toNatClampNeg x1) 10 7).toNatClampNeg x2) 10 7).toNatClampNeg x3) 14 ((st2 (st2 (st2 A 11 (A 10 7).toNatClampNeg x1) 12 ((st2 A 11 (A 10 7).toNatClampNeg x1) 10 7).toNatClampNeg x2) 13 ((st2 (st2 A 11 (A 10 7).toNatClampNeg x1) 12 ((st2 A 11 (A 10 7).toNatClampNeg x1) 10 7).toNatClampNeg x2) 10 7).toNatClampNeg x3) 10 7).toNatClampNeg x4) 10 7) < 0 ∧ ((st2 (st2 (st2 (st2 A 11 (A 10 7).toNatClampNeg x1) 12 ((st2 A 11 (A 10 7).toNatClampNeg x1) 10 7).toNatClampNeg x2) 13 ((st2 (st2 A 11 (A 10 7).toNatClampNeg x1) 12 ((st2 A 11 (A 10 7).toNatClampNeg x1) 10 7).toNatClampNeg x2) 10 7).toNatClampNeg x3) 14 ((st2 (st2 (st2 A 11 (A 10 7).toNatClampNeg x1) 12 ((st2 A 11 (A 10 7).toNatClampNeg x1) 10 7).toNatClampNeg x2) 13 ((st2 (st2 A 11 (A 10 7).toNatClampNeg x1) 12 ((st2 A 11 (A 10 7).toNatClampNeg x1) 10 7).toNatClampNeg x2) 10 7).toNatClampNeg x3) 10 7).toNatClampNeg x4) 10 7).toNatClampNeg < 24 then
              some (((st2 (st2 (st2 (st2 (st2 (st2 A 11 (A 10 7).toNatClampNeg x1) 12 ((st2 A 11 (A 10 7).toNatClampNeg x1) 10 7).toNatClampNeg x2) 13 ((st2 (st2 A 11 (A 10 7).toNatClampNeg x1) 12 ((st2 A 11 (A 10 7).toNatClampNeg x1) 10 7).toNatClampNeg x2) 10 7).toNatClampNeg x3) 14 ((st2 (st2 (st2 A 11 (A 10 7).toNatClampNeg x1) 12 ((st2 A 11 (A 10 7).toNatClampNeg x1) 10 7).toNatClampNeg x2) 13 ((st2 (st2 A 11 (A 10 7).toNatClampNeg x1) 12 ((st2 A 11 (A 10 7).toNatClampNeg x1) 10 7).toNatClampNeg x2) 10 7).toNatClampNeg x3) 10 7).toNatClampNeg x4) 15 ((st2 (st2 (st2 (st2 A 11 (A 10 7).toNatClampNeg x1) 12 ((st2 A 11 (A 10 7).toNatClampNeg x1) 10 7).toNatClampNeg x2) 13 ((st2 (st2 A 11 (A 10 7).toNatClampNeg x1) 12 ((st2 A 11 (A 10 7).toNatClampNeg x1) 10 7).toNatClampNeg x2) 10 7).toNatClampNeg x3) 14 ((st2 (st2 (st2 A 11 (A 10 7).toNatClampNeg x1) 12 ((st2 A 11 (A 10 7).toNatClampNeg x1) 10 7).toNatClampNeg x2) 13 ((st2 (st2 A 11 (A 10 7).toNatClampNeg x1) 12 ((st2 A 11 (A 10 7).toNatClampNeg x1) 10 7).toNatClampNeg x2) 10 7).toNatClampNeg x3) 10 7).toNatClampNeg x4) 10 7).toNatClampNeg x5) 10 7 (((st2 (st2 (st2 (st2 (st2 A 11 (A 10 7).toNatClampNeg x1) 12 ((st2 A 11 (A 10 7).toNatClampNeg x1) 10 7).toNatClampNeg x2) 13 ((st2 (st2 A 11 (A 10 7).toNatClampNeg x1) 12 ((st2 A 11 (A 10 7).toNatClampNeg x1) 10 7).toNatClampNeg x2) 10 7).toNatClampNeg x3) 14 ((st2 (st2 (st2 A 11 (A 10 7).toNatClampNeg x1) 12 ((st2 A 11 (A 10 7).toNatClampNeg x1) 10 7).toNatClampNeg x2) 13 ((st2 (st2 A 11 (A 10 7).toNatClampNeg x1) 12 ((st2 A 11 (A 10 7).toNatClampNeg x1) 10 7).toNatClampNeg x2) 10 7).toNatClampNeg x3) 10 7).toNatClampNeg x4) 15 ((st2 (st2 (st2 (st2 A 11 (A 10 7).toNatClampNeg x1) 12 ((st2 A 11 (A 10 7).toNatClampNeg x1) 10 7).toNatClampNeg x2) 13 ((st2 (st2 A 11 (A 10 7).toNatClampNeg x1) 12 ((st2 A 11 (A 10 7).toNatClampNeg x1) 10 7).toNatClampNeg x2) 10 7).toNatClampNeg x3) 14 ((st2 (st2 (st2 A 11 (A 10 7).toNatClampNeg x1) 12 ((st2 A 11 (A 10 7).toNatClampNeg x1) 10 7).toNatClampNeg x2) 13 ((st2 (st2 A 11 (A 10 7).toNatClampNeg x1) 12 ((st2 A 11 (A 10 7).toNatClampNeg x1) 10 7).toNatClampNeg x2) 10 7).toNatClampNeg x3) 10 7).toNatClampNeg x4) 10 7).toNatClampNeg x5) 10 7) + ((1 : Int32)))) 10 7) - ((1 : Int32)), st2 (st2 (st2 (st2 (st2 (st2 A 11 (A 10 7).toNatClampNeg x1) 12 ((st2 A 11 (A 10 7).toNatClampNeg x1) 10 7).toNatClampNeg x2) 13 ((st2 (st2 A 11 (A 10 7).toNatClampNeg x1) 12 ((st2 A 11 (A 10 7).toNatClampNeg x1) 10 7).toNatClampNeg x2) 10 7).toNatClampNeg x3) 14 ((st2 (st2 (st2 A 11 (A 10 7).toNatClampNeg x1) 12 ((st2 A 11 (A 10 7).toNatClampNeg x1) 10 7).toNatClampNeg x2) 13 ((st2 (st2 A 11 (A 10 7).toNatClampNeg x1) 12 ((st2 A 11 (A 10 7).toNatClampNeg x1) 10 7).toNatClampNeg x2) 10 7).toNatClampNeg x3) 10 7).toNatClampNeg x4) 15 ((st2 (st2 (st2 (st2 A 11 (A 10 7).toNatClampNeg x1) 12 ((st2 A 11 (A 10 7).toNatClampNeg x1) 10 7).toNatClampNeg x2) 13 ((st2 (st2 A 11 (A 10 7).toNatClampNeg x1) 12 ((st2 A 11 (A 10 7).toNatClampNeg x1) 10 7).toNatClampNeg x2) 10 7).toNatClampNeg x3) 14 ((st2 (st2 (st2 A 11 (A 10 7).toNatClampNeg x1) 12 ((st2 A 11 (A 10 7).toNatClampNeg x1) 10 7).toNatClampNeg x2) 13 ((st2 (st2 A 11 (A 10 7).toNatClampNeg x1) 12 ((st2 A 11 (A 10 7).toNatClampNeg x1) 10 7).toNatClampNeg x2) 10 7).toNatClampNeg x3) 10 7).toNatClampNeg x4) 10 7).toNatClampNeg x5) 10 7 (((st2 (st2 (st2 (st2 (st2 A 11 (A 10 7).toNatClampNeg x1) 12 ((st2 A 11 (A 10 7).toNatClampNeg x1) 10 7).toNatClampNeg x2) 13 ((st2 (st2 A 11 (A 10 7).toNatClampNeg x1) 12 ((st2 A 11 (A 10 7).toNatClampNeg x1) 10 7).toNatClampNeg x2) 10 7).toNatClampNeg x3) 14 ((st2 (st2 (st2 A 11 (A 10 7).toNatClampNeg x1) 12 ((st2 A 11 (A 10 7).toNatClampNeg x1) 10 7).toNatClampNeg x2) 13 ((st2 (st2 A 11 (A 10 7).toNatClampNeg x1) 12 ((st2 A 11 (A 10 7).toNatClampNeg x1) 10 7).toNatClampNeg x2) 10 7).toNatClampNeg x3) 10 7).toNatClampNeg x4) 15 ((st2 (st2 (st2 (st2 A 11 (A 10 7).toNatClampNeg x1) 12 ((st2 A 11 (A 10 7).toNatClampNeg x1) 10 7).toNatClampNeg x2) 13 ((st2 (st2 A 11 (A 10 7).toNatClampNeg x1) 12 ((st2 A 11 (A 10 7).toNatClampNeg x1) 10 7).toNatClampNeg x2) 10 7).toNatClampNeg x3) 14 ((st2 (st2 (st2 A 11 (A 10 7).toNatClampNeg x1) 12 ((st2 A 11 (A 10 7).toNatClampNeg x1) 10 7).toNatClampNeg x2) 13 ((st2 (st2 A 11 (A 10 7).toNatClampNeg x1) 12 ((st2 A 11 (A 10 7).toNatClampNeg x1) 10 7).toNatClampNeg x2) 10 7).toNatClampNeg x3) 10 7).toNatClampNeg x4) 10 7).toNatClampNeg x5) 10 7) + ((1 : Int32))))
            else
              none
          else
            none
        else
          none
      else
        none
    else
      none
  else
    some ((-5 : Int32), A)
set_option maxRecDepth 100000 in
set_option maxHeartbeats 4000000 in
theorem c_X1_add_10 (n : Nat) (x1 : Int32) (x2 : Int32) (x3 : Int32) (x4 : Int32) (x5 : Int32) (A : Mem) (q : Int32 × Mem) (h : f_X1_add_10 n x1 x2 x3 x4 x5 A = some q) : Ct yX1_add cX1_add 6 (some .int) 0 [.ref 10, .int x1, .int x2, .int x3, .int x4, .int x5] A (RI q) := by
  unfold f_X1_add_10 at h
  refine ct_of (by decide) (Nat.le_of_ble_eq_true rfl) ?_
  show Ev cX1_add 6 RX1 (some .int) 0 none 0 [(0, .ref 10), (1, .int x1), (2, .int x2), (3, .int x3), (4, .int x4), (5, .int x5)] [] A (RI q)
  refine ev_aload_n 0 dX1_add_0 rfl rfl ?_
  refine ev_getI dX1_add_1 fl_X1_9 (by decide) rfl (by decide) (by decide) rfl ?_
  refine ev_aload_n 0 dX1_add_4 rfl rfl ?_
  refine ev_getI dX1_add_5 fl_X1_15 (by decide) rfl (by decide) (by decide) rfl ?_
  refine ev_icmp_lt (tgt := 14) dX1_add_8 (by decide) (fun c1 => ?_) (fun c1 => ?_)
  · have h := if_t c1 h
    refine ev_aload_n 0 dX1_add_14 rfl rfl ?_
    refine ev_getR (r := 11) dX1_add_15 fl_X1_22 (by decide) rfl (by decide) (by decide) rfl ?_
    refine ev_aload_n 0 dX1_add_18 rfl rfl ?_
    refine ev_getI dX1_add_19 fl_X1_9 (by decide) rfl (by decide) (by decide) rfl ?_
    refine ev_iload_n 1 dX1_add_22 rfl rfl ?_
    obtain ⟨c2, h⟩ := if_c h
    refine ev_iastc 24 dX1_add_23 (by decide) rfl rfl (by decide) c2 ?_
    refine ev_aload_n 0 dX1_add_24 rfl rfl ?_
    refine ev_getR (r := 12) dX1_add_25 fl_X1_25 (by decide) rfl (by decide) (by decide) rfl ?_
    refine ev_aload_n 0 dX1_add_28 rfl rfl ?_
    refine ev_getI dX1_add_29 fl_X1_9 (by decide) rfl (by decide) (by decide) rfl ?_
    refine ev_iload_n 2 dX1_add_32 rfl rfl ?_
    obtain ⟨c3, h⟩ := if_c h
    refine ev_iastc 24 dX1_add_33 (by decide) rfl rfl (by decide) c3 ?_
    refine ev_aload_n 0 dX1_add_34 rfl rfl ?_
    refine ev_getR (r := 13) dX1_add_35 fl_X1_28 (by decide) rfl (by decide) (by decide) rfl ?_
    refine ev_aload_n 0 dX1_add_38 rfl rfl ?_
    refine ev_getI dX1_add_39 fl_X1_9 (by decide) rfl (by decide) (by decide) rfl ?_
    refine ev_iload_n 3 dX1_add_42 rfl rfl ?_
    obtain ⟨c4, h⟩ := if_c h
    refine ev_iastc 24 dX1_add_43 (by decide) rfl rfl (by decide) c4 ?_
    refine ev_aload_n 0 dX1_add_44 rfl rfl ?_
    refine ev_getR (r := 14) dX1_add_45 fl_X1_31 (by decide) rfl (by decide) (by decide) rfl ?_
    refine ev_aload_n 0 dX1_add_48 rfl rfl ?_
    refine ev_getI dX1_add_49 fl_X1_9 (by decide) rfl (by decide) (by decide) rfl ?_
    refine ev_iload 4 dX1_add_52 rfl ?_
    obtain ⟨c5, h⟩ := if_c h
    refine ev_iastc 24 dX1_add_54 (by decide) rfl rfl (by decide) c5 ?_
    refine ev_aload_n 0 dX1_add_55 rfl rfl ?_
    refine ev_getR (r := 15) dX1_add_56 fl_X1_34 (by decide) rfl (by decide) (by decide) rfl ?_
    refine ev_aload_n 0 dX1_add_59 rfl rfl ?_
    refine ev_getI dX1_add_60 fl_X1_9 (by decide) rfl (by decide) (by decide) rfl ?_
    refine ev_iload 5 dX1_add_63 rfl ?_
    obtain ⟨c6, h⟩ := if_c h
    refine ev_iastc 24 dX1_add_65 (by decide) rfl rfl (by decide) c6 ?_
    refine ev_aload_n 0 dX1_add_66 rfl rfl ?_
    refine ev_dup dX1_add_67 rfl ?_
    refine ev_getI dX1_add_68 fl_X1_9 (by decide) rfl (by decide) (by decide) rfl ?_
    refine ev_iconst (v := 1) dX1_add_71 (by decide) ?_
    refine ev_iadd dX1_add_72 ?_
    refine ev_put2 dX1_add_73 fl_X1_9 pk_1_7 (by decide) rfl (by decide) (by decide) rfl ?_
    refine ev_aload_n 0 dX1_add_76 rfl rfl ?_
    refine ev_getI dX1_add_77 fl_X1_9 (by decide) rfl (by decide) (by decide) rfl ?_
    refine ev_iconst (v := 1) dX1_add_80 (by decide) ?_
    refine ev_isub dX1_add_81 ?_
    cases h
    exact ev_iret dX1_add_82 rfl rfl ⟨rfl, rfl⟩
  · have h := if_f c1 h
    refine ev_bipush (v := -5) dX1_add_11 (by decide) ?_
    cases h
    exact ev_iret dX1_add_13 rfl rfl ⟨rfl, rfl⟩
def f_X9_send (n : Nat) (x1 : Int32) (x2 : Int32) (x3 : Int32) (x4 : Int32) (x5 : Int32) (x6 : Int32) (x7 : Int32) (A : Mem) : Option (Int32 × Mem) :=
  (f_X9_refuseLetter n x1 x2 x3 x4 x5 x6 x7 A).bind fun q1 =>
  if q1.1 = 0 then
    (f_X9_topicOf n x4 x5 x6 q1.2).bind fun q4 =>
    (f_X1_add_10 n x1 x2 x3 q4.1 x7 q4.2).bind fun q6 =>
    some (q6.1, q6.2)
  else
    some (q1.1, q1.2)
set_option maxRecDepth 100000 in
set_option maxHeartbeats 4000000 in
theorem c_X9_send (n : Nat) (x1 : Int32) (x2 : Int32) (x3 : Int32) (x4 : Int32) (x5 : Int32) (x6 : Int32) (x7 : Int32) (A : Mem) (q : Int32 × Mem) (h : f_X9_send n x1 x2 x3 x4 x5 x6 x7 A = some q) : Ct yX9_send cX9_send 9 (some .int) 3 [.ref 0, .int x1, .int x2, .int x3, .int x4, .int x5, .int x6, .int x7] A (RI q) := by
  unfold f_X9_send at h
  refine ct_of (by decide) (Nat.le_of_ble_eq_true rfl) ?_
  show Ev cX9_send 9 RX9 (some .int) 3 none 0 [(0, .ref 0), (1, .int x1), (2, .int x2), (3, .int x3), (4, .int x4), (5, .int x5), (6, .int x6), (7, .int x7)] [] A (RI q)
  refine ev_iload_n 1 dX9_send_0 rfl rfl ?_
  refine ev_iload_n 2 dX9_send_1 rfl rfl ?_
  refine ev_iload_n 3 dX9_send_2 rfl rfl ?_
  refine ev_iload 4 dX9_send_3 rfl ?_
  refine ev_iload 5 dX9_send_5 rfl ?_
  refine ev_iload 6 dX9_send_7 rfl ?_
  refine ev_iload 7 dX9_send_9 rfl ?_
  obtain ⟨q1, e2, h⟩ := bd_c h
  refine ev_callSi (av := [.int x1, .int x2, .int x3, .int x4, .int x5, .int x6, .int x7]) dX9_send_11 (c_X9_refuseLetter n x1 x2 x3 x4 x5 x6 x7  A q1 e2) mk_X9_refuseLetter lk_X9_151 is_X9_refuseLetter rfl (by decide) (by decide) (Nat.le_of_ble_eq_true rfl) rfl ?_
  refine ev_istore (ls' := [(8, .int q1.1), (0, .ref 0), (1, .int x1), (2, .int x2), (3, .int x3), (4, .int x4), (5, .int x5), (6, .int x6), (7, .int x7)]) dX9_send_14 (by decide) rfl ?_
  refine ev_iload 0 dX9_send_16 rfl ?_
  refine ev_if_eq (tgt := 26) dX9_send_18 (by decide) (fun c3 => ?_) (fun c3 => ?_)
  · have h := if_t c3 h
    refine ev_aload_n 1 dX9_send_26 rfl rfl ?_
    refine ev_getR (r := 10) dX9_send_27 fl_X9_55 (by decide) rfl (by decide) (by decide) rfl ?_
    refine ev_iload_n 2 dX9_send_30 rfl rfl ?_
    refine ev_iload_n 3 dX9_send_31 rfl rfl ?_
    refine ev_iload_n 4 dX9_send_32 rfl rfl ?_
    refine ev_iload 5 dX9_send_33 rfl ?_
    refine ev_iload 6 dX9_send_35 rfl ?_
    refine ev_iload 7 dX9_send_37 rfl ?_
    obtain ⟨q4, e5, h⟩ := bd_c h
    refine ev_callSi (av := [.int x4, .int x5, .int x6]) dX9_send_39 (c_X9_topicOf n x4 x5 x6  q1.2 q4 e5) mk_X9_topicOf lk_X9_111 is_X9_topicOf rfl (by decide) (by decide) (Nat.le_of_ble_eq_true rfl) rfl ?_
    refine ev_iload 8 dX9_send_42 rfl ?_
    obtain ⟨q6, e7, h⟩ := bd_c h
    refine ev_callVi (av := [.int x1, .int x2, .int x3, .int q4.1, .int x7]) dX9_send_44 (c_X1_add_10 n x1 x2 x3 q4.1 x7  q4.2 q6 e7) mk_X1_add lk_X9_155 iv_X1_add (Or.inl ⟨1, _, by decide, rfl, by decide, rfl, rfl⟩) rfl (by decide) (by decide) (Nat.le_of_ble_eq_true rfl) rfl ?_
    cases h
    exact ev_iret dX9_send_47 rfl rfl ⟨rfl, rfl⟩
  · have h := if_f c3 h
    refine ev_iload 0 dX9_send_21 rfl ?_
    refine ev_goto (tgt := 47) dX9_send_23 (by decide) ?_
    cases h
    exact ev_iret dX9_send_47 rfl rfl ⟨rfl, rfl⟩
def f_X9_right (n : Nat) (x1 : Int32) (A : Mem) : Option (Int32 × Mem) :=
  (f_X9_isBelow n x1 (A 10 7) A).bind fun q1 =>
  if q1.1 = 0 then
    some ((-2 : Int32), q1.2)
  else
    if ¬ x1 < 0 ∧ (x1).toNatClampNeg < 24 then
      (f_X8_valueOf n (q1.2 14 (x1).toNatClampNeg) q1.2).bind fun q5 =>
      if q5.1 = (q5.2 15 (x1).toNatClampNeg) then
        some ((1 : Int32), q5.2)
      else
        some ((0 : Int32), q5.2)
    else
      none
set_option maxRecDepth 100000 in
set_option maxHeartbeats 4000000 in
theorem c_X9_right (n : Nat) (x1 : Int32) (A : Mem) (q : Int32 × Mem) (h : f_X9_right n x1 A = some q) : Ct yX9_right cX9_right 2 (some .int) 2 [.ref 0, .int x1] A (RI q) := by
  unfold f_X9_right at h
  refine ct_of (by decide) (Nat.le_of_ble_eq_true rfl) ?_
  show Ev cX9_right 2 RX9 (some .int) 2 none 0 [(0, .ref 0), (1, .int x1)] [] A (RI q)
  refine ev_iload_n 1 dX9_right_0 rfl rfl ?_
  refine ev_aload_n 0 dX9_right_1 rfl rfl ?_
  refine ev_getR (r := 10) dX9_right_2 fl_X9_55 (by decide) rfl (by decide) (by decide) rfl ?_
  refine ev_getI dX9_right_5 fl_X9_159 (by decide) rfl (by decide) (by decide) rfl ?_
  obtain ⟨q1, e2, h⟩ := bd_c h
  refine ev_callSi (av := [.int x1, .int (A 10 7)]) dX9_right_8 (c_X9_isBelow n x1 (A 10 7)  A q1 e2) mk_X9_isBelow lk_X9_93 is_X9_isBelow rfl (by decide) (by decide) (Nat.le_of_ble_eq_true rfl) rfl ?_
  refine ev_if_ne (tgt := 17) dX9_right_11 (by decide) (fun c3 => ?_) (fun c3 => ?_)
  · have h := if_f c3 h
    refine ev_aload_n 0 dX9_right_17 rfl rfl ?_
    refine ev_getR (r := 1) dX9_right_18 fl_X9_37 (by decide) rfl (by decide) (by decide) rfl ?_
    refine ev_aload_n 0 dX9_right_21 rfl rfl ?_
    refine ev_getR (r := 10) dX9_right_22 fl_X9_55 (by decide) rfl (by decide) (by decide) rfl ?_
    refine ev_getR (r := 14) dX9_right_25 fl_X9_162 (by decide) rfl (by decide) (by decide) rfl ?_
    refine ev_iload_n 1 dX9_right_28 rfl rfl ?_
    obtain ⟨c4, h⟩ := if_c h
    refine ev_ialdc 24 dX9_right_29 (by decide) rfl rfl (by decide) c4 ?_
    obtain ⟨q5, e6, h⟩ := bd_c h
    refine ev_callVi (av := [.int (q1.2 14 (x1).toNatClampNeg)]) dX9_right_30 (c_X8_valueOf n (q1.2 14 (x1).toNatClampNeg)  q1.2 q5 e6) mk_X8_valueOf lk_X9_114 iv_X8_valueOf (Or.inl ⟨8, _, by decide, rfl, by decide, rfl, rfl⟩) rfl (by decide) (by decide) (Nat.le_of_ble_eq_true rfl) rfl ?_
    refine ev_aload_n 0 dX9_right_33 rfl rfl ?_
    refine ev_getR (r := 10) dX9_right_34 fl_X9_55 (by decide) rfl (by decide) (by decide) rfl ?_
    refine ev_getR (r := 15) dX9_right_37 fl_X9_165 (by decide) rfl (by decide) (by decide) rfl ?_
    refine ev_iload_n 1 dX9_right_40 rfl rfl ?_
    refine ev_ialdc 24 dX9_right_41 (by decide) rfl rfl (by decide) c4 ?_
    refine ev_icmp_ne (tgt := 49) dX9_right_42 (by decide) (fun c7 => ?_) (fun c7 => ?_)
    · have h := if_f c7 h
      refine ev_iconst (v := 0) dX9_right_49 (by decide) ?_
      cases h
      exact ev_iret dX9_right_50 rfl rfl ⟨rfl, rfl⟩
    · have h := if_t c7 h
      refine ev_iconst (v := 1) dX9_right_45 (by decide) ?_
      refine ev_goto (tgt := 50) dX9_right_46 (by decide) ?_
      cases h
      exact ev_iret dX9_right_50 rfl rfl ⟨rfl, rfl⟩
  · have h := if_t c3 h
    refine ev_bipush (v := -2) dX9_right_14 (by decide) ?_
    cases h
    exact ev_iret dX9_right_16 rfl rfl ⟨rfl, rfl⟩
def f_X1_cameOn_10 (n : Nat) (x1 : Int32) (A : Mem) : Option (Int32 × Mem) :=
  if ¬ x1 < 0 ∧ (x1).toNatClampNeg < 24 then
    if ¬ (A 13 (x1).toNatClampNeg) < 0 ∧ (A 13 (x1).toNatClampNeg).toNatClampNeg < 3 then
      some ((A 12 (x1).toNatClampNeg) + (A 9 (A 13 (x1).toNatClampNeg).toNatClampNeg), A)
    else
      none
  else
    none
set_option maxRecDepth 100000 in
set_option maxHeartbeats 4000000 in
theorem c_X1_cameOn_10 (n : Nat) (x1 : Int32) (A : Mem) (q : Int32 × Mem) (h : f_X1_cameOn_10 n x1 A = some q) : Ct yX1_cameOn cX1_cameOn 2 (some .int) 0 [.ref 10, .int x1] A (RI q) := by
  unfold f_X1_cameOn_10 at h
  refine ct_of (by decide) (Nat.le_of_ble_eq_true rfl) ?_
  show Ev cX1_cameOn 2 RX1 (some .int) 0 none 0 [(0, .ref 10), (1, .int x1)] [] A (RI q)
  refine ev_aload_n 0 dX1_cameOn_0 rfl rfl ?_
  refine ev_getR (r := 12) dX1_cameOn_1 fl_X1_25 (by decide) rfl (by decide) (by decide) rfl ?_
  refine ev_iload_n 1 dX1_cameOn_4 rfl rfl ?_
  obtain ⟨c1, h⟩ := if_c h
  refine ev_ialdc 24 dX1_cameOn_5 (by decide) rfl rfl (by decide) c1 ?_
  refine ev_aload_n 0 dX1_cameOn_6 rfl rfl ?_
  refine ev_getR (r := 9) dX1_cameOn_7 fl_X1_18 (by decide) rfl (by decide) (by decide) rfl ?_
  refine ev_aload_n 0 dX1_cameOn_10 rfl rfl ?_
  refine ev_getR (r := 13) dX1_cameOn_11 fl_X1_28 (by decide) rfl (by decide) (by decide) rfl ?_
  refine ev_iload_n 1 dX1_cameOn_14 rfl rfl ?_
  refine ev_ialdc 24 dX1_cameOn_15 (by decide) rfl rfl (by decide) c1 ?_
  obtain ⟨c2, h⟩ := if_c h
  refine ev_ialdc 3 dX1_cameOn_16 (by decide) rfl rfl (by decide) c2 ?_
  refine ev_iadd dX1_cameOn_17 ?_
  cases h
  exact ev_iret dX1_cameOn_18 rfl rfl ⟨rfl, rfl⟩
def f_X9_comes (n : Nat) (x1 : Int32) (A : Mem) : Option (Int32 × Mem) :=
  (f_X9_isBelow n x1 (A 10 7) A).bind fun q1 =>
  if q1.1 = 0 then
    some ((-2 : Int32), q1.2)
  else
    (f_X1_cameOn_10 n x1 q1.2).bind fun q4 =>
    some (q4.1, q4.2)
set_option maxRecDepth 100000 in
set_option maxHeartbeats 4000000 in
theorem c_X9_comes (n : Nat) (x1 : Int32) (A : Mem) (q : Int32 × Mem) (h : f_X9_comes n x1 A = some q) : Ct yX9_comes cX9_comes 2 (some .int) 1 [.ref 0, .int x1] A (RI q) := by
  unfold f_X9_comes at h
  refine ct_of (by decide) (Nat.le_of_ble_eq_true rfl) ?_
  show Ev cX9_comes 2 RX9 (some .int) 1 none 0 [(0, .ref 0), (1, .int x1)] [] A (RI q)
  refine ev_iload_n 1 dX9_comes_0 rfl rfl ?_
  refine ev_aload_n 0 dX9_comes_1 rfl rfl ?_
  refine ev_getR (r := 10) dX9_comes_2 fl_X9_55 (by decide) rfl (by decide) (by decide) rfl ?_
  refine ev_getI dX9_comes_5 fl_X9_159 (by decide) rfl (by decide) (by decide) rfl ?_
  obtain ⟨q1, e2, h⟩ := bd_c h
  refine ev_callSi (av := [.int x1, .int (A 10 7)]) dX9_comes_8 (c_X9_isBelow n x1 (A 10 7)  A q1 e2) mk_X9_isBelow lk_X9_93 is_X9_isBelow rfl (by decide) (by decide) (Nat.le_of_ble_eq_true rfl) rfl ?_
  refine ev_if_eq (tgt := 25) dX9_comes_11 (by decide) (fun c3 => ?_) (fun c3 => ?_)
  · have h := if_t c3 h
    refine ev_bipush (v := -2) dX9_comes_25 (by decide) ?_
    cases h
    exact ev_iret dX9_comes_27 rfl rfl ⟨rfl, rfl⟩
  · have h := if_f c3 h
    refine ev_aload_n 0 dX9_comes_14 rfl rfl ?_
    refine ev_getR (r := 10) dX9_comes_15 fl_X9_55 (by decide) rfl (by decide) (by decide) rfl ?_
    refine ev_iload_n 1 dX9_comes_18 rfl rfl ?_
    obtain ⟨q4, e5, h⟩ := bd_c h
    refine ev_callVi (av := [.int x1]) dX9_comes_19 (c_X1_cameOn_10 n x1  q1.2 q4 e5) mk_X1_cameOn lk_X9_168 iv_X1_cameOn (Or.inl ⟨1, _, by decide, rfl, by decide, rfl, rfl⟩) rfl (by decide) (by decide) (Nat.le_of_ble_eq_true rfl) rfl ?_
    refine ev_goto (tgt := 27) dX9_comes_22 (by decide) ?_
    cases h
    exact ev_iret dX9_comes_27 rfl rfl ⟨rfl, rfl⟩
def f_X9_hasBit (n : Nat) (x0 : Int32) (x1 : Int32) (A : Mem) : Option (Int32 × Mem) :=
  if ((x0 >>> (x1 &&& 31)) &&& ((1 : Int32))) = 0 then
    some ((0 : Int32), A)
  else
    some ((1 : Int32), A)
set_option maxRecDepth 100000 in
set_option maxHeartbeats 4000000 in
theorem c_X9_hasBit (n : Nat) (x0 : Int32) (x1 : Int32) (A : Mem) (q : Int32 × Mem) (h : f_X9_hasBit n x0 x1 A = some q) : Ct yX9_hasBit cX9_hasBit 2 (some .boolean) 0 [.int x0, .int x1] A (RI q) := by
  unfold f_X9_hasBit at h
  refine ct_of (by decide) (Nat.le_of_ble_eq_true rfl) ?_
  show Ev cX9_hasBit 2 RX9 (some .boolean) 0 none 0 [(0, .int x0), (1, .int x1)] [] A (RI q)
  refine ev_iload_n 0 dX9_hasBit_0 rfl rfl ?_
  refine ev_iload_n 1 dX9_hasBit_1 rfl rfl ?_
  refine ev_ishr dX9_hasBit_2 ?_
  refine ev_iconst (v := 1) dX9_hasBit_3 (by decide) ?_
  refine ev_iand dX9_hasBit_4 ?_
  refine ev_if_eq (tgt := 12) dX9_hasBit_5 (by decide) (fun c1 => ?_) (fun c1 => ?_)
  · have h := if_t c1 h
    refine ev_iconst (v := 0) dX9_hasBit_12 (by decide) ?_
    cases h
    exact ev_iret dX9_hasBit_13 rfl rfl ⟨rfl, rfl⟩
  · have h := if_f c1 h
    refine ev_iconst (v := 1) dX9_hasBit_8 (by decide) ?_
    refine ev_goto (tgt := 13) dX9_hasBit_9 (by decide) ?_
    cases h
    exact ev_iret dX9_hasBit_13 rfl rfl ⟨rfl, rfl⟩
def g_X1_unlike_10_4 (n : Nat) : Nat → Int32 → Int32 → Int32 → Mem → Option (Int32 × Mem)
  | 0, _, _, _, _ => none
  | m + 1, x1, x2, x3, A =>
    if (A 10 7) ≤ x3 then
      some (x2, A)
    else
      if ¬ x3 < 0 ∧ (x3).toNatClampNeg < 24 then
        if ¬ x1 < 0 ∧ (x1).toNatClampNeg < 24 then
          if (A 14 (x3).toNatClampNeg) = (A 14 (x1).toNatClampNeg) then
            if (A 15 (x3).toNatClampNeg) = (A 15 (x1).toNatClampNeg) then
              g_X1_unlike_10_4 n  m x1 x2 (x3 + 1) A
            else
              if (A 11 (x3).toNatClampNeg) = (A 11 (x1).toNatClampNeg) then
                g_X1_unlike_10_4 n  m x1 (x2 ||| ((4 : Int32))) (x3 + 1) A
              else
                g_X1_unlike_10_4 n  m x1 (x2 ||| ((8 : Int32))) (x3 + 1) A
          else
            g_X1_unlike_10_4 n  m x1 x2 (x3 + 1) A
        else
          none
      else
        none
set_option maxRecDepth 100000 in
set_option maxHeartbeats 4000000 in
theorem l_X1_unlike_10_4 (n : Nat) : ∀ (m : Nat) (x1 : Int32) (x2 : Int32) (x3 : Int32) (A : Mem) (q : Int32 × Mem), g_X1_unlike_10_4 n  m x1 x2 x3 A = some q → Ev cX1_unlike 4 RX1 (some .int) 0 none 4 [(0, .ref 10), (1, .int x1), (2, .int x2), (3, .int x3)] [] A (RI q) := by
  intro m
  induction m with
  | zero => intro x1 x2 x3 A q h; exact absurd h (by simp [g_X1_unlike_10_4])
  | succ m ih =>
    intro x1 x2 x3 A q h
    rw [g_X1_unlike_10_4] at h
    refine ev_iload_n 3 dX1_unlike_4 rfl rfl ?_
    refine ev_aload_n 0 dX1_unlike_5 rfl rfl ?_
    refine ev_getI dX1_unlike_6 fl_X1_9 (by decide) rfl (by decide) (by decide) rfl ?_
    refine ev_icmp_ge (tgt := 72) dX1_unlike_9 (by decide) (fun c1 => ?_) (fun c1 => ?_)
    · have h := if_t c1 h
      refine ev_iload_n 2 dX1_unlike_72 rfl rfl ?_
      cases h
      exact ev_iret dX1_unlike_73 rfl rfl ⟨rfl, rfl⟩
    · have h := if_f c1 h
      refine ev_aload_n 0 dX1_unlike_12 rfl rfl ?_
      refine ev_getR (r := 14) dX1_unlike_13 fl_X1_31 (by decide) rfl (by decide) (by decide) rfl ?_
      refine ev_iload_n 3 dX1_unlike_16 rfl rfl ?_
      obtain ⟨c2, h⟩ := if_c h
      refine ev_ialdc 24 dX1_unlike_17 (by decide) rfl rfl (by decide) c2 ?_
      refine ev_aload_n 0 dX1_unlike_18 rfl rfl ?_
      refine ev_getR (r := 14) dX1_unlike_19 fl_X1_31 (by decide) rfl (by decide) (by decide) rfl ?_
      refine ev_iload_n 1 dX1_unlike_22 rfl rfl ?_
      obtain ⟨c3, h⟩ := if_c h
      refine ev_ialdc 24 dX1_unlike_23 (by decide) rfl rfl (by decide) c3 ?_
      refine ev_icmp_ne (tgt := 66) dX1_unlike_24 (by decide) (fun c4 => ?_) (fun c4 => ?_)
      · have h := if_f c4 h
        refine ev_iinc (v := x3 + 1) (ls' := [(3, .int (x3 + 1)), (0, .ref 10), (1, .int x1), (2, .int x2)]) 3 dX1_unlike_66 rfl rfl (by decide) rfl ?_
        refine ev_goto (tgt := 4) dX1_unlike_69 (by decide) ?_
        refine ev_pick [1, 2, 3, 0] (ls' := [(0, .ref 10), (1, .int x1), (2, .int x2), (3, .int (x3 + 1))]) rfl ?_
        exact ih x1 x2 (x3 + 1) _ q h
      · have h := if_t c4 h
        refine ev_aload_n 0 dX1_unlike_27 rfl rfl ?_
        refine ev_getR (r := 15) dX1_unlike_28 fl_X1_34 (by decide) rfl (by decide) (by decide) rfl ?_
        refine ev_iload_n 3 dX1_unlike_31 rfl rfl ?_
        refine ev_ialdc 24 dX1_unlike_32 (by decide) rfl rfl (by decide) c2 ?_
        refine ev_aload_n 0 dX1_unlike_33 rfl rfl ?_
        refine ev_getR (r := 15) dX1_unlike_34 fl_X1_34 (by decide) rfl (by decide) (by decide) rfl ?_
        refine ev_iload_n 1 dX1_unlike_37 rfl rfl ?_
        refine ev_ialdc 24 dX1_unlike_38 (by decide) rfl rfl (by decide) c3 ?_
        refine ev_icmp_eq (tgt := 66) dX1_unlike_39 (by decide) (fun c5 => ?_) (fun c5 => ?_)
        · have h := if_t c5 h
          refine ev_iinc (v := x3 + 1) (ls' := [(3, .int (x3 + 1)), (0, .ref 10), (1, .int x1), (2, .int x2)]) 3 dX1_unlike_66 rfl rfl (by decide) rfl ?_
          refine ev_goto (tgt := 4) dX1_unlike_69 (by decide) ?_
          refine ev_pick [1, 2, 3, 0] (ls' := [(0, .ref 10), (1, .int x1), (2, .int x2), (3, .int (x3 + 1))]) rfl ?_
          exact ih x1 x2 (x3 + 1) _ q h
        · have h := if_f c5 h
          refine ev_iload_n 2 dX1_unlike_42 rfl rfl ?_
          refine ev_aload_n 0 dX1_unlike_43 rfl rfl ?_
          refine ev_getR (r := 11) dX1_unlike_44 fl_X1_22 (by decide) rfl (by decide) (by decide) rfl ?_
          refine ev_iload_n 3 dX1_unlike_47 rfl rfl ?_
          refine ev_ialdc 24 dX1_unlike_48 (by decide) rfl rfl (by decide) c2 ?_
          refine ev_aload_n 0 dX1_unlike_49 rfl rfl ?_
          refine ev_getR (r := 11) dX1_unlike_50 fl_X1_22 (by decide) rfl (by decide) (by decide) rfl ?_
          refine ev_iload_n 1 dX1_unlike_53 rfl rfl ?_
          refine ev_ialdc 24 dX1_unlike_54 (by decide) rfl rfl (by decide) c3 ?_
          refine ev_icmp_ne (tgt := 62) dX1_unlike_55 (by decide) (fun c6 => ?_) (fun c6 => ?_)
          · have h := if_f c6 h
            refine ev_bipush (v := 8) dX1_unlike_62 (by decide) ?_
            refine ev_ior dX1_unlike_64 ?_
            refine ev_istore_n (ls' := [(2, .int (x2 ||| ((8 : Int32)))), (0, .ref 10), (1, .int x1), (3, .int x3)]) dX1_unlike_65 rfl (by decide) rfl ?_
            refine ev_iinc (v := x3 + 1) (ls' := [(3, .int (x3 + 1)), (2, .int (x2 ||| ((8 : Int32)))), (0, .ref 10), (1, .int x1)]) 3 dX1_unlike_66 rfl rfl (by decide) rfl ?_
            refine ev_goto (tgt := 4) dX1_unlike_69 (by decide) ?_
            refine ev_pick [2, 3, 1, 0] (ls' := [(0, .ref 10), (1, .int x1), (2, .int (x2 ||| ((8 : Int32)))), (3, .int (x3 + 1))]) rfl ?_
            exact ih x1 (x2 ||| ((8 : Int32))) (x3 + 1) _ q h
          · have h := if_t c6 h
            refine ev_iconst (v := 4) dX1_unlike_58 (by decide) ?_
            refine ev_goto (tgt := 64) dX1_unlike_59 (by decide) ?_
            refine ev_ior dX1_unlike_64 ?_
            refine ev_istore_n (ls' := [(2, .int (x2 ||| ((4 : Int32)))), (0, .ref 10), (1, .int x1), (3, .int x3)]) dX1_unlike_65 rfl (by decide) rfl ?_
            refine ev_iinc (v := x3 + 1) (ls' := [(3, .int (x3 + 1)), (2, .int (x2 ||| ((4 : Int32)))), (0, .ref 10), (1, .int x1)]) 3 dX1_unlike_66 rfl rfl (by decide) rfl ?_
            refine ev_goto (tgt := 4) dX1_unlike_69 (by decide) ?_
            refine ev_pick [2, 3, 1, 0] (ls' := [(0, .ref 10), (1, .int x1), (2, .int (x2 ||| ((4 : Int32)))), (3, .int (x3 + 1))]) rfl ?_
            exact ih x1 (x2 ||| ((4 : Int32))) (x3 + 1) _ q h
def f_X1_unlike_10 (n : Nat) (x1 : Int32) (A : Mem) : Option (Int32 × Mem) :=
  g_X1_unlike_10_4 n  n x1 ((0 : Int32)) ((0 : Int32)) A
set_option maxRecDepth 100000 in
set_option maxHeartbeats 4000000 in
theorem c_X1_unlike_10 (n : Nat) (x1 : Int32) (A : Mem) (q : Int32 × Mem) (h : f_X1_unlike_10 n x1 A = some q) : Ct yX1_unlike cX1_unlike 4 (some .int) 0 [.ref 10, .int x1] A (RI q) := by
  unfold f_X1_unlike_10 at h
  refine ct_of (by decide) (Nat.le_of_ble_eq_true rfl) ?_
  show Ev cX1_unlike 4 RX1 (some .int) 0 none 0 [(0, .ref 10), (1, .int x1)] [] A (RI q)
  refine ev_iconst (v := 0) dX1_unlike_0 (by decide) ?_
  refine ev_istore_n (ls' := [(2, .int ((0 : Int32))), (0, .ref 10), (1, .int x1)]) dX1_unlike_1 rfl (by decide) rfl ?_
  refine ev_iconst (v := 0) dX1_unlike_2 (by decide) ?_
  refine ev_istore_n (ls' := [(3, .int ((0 : Int32))), (2, .int ((0 : Int32))), (0, .ref 10), (1, .int x1)]) dX1_unlike_3 rfl (by decide) rfl ?_
  refine ev_pick [2, 3, 1, 0] (ls' := [(0, .ref 10), (1, .int x1), (2, .int ((0 : Int32))), (3, .int ((0 : Int32)))]) rfl ?_
  exact (l_X1_unlike_10_4 n   n) x1 ((0 : Int32)) ((0 : Int32)) _ q h
def f_X9_slips (n : Nat) (x1 : Int32) (A : Mem) : Option (Int32 × Mem) :=
  (f_X9_isBelow n x1 (A 10 7) A).bind fun q1 =>
  if q1.1 = 0 then
    some ((-2 : Int32), q1.2)
  else
    if ¬ x1 < 0 ∧ (x1).toNatClampNeg < 24 then
      (f_X9_dayOf n (q1.2 14 (x1).toNatClampNeg) q1.2).bind fun q5 =>
      if ¬ (q5.2 11 (x1).toNatClampNeg) < 0 ∧ (q5.2 11 (x1).toNatClampNeg).toNatClampNeg < 6 then
        (f_X8_seenBy n (rf 25 (q5.2 11 (x1).toNatClampNeg).toNatClampNeg) q5.1 q5.2).bind fun q9 =>
        (f_X9_placeOf n (q9.2 14 (x1).toNatClampNeg) q9.2).bind fun q11 =>
        (f_X9_hasBit n q9.1 q11.1 q11.2).bind fun q13 =>
        if q13.1 = 0 then
          if q5.1 ≤ (q13.2 12 (x1).toNatClampNeg) then
            (f_X1_unlike_10 n x1 q13.2).bind fun q17 =>
            some ((((1 : Int32)) ||| ((0 : Int32))) ||| q17.1, q17.2)
          else
            (f_X1_unlike_10 n x1 q13.2).bind fun q19 =>
            some ((((1 : Int32)) ||| ((2 : Int32))) ||| q19.1, q19.2)
        else
          if q5.1 ≤ (q13.2 12 (x1).toNatClampNeg) then
            (f_X1_unlike_10 n x1 q13.2).bind fun q22 =>
            some ((((0 : Int32)) ||| ((0 : Int32))) ||| q22.1, q22.2)
          else
            (f_X1_unlike_10 n x1 q13.2).bind fun q24 =>
            some ((((0 : Int32)) ||| ((2 : Int32))) ||| q24.1, q24.2)
      else
        none
    else
      none
set_option maxRecDepth 100000 in
set_option maxHeartbeats 4000000 in
theorem c_X9_slips (n : Nat) (x1 : Int32) (A : Mem) (q : Int32 × Mem) (h : f_X9_slips n x1 A = some q) : Ct yX9_slips cX9_slips 6 (some .int) 2 [.ref 0, .int x1] A (RI q) := by
  unfold f_X9_slips at h
  refine ct_of (by decide) (Nat.le_of_ble_eq_true rfl) ?_
  show Ev cX9_slips 6 RX9 (some .int) 2 none 0 [(0, .ref 0), (1, .int x1)] [] A (RI q)
  refine ev_iload_n 1 dX9_slips_0 rfl rfl ?_
  refine ev_aload_n 0 dX9_slips_1 rfl rfl ?_
  refine ev_getR (r := 10) dX9_slips_2 fl_X9_55 (by decide) rfl (by decide) (by decide) rfl ?_
  refine ev_getI dX9_slips_5 fl_X9_159 (by decide) rfl (by decide) (by decide) rfl ?_
  obtain ⟨q1, e2, h⟩ := bd_c h
  refine ev_callSi (av := [.int x1, .int (A 10 7)]) dX9_slips_8 (c_X9_isBelow n x1 (A 10 7)  A q1 e2) mk_X9_isBelow lk_X9_93 is_X9_isBelow rfl (by decide) (by decide) (Nat.le_of_ble_eq_true rfl) rfl ?_
  refine ev_if_ne (tgt := 17) dX9_slips_11 (by decide) (fun c3 => ?_) (fun c3 => ?_)
  · have h := if_f c3 h
    refine ev_aload_n 0 dX9_slips_17 rfl rfl ?_
    refine ev_getR (r := 10) dX9_slips_18 fl_X9_55 (by decide) rfl (by decide) (by decide) rfl ?_
    refine ev_getR (r := 14) dX9_slips_21 fl_X9_162 (by decide) rfl (by decide) (by decide) rfl ?_
    refine ev_iload_n 1 dX9_slips_24 rfl rfl ?_
    obtain ⟨c4, h⟩ := if_c h
    refine ev_ialdc 24 dX9_slips_25 (by decide) rfl rfl (by decide) c4 ?_
    obtain ⟨q5, e6, h⟩ := bd_c h
    refine ev_callSi (av := [.int (q1.2 14 (x1).toNatClampNeg)]) dX9_slips_26 (c_X9_dayOf n (q1.2 14 (x1).toNatClampNeg)  q1.2 q5 e6) mk_X9_dayOf lk_X9_171 is_X9_dayOf rfl (by decide) (by decide) (Nat.le_of_ble_eq_true rfl) rfl ?_
    refine ev_istore_n (ls' := [(2, .int q5.1), (0, .ref 0), (1, .int x1)]) dX9_slips_29 rfl (by decide) rfl ?_
    refine ev_aload_n 1 dX9_slips_30 rfl rfl ?_
    refine ev_getR (r := 1) dX9_slips_31 fl_X9_37 (by decide) rfl (by decide) (by decide) rfl ?_
    refine ev_aload_n 1 dX9_slips_34 rfl rfl ?_
    refine ev_getR (r := 25) dX9_slips_35 fl_X9_41 (by decide) rfl (by decide) (by decide) rfl ?_
    refine ev_aload_n 1 dX9_slips_38 rfl rfl ?_
    refine ev_getR (r := 10) dX9_slips_39 fl_X9_55 (by decide) rfl (by decide) (by decide) rfl ?_
    refine ev_getR (r := 11) dX9_slips_42 fl_X9_174 (by decide) rfl (by decide) (by decide) rfl ?_
    refine ev_iload_n 2 dX9_slips_45 rfl rfl ?_
    refine ev_ialdc 24 dX9_slips_46 (by decide) rfl rfl (by decide) c4 ?_
    obtain ⟨c7, h⟩ := if_c h
    have e8 := el_25 _ c7.2
    refine ev_aaldc 6 dX9_slips_47 (by decide) rfl (Or.inl rfl) rfl (by decide) c7 e8.1 ?_
    refine ev_iload_n 0 dX9_slips_48 rfl rfl ?_
    obtain ⟨q9, e10, h⟩ := bd_c h
    refine ev_callVi (av := [.ref (rf 25 (q5.2 11 (x1).toNatClampNeg).toNatClampNeg), .int q5.1]) dX9_slips_49 (c_X8_seenBy n (rf 25 (q5.2 11 (x1).toNatClampNeg).toNatClampNeg) q5.1 e8.2.1 e8.2.2 q5.2 q9 e10) mk_X8_seenBy lk_X9_147 iv_X8_seenBy (Or.inl ⟨8, _, by decide, rfl, by decide, rfl, rfl⟩) rfl (by decide) (by decide) (Nat.le_of_ble_eq_true rfl) rfl ?_
    refine ev_istore_n (ls' := [(3, .int q9.1), (2, .int q5.1), (0, .ref 0), (1, .int x1)]) dX9_slips_52 rfl (by decide) rfl ?_
    refine ev_iload_n 0 dX9_slips_53 rfl rfl ?_
    refine ev_aload_n 2 dX9_slips_54 rfl rfl ?_
    refine ev_getR (r := 10) dX9_slips_55 fl_X9_55 (by decide) rfl (by decide) (by decide) rfl ?_
    refine ev_getR (r := 14) dX9_slips_58 fl_X9_162 (by decide) rfl (by decide) (by decide) rfl ?_
    refine ev_iload_n 3 dX9_slips_61 rfl rfl ?_
    refine ev_ialdc 24 dX9_slips_62 (by decide) rfl rfl (by decide) c4 ?_
    obtain ⟨q11, e12, h⟩ := bd_c h
    refine ev_callSi (av := [.int (q9.2 14 (x1).toNatClampNeg)]) dX9_slips_63 (c_X9_placeOf n (q9.2 14 (x1).toNatClampNeg)  q9.2 q11 e12) mk_X9_placeOf lk_X9_177 is_X9_placeOf rfl (by decide) (by decide) (Nat.le_of_ble_eq_true rfl) rfl ?_
    obtain ⟨q13, e14, h⟩ := bd_c h
    refine ev_callSi (av := [.int q9.1, .int q11.1]) dX9_slips_66 (c_X9_hasBit n q9.1 q11.1  q11.2 q13 e14) mk_X9_hasBit lk_X9_180 is_X9_hasBit rfl (by decide) (by decide) (Nat.le_of_ble_eq_true rfl) rfl ?_
    refine ev_if_eq (tgt := 76) dX9_slips_69 (by decide) (fun c15 => ?_) (fun c15 => ?_)
    · have h := if_t c15 h
      refine ev_iconst (v := 1) dX9_slips_76 (by decide) ?_
      refine ev_istore (ls' := [(4, .int ((1 : Int32))), (3, .int q9.1), (2, .int q5.1), (0, .ref 0), (1, .int x1)]) dX9_slips_77 (by decide) rfl ?_
      refine ev_iload_n 2 dX9_slips_79 rfl rfl ?_
      refine ev_aload_n 3 dX9_slips_80 rfl rfl ?_
      refine ev_getR (r := 10) dX9_slips_81 fl_X9_55 (by decide) rfl (by decide) (by decide) rfl ?_
      refine ev_getR (r := 12) dX9_slips_84 fl_X9_183 (by decide) rfl (by decide) (by decide) rfl ?_
      refine ev_iload_n 4 dX9_slips_87 rfl rfl ?_
      refine ev_ialdc 24 dX9_slips_88 (by decide) rfl rfl (by decide) c4 ?_
      refine ev_icmp_le (tgt := 96) dX9_slips_89 (by decide) (fun c16 => ?_) (fun c16 => ?_)
      · have h := if_t c16 h
        refine ev_iconst (v := 0) dX9_slips_96 (by decide) ?_
        refine ev_istore (ls' := [(5, .int ((0 : Int32))), (4, .int ((1 : Int32))), (3, .int q9.1), (2, .int q5.1), (0, .ref 0), (1, .int x1)]) dX9_slips_97 (by decide) rfl ?_
        refine ev_iload 1 dX9_slips_99 rfl ?_
        refine ev_iload 0 dX9_slips_101 rfl ?_
        refine ev_ior dX9_slips_103 ?_
        refine ev_aload_n 4 dX9_slips_104 rfl rfl ?_
        refine ev_getR (r := 10) dX9_slips_105 fl_X9_55 (by decide) rfl (by decide) (by decide) rfl ?_
        refine ev_iload_n 5 dX9_slips_108 rfl rfl ?_
        obtain ⟨q17, e18, h⟩ := bd_c h
        refine ev_callVi (av := [.int x1]) dX9_slips_109 (c_X1_unlike_10 n x1  q13.2 q17 e18) mk_X1_unlike lk_X9_186 iv_X1_unlike (Or.inl ⟨1, _, by decide, rfl, by decide, rfl, rfl⟩) rfl (by decide) (by decide) (Nat.le_of_ble_eq_true rfl) rfl ?_
        refine ev_ior dX9_slips_112 ?_
        cases h
        exact ev_iret dX9_slips_113 rfl rfl ⟨rfl, rfl⟩
      · have h := if_f c16 h
        refine ev_iconst (v := 2) dX9_slips_92 (by decide) ?_
        refine ev_goto (tgt := 97) dX9_slips_93 (by decide) ?_
        refine ev_istore (ls' := [(5, .int ((2 : Int32))), (4, .int ((1 : Int32))), (3, .int q9.1), (2, .int q5.1), (0, .ref 0), (1, .int x1)]) dX9_slips_97 (by decide) rfl ?_
        refine ev_iload 1 dX9_slips_99 rfl ?_
        refine ev_iload 0 dX9_slips_101 rfl ?_
        refine ev_ior dX9_slips_103 ?_
        refine ev_aload_n 4 dX9_slips_104 rfl rfl ?_
        refine ev_getR (r := 10) dX9_slips_105 fl_X9_55 (by decide) rfl (by decide) (by decide) rfl ?_
        refine ev_iload_n 5 dX9_slips_108 rfl rfl ?_
        obtain ⟨q19, e20, h⟩ := bd_c h
        refine ev_callVi (av := [.int x1]) dX9_slips_109 (c_X1_unlike_10 n x1  q13.2 q19 e20) mk_X1_unlike lk_X9_186 iv_X1_unlike (Or.inl ⟨1, _, by decide, rfl, by decide, rfl, rfl⟩) rfl (by decide) (by decide) (Nat.le_of_ble_eq_true rfl) rfl ?_
        refine ev_ior dX9_slips_112 ?_
        cases h
        exact ev_iret dX9_slips_113 rfl rfl ⟨rfl, rfl⟩
    · have h := if_f c15 h
      refine ev_iconst (v := 0) dX9_slips_72 (by decide) ?_
      refine ev_goto (tgt := 77) dX9_slips_73 (by decide) ?_
      refine ev_istore (ls' := [(4, .int ((0 : Int32))), (3, .int q9.1), (2, .int q5.1), (0, .ref 0), (1, .int x1)]) dX9_slips_77 (by decide) rfl ?_
      refine ev_iload_n 2 dX9_slips_79 rfl rfl ?_
      refine ev_aload_n 3 dX9_slips_80 rfl rfl ?_
      refine ev_getR (r := 10) dX9_slips_81 fl_X9_55 (by decide) rfl (by decide) (by decide) rfl ?_
      refine ev_getR (r := 12) dX9_slips_84 fl_X9_183 (by decide) rfl (by decide) (by decide) rfl ?_
      refine ev_iload_n 4 dX9_slips_87 rfl rfl ?_
      refine ev_ialdc 24 dX9_slips_88 (by decide) rfl rfl (by decide) c4 ?_
      refine ev_icmp_le (tgt := 96) dX9_slips_89 (by decide) (fun c21 => ?_) (fun c21 => ?_)
      · have h := if_t c21 h
        refine ev_iconst (v := 0) dX9_slips_96 (by decide) ?_
        refine ev_istore (ls' := [(5, .int ((0 : Int32))), (4, .int ((0 : Int32))), (3, .int q9.1), (2, .int q5.1), (0, .ref 0), (1, .int x1)]) dX9_slips_97 (by decide) rfl ?_
        refine ev_iload 1 dX9_slips_99 rfl ?_
        refine ev_iload 0 dX9_slips_101 rfl ?_
        refine ev_ior dX9_slips_103 ?_
        refine ev_aload_n 4 dX9_slips_104 rfl rfl ?_
        refine ev_getR (r := 10) dX9_slips_105 fl_X9_55 (by decide) rfl (by decide) (by decide) rfl ?_
        refine ev_iload_n 5 dX9_slips_108 rfl rfl ?_
        obtain ⟨q22, e23, h⟩ := bd_c h
        refine ev_callVi (av := [.int x1]) dX9_slips_109 (c_X1_unlike_10 n x1  q13.2 q22 e23) mk_X1_unlike lk_X9_186 iv_X1_unlike (Or.inl ⟨1, _, by decide, rfl, by decide, rfl, rfl⟩) rfl (by decide) (by decide) (Nat.le_of_ble_eq_true rfl) rfl ?_
        refine ev_ior dX9_slips_112 ?_
        cases h
        exact ev_iret dX9_slips_113 rfl rfl ⟨rfl, rfl⟩
      · have h := if_f c21 h
        refine ev_iconst (v := 2) dX9_slips_92 (by decide) ?_
        refine ev_goto (tgt := 97) dX9_slips_93 (by decide) ?_
        refine ev_istore (ls' := [(5, .int ((2 : Int32))), (4, .int ((0 : Int32))), (3, .int q9.1), (2, .int q5.1), (0, .ref 0), (1, .int x1)]) dX9_slips_97 (by decide) rfl ?_
        refine ev_iload 1 dX9_slips_99 rfl ?_
        refine ev_iload 0 dX9_slips_101 rfl ?_
        refine ev_ior dX9_slips_103 ?_
        refine ev_aload_n 4 dX9_slips_104 rfl rfl ?_
        refine ev_getR (r := 10) dX9_slips_105 fl_X9_55 (by decide) rfl (by decide) (by decide) rfl ?_
        refine ev_iload_n 5 dX9_slips_108 rfl rfl ?_
        obtain ⟨q24, e25, h⟩ := bd_c h
        refine ev_callVi (av := [.int x1]) dX9_slips_109 (c_X1_unlike_10 n x1  q13.2 q24 e25) mk_X1_unlike lk_X9_186 iv_X1_unlike (Or.inl ⟨1, _, by decide, rfl, by decide, rfl, rfl⟩) rfl (by decide) (by decide) (Nat.le_of_ble_eq_true rfl) rfl ?_
        refine ev_ior dX9_slips_112 ?_
        cases h
        exact ev_iret dX9_slips_113 rfl rfl ⟨rfl, rfl⟩
  · have h := if_t c3 h
    refine ev_bipush (v := -2) dX9_slips_14 (by decide) ?_
    cases h
    exact ev_iret dX9_slips_16 rfl rfl ⟨rfl, rfl⟩
def g_X8_wasSeen_20 (n : Nat) (p2 : Nat) : Nat → Int32 → Int32 → Int32 → Mem → Option (Int32 × Mem)
  | 0, _, _, _, _ => none
  | m + 1, x1, x4, x5, A =>
    if x4 < x5 then
      some ((0 : Int32), A)
    else
      (f_X8_seenBy n p2 x5 A).bind fun q3 =>
      if ¬ x1 < 0 ∧ (x1).toNatClampNeg < 16 then
        (f_X9_hasBit n q3.1 (q3.2 3 (x1).toNatClampNeg) q3.2).bind fun q6 =>
        if q6.1 = 0 then
          g_X8_wasSeen_20 n p2 m x1 x4 (x5 + 1) q6.2
        else
          some ((1 : Int32), q6.2)
      else
        none
set_option maxRecDepth 100000 in
set_option maxHeartbeats 4000000 in
theorem l_X8_wasSeen_20 (n : Nat) (p2 : Nat) (hp2 : p2 < NT) (hk2 : kd p2 = 0) : ∀ (m : Nat) (x1 : Int32) (x4 : Int32) (x5 : Int32) (A : Mem) (q : Int32 × Mem), g_X8_wasSeen_20 n p2 m x1 x4 x5 A = some q → Ev cX8_wasSeen 6 RX8 (some .boolean) 2 none 20 [(0, .ref 1), (1, .int x1), (2, .ref p2), (4, .int x4), (5, .int x5)] [] A (RI q) := by
  intro m
  induction m with
  | zero => intro x1 x4 x5 A q h; exact absurd h (by simp [g_X8_wasSeen_20])
  | succ m ih =>
    intro x1 x4 x5 A q h
    rw [g_X8_wasSeen_20] at h
    refine ev_iload 4 dX8_wasSeen_20 rfl ?_
    refine ev_iload 3 dX8_wasSeen_22 rfl ?_
    refine ev_icmp_gt (tgt := 54) dX8_wasSeen_24 (by decide) (fun c2 => ?_) (fun c2 => ?_)
    · have h := if_t c2 h
      refine ev_iconst (v := 0) dX8_wasSeen_54 (by decide) ?_
      cases h
      exact ev_iret dX8_wasSeen_55 rfl rfl ⟨rfl, rfl⟩
    · have h := if_f c2 h
      refine ev_aload_n 0 dX8_wasSeen_27 rfl rfl ?_
      refine ev_aload_n 2 dX8_wasSeen_28 rfl rfl ?_
      refine ev_iload 4 dX8_wasSeen_29 rfl ?_
      obtain ⟨q3, e4, h⟩ := bd_c h
      refine ev_callVi (av := [.ref p2, .int x5]) dX8_wasSeen_31 (c_X8_seenBy n p2 x5 hp2 hk2 A q3 e4) mk_X8_seenBy lk_X8_63 iv_X8_seenBy (Or.inl ⟨8, _, by decide, rfl, by decide, rfl, rfl⟩) rfl (by decide) (by decide) (Nat.le_of_ble_eq_true rfl) rfl ?_
      refine ev_aload_n 0 dX8_wasSeen_34 rfl rfl ?_
      refine ev_getR (r := 3) dX8_wasSeen_35 fl_X8_15 (by decide) rfl (by decide) (by decide) rfl ?_
      refine ev_iload_n 1 dX8_wasSeen_38 rfl rfl ?_
      obtain ⟨c5, h⟩ := if_c h
      refine ev_ialdc 16 dX8_wasSeen_39 (by decide) rfl rfl (by decide) c5 ?_
      obtain ⟨q6, e7, h⟩ := bd_c h
      refine ev_callSi (av := [.int q3.1, .int (q3.2 3 (x1).toNatClampNeg)]) dX8_wasSeen_40 (c_X9_hasBit n q3.1 (q3.2 3 (x1).toNatClampNeg)  q3.2 q6 e7) mk_X9_hasBit lk_X8_67 is_X9_hasBit rfl (by decide) (by decide) (Nat.le_of_ble_eq_true rfl) rfl ?_
      refine ev_if_eq (tgt := 48) dX8_wasSeen_43 (by decide) (fun c8 => ?_) (fun c8 => ?_)
      · have h := if_t c8 h
        refine ev_iinc (v := x5 + 1) (ls' := [(5, .int (x5 + 1)), (0, .ref 1), (1, .int x1), (2, .ref p2), (4, .int x4)]) 4 dX8_wasSeen_48 rfl rfl (by decide) rfl ?_
        refine ev_goto (tgt := 20) dX8_wasSeen_51 (by decide) ?_
        refine ev_pick [1, 2, 3, 4, 0] (ls' := [(0, .ref 1), (1, .int x1), (2, .ref p2), (4, .int x4), (5, .int (x5 + 1))]) rfl ?_
        exact ih x1 x4 (x5 + 1) _ q h
      · have h := if_f c8 h
        refine ev_iconst (v := 1) dX8_wasSeen_46 (by decide) ?_
        cases h
        exact ev_iret dX8_wasSeen_47 rfl rfl ⟨rfl, rfl⟩
def f_X8_wasSeen (n : Nat) (x1 : Int32) (p2 : Nat) (x3 : Int32) (A : Mem) : Option (Int32 × Mem) :=
  if ¬ x1 < 0 ∧ (x1).toNatClampNeg < 16 then
    g_X8_wasSeen_20 n p2 n x1 (if x3 < (A 6 (x1).toNatClampNeg) then x3 else A 6 (x1).toNatClampNeg) (A 5 (x1).toNatClampNeg) A
  else
    none
set_option maxRecDepth 100000 in
set_option maxHeartbeats 4000000 in
theorem c_X8_wasSeen (n : Nat) (x1 : Int32) (p2 : Nat) (x3 : Int32) (hp2 : p2 < NT) (hk2 : kd p2 = 0) (A : Mem) (q : Int32 × Mem) (h : f_X8_wasSeen n x1 p2 x3 A = some q) : Ct yX8_wasSeen cX8_wasSeen 6 (some .boolean) 2 [.ref 1, .int x1, .ref p2, .int x3] A (RI q) := by
  unfold f_X8_wasSeen at h
  refine ct_of (by decide) (Nat.le_of_ble_eq_true rfl) ?_
  show Ev cX8_wasSeen 6 RX8 (some .boolean) 2 none 0 [(0, .ref 1), (1, .int x1), (2, .ref p2), (3, .int x3)] [] A (RI q)
  refine ev_aload_n 0 dX8_wasSeen_0 rfl rfl ?_
  refine ev_getR (r := 6) dX8_wasSeen_1 fl_X8_24 (by decide) rfl (by decide) (by decide) rfl ?_
  refine ev_iload_n 1 dX8_wasSeen_4 rfl rfl ?_
  obtain ⟨c1, h⟩ := if_c h
  refine ev_ialdc 16 dX8_wasSeen_5 (by decide) rfl rfl (by decide) c1 ?_
  refine ev_iload_n 3 dX8_wasSeen_6 rfl rfl ?_
  refine ev_mmin dX8_wasSeen_7 lm_X8_57 (by decide) (Nat.le_of_ble_eq_true rfl) ?_
  refine ev_istore (ls' := [(4, .int (if x3 < (A 6 (x1).toNatClampNeg) then x3 else A 6 (x1).toNatClampNeg)), (0, .ref 1), (1, .int x1), (2, .ref p2), (3, .int x3)]) dX8_wasSeen_10 (by decide) rfl ?_
  refine ev_aload_n 1 dX8_wasSeen_12 rfl rfl ?_
  refine ev_getR (r := 5) dX8_wasSeen_13 fl_X8_21 (by decide) rfl (by decide) (by decide) rfl ?_
  refine ev_iload_n 2 dX8_wasSeen_16 rfl rfl ?_
  refine ev_ialdc 16 dX8_wasSeen_17 (by decide) rfl rfl (by decide) c1 ?_
  refine ev_istore (ls' := [(5, .int (A 5 (x1).toNatClampNeg)), (4, .int (if x3 < (A 6 (x1).toNatClampNeg) then x3 else A 6 (x1).toNatClampNeg)), (0, .ref 1), (1, .int x1), (2, .ref p2), (3, .int x3)]) dX8_wasSeen_18 (by decide) rfl ?_
  refine ev_pick [2, 3, 4, 1, 0] (ls' := [(0, .ref 1), (1, .int x1), (2, .ref p2), (4, .int (if x3 < (A 6 (x1).toNatClampNeg) then x3 else A 6 (x1).toNatClampNeg)), (5, .int (A 5 (x1).toNatClampNeg))]) rfl ?_
  exact (l_X8_wasSeen_20 n p2 hp2 hk2 n) x1 (if x3 < (A 6 (x1).toNatClampNeg) then x3 else A 6 (x1).toNatClampNeg) (A 5 (x1).toNatClampNeg) _ q h
def g_X1_mention_10_1_3 (n : Nat) : Nat → Int32 → Int32 → Int32 → Int32 → Mem → Option (Int32 × Mem)
  | 0, _, _, _, _, _ => none
  | m + 1, x2, x3, x4, x5, A =>
    if (A 10 7) ≤ x5 then
      some ((0 : Int32), A)
    else
      if ¬ x5 < 0 ∧ (x5).toNatClampNeg < 24 then
        if (A 11 (x5).toNatClampNeg) = x3 then
          if x4 < (A 12 (x5).toNatClampNeg) then
            g_X1_mention_10_1_3 n  m x2 x3 x4 (x5 + 1) A
          else
            (f_X9_placeOf n (A 14 (x5).toNatClampNeg) A).bind fun q5 =>
            (f_X9_kindOf n (q5.2 14 (x5).toNatClampNeg) q5.2).bind fun q7 =>
            (f_X9_dayOf n (q7.2 14 (x5).toNatClampNeg) q7.2).bind fun q9 =>
            (f_X8_tells n x2 q5.1 q7.1 q9.1 q9.2).bind fun q11 =>
            if q11.1 = 0 then
              g_X1_mention_10_1_3 n  m x2 x3 x4 (x5 + 1) q11.2
            else
              some ((1 : Int32), q11.2)
        else
          g_X1_mention_10_1_3 n  m x2 x3 x4 (x5 + 1) A
      else
        none
set_option maxRecDepth 100000 in
set_option maxHeartbeats 4000000 in
theorem l_X1_mention_10_1_3 (n : Nat) : ∀ (m : Nat) (x2 : Int32) (x3 : Int32) (x4 : Int32) (x5 : Int32) (A : Mem) (q : Int32 × Mem), g_X1_mention_10_1_3 n  m x2 x3 x4 x5 A = some q → Ev cX1_mention 6 RX1 (some .boolean) 1 none 3 [(0, .ref 10), (1, .ref 1), (2, .int x2), (3, .int x3), (4, .int x4), (5, .int x5)] [] A (RI q) := by
  intro m
  induction m with
  | zero => intro x2 x3 x4 x5 A q h; exact absurd h (by simp [g_X1_mention_10_1_3])
  | succ m ih =>
    intro x2 x3 x4 x5 A q h
    rw [g_X1_mention_10_1_3] at h
    refine ev_iload 5 dX1_mention_3 rfl ?_
    refine ev_aload_n 0 dX1_mention_5 rfl rfl ?_
    refine ev_getI dX1_mention_6 fl_X1_9 (by decide) rfl (by decide) (by decide) rfl ?_
    refine ev_icmp_ge (tgt := 81) dX1_mention_9 (by decide) (fun c1 => ?_) (fun c1 => ?_)
    · have h := if_t c1 h
      refine ev_iconst (v := 0) dX1_mention_81 (by decide) ?_
      cases h
      exact ev_iret dX1_mention_82 rfl rfl ⟨rfl, rfl⟩
    · have h := if_f c1 h
      refine ev_aload_n 0 dX1_mention_12 rfl rfl ?_
      refine ev_getR (r := 11) dX1_mention_13 fl_X1_22 (by decide) rfl (by decide) (by decide) rfl ?_
      refine ev_iload 5 dX1_mention_16 rfl ?_
      obtain ⟨c2, h⟩ := if_c h
      refine ev_ialdc 24 dX1_mention_18 (by decide) rfl rfl (by decide) c2 ?_
      refine ev_iload_n 3 dX1_mention_19 rfl rfl ?_
      refine ev_icmp_ne (tgt := 75) dX1_mention_20 (by decide) (fun c3 => ?_) (fun c3 => ?_)
      · have h := if_f c3 h
        refine ev_iinc (v := x5 + 1) (ls' := [(5, .int (x5 + 1)), (0, .ref 10), (1, .ref 1), (2, .int x2), (3, .int x3), (4, .int x4)]) 5 dX1_mention_75 rfl rfl (by decide) rfl ?_
        refine ev_goto (tgt := 3) dX1_mention_78 (by decide) ?_
        refine ev_pick [1, 2, 3, 4, 5, 0] (ls' := [(0, .ref 10), (1, .ref 1), (2, .int x2), (3, .int x3), (4, .int x4), (5, .int (x5 + 1))]) rfl ?_
        exact ih x2 x3 x4 (x5 + 1) _ q h
      · have h := if_t c3 h
        refine ev_aload_n 0 dX1_mention_23 rfl rfl ?_
        refine ev_getR (r := 12) dX1_mention_24 fl_X1_25 (by decide) rfl (by decide) (by decide) rfl ?_
        refine ev_iload 5 dX1_mention_27 rfl ?_
        refine ev_ialdc 24 dX1_mention_29 (by decide) rfl rfl (by decide) c2 ?_
        refine ev_iload 4 dX1_mention_30 rfl ?_
        refine ev_icmp_gt (tgt := 75) dX1_mention_32 (by decide) (fun c4 => ?_) (fun c4 => ?_)
        · have h := if_t c4 h
          refine ev_iinc (v := x5 + 1) (ls' := [(5, .int (x5 + 1)), (0, .ref 10), (1, .ref 1), (2, .int x2), (3, .int x3), (4, .int x4)]) 5 dX1_mention_75 rfl rfl (by decide) rfl ?_
          refine ev_goto (tgt := 3) dX1_mention_78 (by decide) ?_
          refine ev_pick [1, 2, 3, 4, 5, 0] (ls' := [(0, .ref 10), (1, .ref 1), (2, .int x2), (3, .int x3), (4, .int x4), (5, .int (x5 + 1))]) rfl ?_
          exact ih x2 x3 x4 (x5 + 1) _ q h
        · have h := if_f c4 h
          refine ev_aload_n 1 dX1_mention_35 rfl rfl ?_
          refine ev_iload_n 2 dX1_mention_36 rfl rfl ?_
          refine ev_aload_n 0 dX1_mention_37 rfl rfl ?_
          refine ev_getR (r := 14) dX1_mention_38 fl_X1_31 (by decide) rfl (by decide) (by decide) rfl ?_
          refine ev_iload 5 dX1_mention_41 rfl ?_
          refine ev_ialdc 24 dX1_mention_43 (by decide) rfl rfl (by decide) c2 ?_
          obtain ⟨q5, e6, h⟩ := bd_c h
          refine ev_callSi (av := [.int (A 14 (x5).toNatClampNeg)]) dX1_mention_44 (c_X9_placeOf n (A 14 (x5).toNatClampNeg)  A q5 e6) mk_X9_placeOf lk_X1_37 is_X9_placeOf rfl (by decide) (by decide) (Nat.le_of_ble_eq_true rfl) rfl ?_
          refine ev_aload_n 0 dX1_mention_47 rfl rfl ?_
          refine ev_getR (r := 14) dX1_mention_48 fl_X1_31 (by decide) rfl (by decide) (by decide) rfl ?_
          refine ev_iload 5 dX1_mention_51 rfl ?_
          refine ev_ialdc 24 dX1_mention_53 (by decide) rfl rfl (by decide) c2 ?_
          obtain ⟨q7, e8, h⟩ := bd_c h
          refine ev_callSi (av := [.int (q5.2 14 (x5).toNatClampNeg)]) dX1_mention_54 (c_X9_kindOf n (q5.2 14 (x5).toNatClampNeg)  q5.2 q7 e8) mk_X9_kindOf lk_X1_41 is_X9_kindOf rfl (by decide) (by decide) (Nat.le_of_ble_eq_true rfl) rfl ?_
          refine ev_aload_n 0 dX1_mention_57 rfl rfl ?_
          refine ev_getR (r := 14) dX1_mention_58 fl_X1_31 (by decide) rfl (by decide) (by decide) rfl ?_
          refine ev_iload 5 dX1_mention_61 rfl ?_
          refine ev_ialdc 24 dX1_mention_63 (by decide) rfl rfl (by decide) c2 ?_
          obtain ⟨q9, e10, h⟩ := bd_c h
          refine ev_callSi (av := [.int (q7.2 14 (x5).toNatClampNeg)]) dX1_mention_64 (c_X9_dayOf n (q7.2 14 (x5).toNatClampNeg)  q7.2 q9 e10) mk_X9_dayOf lk_X1_44 is_X9_dayOf rfl (by decide) (by decide) (Nat.le_of_ble_eq_true rfl) rfl ?_
          obtain ⟨q11, e12, h⟩ := bd_c h
          refine ev_callVi (av := [.int x2, .int q5.1, .int q7.1, .int q9.1]) dX1_mention_67 (c_X8_tells n x2 q5.1 q7.1 q9.1  q9.2 q11 e12) mk_X8_tells lk_X1_47 iv_X8_tells (Or.inl ⟨8, _, by decide, rfl, by decide, rfl, rfl⟩) rfl (by decide) (by decide) (Nat.le_of_ble_eq_true rfl) rfl ?_
          refine ev_if_eq (tgt := 75) dX1_mention_70 (by decide) (fun c13 => ?_) (fun c13 => ?_)
          · have h := if_t c13 h
            refine ev_iinc (v := x5 + 1) (ls' := [(5, .int (x5 + 1)), (0, .ref 10), (1, .ref 1), (2, .int x2), (3, .int x3), (4, .int x4)]) 5 dX1_mention_75 rfl rfl (by decide) rfl ?_
            refine ev_goto (tgt := 3) dX1_mention_78 (by decide) ?_
            refine ev_pick [1, 2, 3, 4, 5, 0] (ls' := [(0, .ref 10), (1, .ref 1), (2, .int x2), (3, .int x3), (4, .int x4), (5, .int (x5 + 1))]) rfl ?_
            exact ih x2 x3 x4 (x5 + 1) _ q h
          · have h := if_f c13 h
            refine ev_iconst (v := 1) dX1_mention_73 (by decide) ?_
            cases h
            exact ev_iret dX1_mention_74 rfl rfl ⟨rfl, rfl⟩
def f_X1_mention_10_1 (n : Nat) (x2 : Int32) (x3 : Int32) (x4 : Int32) (A : Mem) : Option (Int32 × Mem) :=
  g_X1_mention_10_1_3 n  n x2 x3 x4 ((0 : Int32)) A
set_option maxRecDepth 100000 in
set_option maxHeartbeats 4000000 in
theorem c_X1_mention_10_1 (n : Nat) (x2 : Int32) (x3 : Int32) (x4 : Int32) (A : Mem) (q : Int32 × Mem) (h : f_X1_mention_10_1 n x2 x3 x4 A = some q) : Ct yX1_mention cX1_mention 6 (some .boolean) 1 [.ref 10, .ref 1, .int x2, .int x3, .int x4] A (RI q) := by
  unfold f_X1_mention_10_1 at h
  refine ct_of (by decide) (Nat.le_of_ble_eq_true rfl) ?_
  show Ev cX1_mention 6 RX1 (some .boolean) 1 none 0 [(0, .ref 10), (1, .ref 1), (2, .int x2), (3, .int x3), (4, .int x4)] [] A (RI q)
  refine ev_iconst (v := 0) dX1_mention_0 (by decide) ?_
  refine ev_istore (ls' := [(5, .int ((0 : Int32))), (0, .ref 10), (1, .ref 1), (2, .int x2), (3, .int x3), (4, .int x4)]) dX1_mention_1 (by decide) rfl ?_
  refine ev_pick [1, 2, 3, 4, 5, 0] (ls' := [(0, .ref 10), (1, .ref 1), (2, .int x2), (3, .int x3), (4, .int x4), (5, .int ((0 : Int32)))]) rfl ?_
  exact (l_X1_mention_10_1_3 n   n) x2 x3 x4 ((0 : Int32)) _ q h
def g_X9_lacks_20 (n : Nat) : Nat → Int32 → Int32 → Int32 → Int32 → Mem → Option (Int32 × Mem)
  | 0, _, _, _, _, _ => none
  | m + 1, x1, x2, x4, x5, A =>
    if (A 1 7) ≤ x5 then
      some (x4, A)
    else
      if ¬ x1 < 0 ∧ (x1).toNatClampNeg < 6 then
        (f_X8_wasSeen n x5 (rf 25 (x1).toNatClampNeg) x2 A).bind fun q7 =>
        if q7.1 = 0 then
          g_X9_lacks_20 n  m x1 x2 x4 (x5 + 1) q7.2
        else
          (f_X1_mention_10_1 n x5 x1 x2 q7.2).bind fun q10 =>
          if q10.1 = 0 then
            g_X9_lacks_20 n  m x1 x2 (x4 ||| (((1 : Int32)) <<< (x5 &&& 31))) (x5 + 1) q10.2
          else
            g_X9_lacks_20 n  m x1 x2 x4 (x5 + 1) q10.2
      else
        none
set_option maxRecDepth 100000 in
set_option maxHeartbeats 4000000 in
theorem l_X9_lacks_20 (n : Nat) : ∀ (m : Nat) (x1 : Int32) (x2 : Int32) (x4 : Int32) (x5 : Int32) (A : Mem) (q : Int32 × Mem), g_X9_lacks_20 n  m x1 x2 x4 x5 A = some q → Ev cX9_lacks 6 RX9 (some .int) 3 none 20 [(0, .ref 0), (1, .int x1), (2, .int x2), (4, .int x4), (5, .int x5)] [] A (RI q) := by
  intro m
  induction m with
  | zero => intro x1 x2 x4 x5 A q h; exact absurd h (by simp [g_X9_lacks_20])
  | succ m ih =>
    intro x1 x2 x4 x5 A q h
    rw [g_X9_lacks_20] at h
    refine ev_iload 4 dX9_lacks_20 rfl ?_
    refine ev_aload_n 0 dX9_lacks_22 rfl rfl ?_
    refine ev_getR (r := 1) dX9_lacks_23 fl_X9_37 (by decide) rfl (by decide) (by decide) rfl ?_
    refine ev_getI dX9_lacks_26 fl_X9_189 (by decide) rfl (by decide) (by decide) rfl ?_
    refine ev_icmp_ge (tgt := 84) dX9_lacks_29 (by decide) (fun c4 => ?_) (fun c4 => ?_)
    · have h := if_t c4 h
      refine ev_iload 3 dX9_lacks_84 rfl ?_
      cases h
      exact ev_iret dX9_lacks_86 rfl rfl ⟨rfl, rfl⟩
    · have h := if_f c4 h
      refine ev_aload_n 0 dX9_lacks_32 rfl rfl ?_
      refine ev_getR (r := 1) dX9_lacks_33 fl_X9_37 (by decide) rfl (by decide) (by decide) rfl ?_
      refine ev_iload 4 dX9_lacks_36 rfl ?_
      refine ev_aload_n 0 dX9_lacks_38 rfl rfl ?_
      refine ev_getR (r := 25) dX9_lacks_39 fl_X9_41 (by decide) rfl (by decide) (by decide) rfl ?_
      refine ev_iload_n 1 dX9_lacks_42 rfl rfl ?_
      obtain ⟨c5, h⟩ := if_c h
      have e6 := el_25 _ c5.2
      refine ev_aaldc 6 dX9_lacks_43 (by decide) rfl (Or.inl rfl) rfl (by decide) c5 e6.1 ?_
      refine ev_iload_n 2 dX9_lacks_44 rfl rfl ?_
      obtain ⟨q7, e8, h⟩ := bd_c h
      refine ev_callVi (av := [.int x5, .ref (rf 25 (x1).toNatClampNeg), .int x2]) dX9_lacks_45 (c_X8_wasSeen n x5 (rf 25 (x1).toNatClampNeg) x2 e6.2.1 e6.2.2 A q7 e8) mk_X8_wasSeen lk_X9_192 iv_X8_wasSeen (Or.inl ⟨8, _, by decide, rfl, by decide, rfl, rfl⟩) rfl (by decide) (by decide) (Nat.le_of_ble_eq_true rfl) rfl ?_
      refine ev_if_eq (tgt := 78) dX9_lacks_48 (by decide) (fun c9 => ?_) (fun c9 => ?_)
      · have h := if_t c9 h
        refine ev_iinc (v := x5 + 1) (ls' := [(5, .int (x5 + 1)), (0, .ref 0), (1, .int x1), (2, .int x2), (4, .int x4)]) 4 dX9_lacks_78 rfl rfl (by decide) rfl ?_
        refine ev_goto (tgt := 20) dX9_lacks_81 (by decide) ?_
        refine ev_pick [1, 2, 3, 4, 0] (ls' := [(0, .ref 0), (1, .int x1), (2, .int x2), (4, .int x4), (5, .int (x5 + 1))]) rfl ?_
        exact ih x1 x2 x4 (x5 + 1) _ q h
      · have h := if_f c9 h
        refine ev_aload_n 0 dX9_lacks_51 rfl rfl ?_
        refine ev_getR (r := 10) dX9_lacks_52 fl_X9_55 (by decide) rfl (by decide) (by decide) rfl ?_
        refine ev_aload_n 0 dX9_lacks_55 rfl rfl ?_
        refine ev_getR (r := 1) dX9_lacks_56 fl_X9_37 (by decide) rfl (by decide) (by decide) rfl ?_
        refine ev_iload 4 dX9_lacks_59 rfl ?_
        refine ev_iload_n 1 dX9_lacks_61 rfl rfl ?_
        refine ev_iload_n 2 dX9_lacks_62 rfl rfl ?_
        obtain ⟨q10, e11, h⟩ := bd_c h
        refine ev_callVi (av := [.ref 1, .int x5, .int x1, .int x2]) dX9_lacks_63 (c_X1_mention_10_1 n x5 x1 x2  q7.2 q10 e11) mk_X1_mention lk_X9_196 iv_X1_mention (Or.inl ⟨1, _, by decide, rfl, by decide, rfl, rfl⟩) rfl (by decide) (by decide) (Nat.le_of_ble_eq_true rfl) rfl ?_
        refine ev_if_ne (tgt := 78) dX9_lacks_66 (by decide) (fun c12 => ?_) (fun c12 => ?_)
        · have h := if_f c12 h
          refine ev_iinc (v := x5 + 1) (ls' := [(5, .int (x5 + 1)), (0, .ref 0), (1, .int x1), (2, .int x2), (4, .int x4)]) 4 dX9_lacks_78 rfl rfl (by decide) rfl ?_
          refine ev_goto (tgt := 20) dX9_lacks_81 (by decide) ?_
          refine ev_pick [1, 2, 3, 4, 0] (ls' := [(0, .ref 0), (1, .int x1), (2, .int x2), (4, .int x4), (5, .int (x5 + 1))]) rfl ?_
          exact ih x1 x2 x4 (x5 + 1) _ q h
        · have h := if_t c12 h
          refine ev_iload 3 dX9_lacks_69 rfl ?_
          refine ev_iconst (v := 1) dX9_lacks_71 (by decide) ?_
          refine ev_iload 4 dX9_lacks_72 rfl ?_
          refine ev_ishl dX9_lacks_74 ?_
          refine ev_ior dX9_lacks_75 ?_
          refine ev_istore (ls' := [(4, .int (x4 ||| (((1 : Int32)) <<< (x5 &&& 31)))), (0, .ref 0), (1, .int x1), (2, .int x2), (5, .int x5)]) dX9_lacks_76 (by decide) rfl ?_
          refine ev_iinc (v := x5 + 1) (ls' := [(5, .int (x5 + 1)), (4, .int (x4 ||| (((1 : Int32)) <<< (x5 &&& 31)))), (0, .ref 0), (1, .int x1), (2, .int x2)]) 4 dX9_lacks_78 rfl rfl (by decide) rfl ?_
          refine ev_goto (tgt := 20) dX9_lacks_81 (by decide) ?_
          refine ev_pick [2, 3, 4, 1, 0] (ls' := [(0, .ref 0), (1, .int x1), (2, .int x2), (4, .int (x4 ||| (((1 : Int32)) <<< (x5 &&& 31)))), (5, .int (x5 + 1))]) rfl ?_
          exact ih x1 x2 (x4 ||| (((1 : Int32)) <<< (x5 &&& 31))) (x5 + 1) _ q h
def f_X9_lacks (n : Nat) (x1 : Int32) (x2 : Int32) (A : Mem) : Option (Int32 × Mem) :=
  (f_X9_refuseDayOf n x1 ((6 : Int32)) x2 A).bind fun q1 =>
  if q1.1 = 0 then
    g_X9_lacks_20 n  n x1 x2 ((0 : Int32)) ((0 : Int32)) q1.2
  else
    some (q1.1, q1.2)
set_option maxRecDepth 100000 in
set_option maxHeartbeats 4000000 in
theorem c_X9_lacks (n : Nat) (x1 : Int32) (x2 : Int32) (A : Mem) (q : Int32 × Mem) (h : f_X9_lacks n x1 x2 A = some q) : Ct yX9_lacks cX9_lacks 6 (some .int) 3 [.ref 0, .int x1, .int x2] A (RI q) := by
  unfold f_X9_lacks at h
  refine ct_of (by decide) (Nat.le_of_ble_eq_true rfl) ?_
  show Ev cX9_lacks 6 RX9 (some .int) 3 none 0 [(0, .ref 0), (1, .int x1), (2, .int x2)] [] A (RI q)
  refine ev_iload_n 1 dX9_lacks_0 rfl rfl ?_
  refine ev_bipush (v := 6) dX9_lacks_1 (by decide) ?_
  refine ev_iload_n 2 dX9_lacks_3 rfl rfl ?_
  obtain ⟨q1, e2, h⟩ := bd_c h
  refine ev_callSi (av := [.int x1, .int ((6 : Int32)), .int x2]) dX9_lacks_4 (c_X9_refuseDayOf n x1 ((6 : Int32)) x2  A q1 e2) mk_X9_refuseDayOf lk_X9_141 is_X9_refuseDayOf rfl (by decide) (by decide) (Nat.le_of_ble_eq_true rfl) rfl ?_
  refine ev_istore_n (ls' := [(3, .int q1.1), (0, .ref 0), (1, .int x1), (2, .int x2)]) dX9_lacks_7 rfl (by decide) rfl ?_
  refine ev_iload_n 0 dX9_lacks_8 rfl rfl ?_
  refine ev_if_eq (tgt := 14) dX9_lacks_9 (by decide) (fun c3 => ?_) (fun c3 => ?_)
  · have h := if_t c3 h
    refine ev_iconst (v := 0) dX9_lacks_14 (by decide) ?_
    refine ev_istore (ls' := [(4, .int ((0 : Int32))), (3, .int q1.1), (0, .ref 0), (1, .int x1), (2, .int x2)]) dX9_lacks_15 (by decide) rfl ?_
    refine ev_iconst (v := 0) dX9_lacks_17 (by decide) ?_
    refine ev_istore (ls' := [(5, .int ((0 : Int32))), (4, .int ((0 : Int32))), (3, .int q1.1), (0, .ref 0), (1, .int x1), (2, .int x2)]) dX9_lacks_18 (by decide) rfl ?_
    refine ev_pick [3, 4, 5, 1, 0] (ls' := [(0, .ref 0), (1, .int x1), (2, .int x2), (4, .int ((0 : Int32))), (5, .int ((0 : Int32)))]) rfl ?_
    exact (l_X9_lacks_20 n   n) x1 x2 ((0 : Int32)) ((0 : Int32)) _ q h
  · have h := if_f c3 h
    refine ev_iload_n 0 dX9_lacks_12 rfl rfl ?_
    cases h
    exact ev_iret dX9_lacks_13 rfl rfl ⟨rfl, rfl⟩
def g_X8_showsSecret_10 (n : Nat) (p1 : Nat) : Nat → Int32 → Int32 → Int32 → Mem → Option (Int32 × Mem)
  | 0, _, _, _, _ => none
  | m + 1, x2, x3, x4, A =>
    if (A 1 7) ≤ x4 then
      some ((0 : Int32), A)
    else
      if ¬ x4 < 0 ∧ (x4).toNatClampNeg < 16 then
        if (A 8 (x4).toNatClampNeg) = 0 then
          g_X8_showsSecret_10 n p1 m x2 x3 (x4 + 1) A
        else
          if x2 < (A 5 (x4).toNatClampNeg) then
            g_X8_showsSecret_10 n p1 m x2 x3 (x4 + 1) A
          else
            if (A 6 (x4).toNatClampNeg) < x2 then
              g_X8_showsSecret_10 n p1 m x2 x3 (x4 + 1) A
            else
              (f_X9_hasBit n x3 (A 3 (x4).toNatClampNeg) A).bind fun q8 =>
              if q8.1 = 0 then
                g_X8_showsSecret_10 n p1 m x2 x3 (x4 + 1) q8.2
              else
                some ((1 : Int32), q8.2)
      else
        none
set_option maxRecDepth 100000 in
set_option maxHeartbeats 4000000 in
theorem l_X8_showsSecret_10 (n : Nat) (p1 : Nat) (hp1 : p1 < NT) (hk1 : kd p1 = 0) : ∀ (m : Nat) (x2 : Int32) (x3 : Int32) (x4 : Int32) (A : Mem) (q : Int32 × Mem), g_X8_showsSecret_10 n p1 m x2 x3 x4 A = some q → Ev cX8_showsSecret 5 RX8 (some .boolean) 2 none 10 [(0, .ref 1), (2, .int x2), (3, .int x3), (4, .int x4)] [] A (RI q) := by
  intro m
  induction m with
  | zero => intro x2 x3 x4 A q h; exact absurd h (by simp [g_X8_showsSecret_10])
  | succ m ih =>
    intro x2 x3 x4 A q h
    rw [g_X8_showsSecret_10] at h
    refine ev_iload 3 dX8_showsSecret_10 rfl ?_
    refine ev_aload_n 0 dX8_showsSecret_12 rfl rfl ?_
    refine ev_getI dX8_showsSecret_13 fl_X8_34 (by decide) rfl (by decide) (by decide) rfl ?_
    refine ev_icmp_ge (tgt := 73) dX8_showsSecret_16 (by decide) (fun c3 => ?_) (fun c3 => ?_)
    · have h := if_t c3 h
      refine ev_iconst (v := 0) dX8_showsSecret_73 (by decide) ?_
      cases h
      exact ev_iret dX8_showsSecret_74 rfl rfl ⟨rfl, rfl⟩
    · have h := if_f c3 h
      refine ev_aload_n 0 dX8_showsSecret_19 rfl rfl ?_
      refine ev_getR (r := 8) dX8_showsSecret_20 fl_X8_30 (by decide) rfl (by decide) (by decide) rfl ?_
      refine ev_iload 3 dX8_showsSecret_23 rfl ?_
      obtain ⟨c4, h⟩ := if_c h
      refine ev_zaldc 16 dX8_showsSecret_25 (by decide) rfl rfl (by decide) c4 ?_
      refine ev_if_eq (tgt := 67) dX8_showsSecret_26 (by decide) (fun c5 => ?_) (fun c5 => ?_)
      · have h := if_t c5 h
        refine ev_iinc (v := x4 + 1) (ls' := [(4, .int (x4 + 1)), (0, .ref 1), (2, .int x2), (3, .int x3)]) 3 dX8_showsSecret_67 rfl rfl (by decide) rfl ?_
        refine ev_goto (tgt := 10) dX8_showsSecret_70 (by decide) ?_
        refine ev_pick [1, 2, 3, 0] (ls' := [(0, .ref 1), (2, .int x2), (3, .int x3), (4, .int (x4 + 1))]) rfl ?_
        exact ih x2 x3 (x4 + 1) _ q h
      · have h := if_f c5 h
        refine ev_aload_n 0 dX8_showsSecret_29 rfl rfl ?_
        refine ev_getR (r := 5) dX8_showsSecret_30 fl_X8_21 (by decide) rfl (by decide) (by decide) rfl ?_
        refine ev_iload 3 dX8_showsSecret_33 rfl ?_
        refine ev_ialdc 16 dX8_showsSecret_35 (by decide) rfl rfl (by decide) c4 ?_
        refine ev_iload_n 1 dX8_showsSecret_36 rfl rfl ?_
        refine ev_icmp_gt (tgt := 67) dX8_showsSecret_37 (by decide) (fun c6 => ?_) (fun c6 => ?_)
        · have h := if_t c6 h
          refine ev_iinc (v := x4 + 1) (ls' := [(4, .int (x4 + 1)), (0, .ref 1), (2, .int x2), (3, .int x3)]) 3 dX8_showsSecret_67 rfl rfl (by decide) rfl ?_
          refine ev_goto (tgt := 10) dX8_showsSecret_70 (by decide) ?_
          refine ev_pick [1, 2, 3, 0] (ls' := [(0, .ref 1), (2, .int x2), (3, .int x3), (4, .int (x4 + 1))]) rfl ?_
          exact ih x2 x3 (x4 + 1) _ q h
        · have h := if_f c6 h
          refine ev_iload_n 1 dX8_showsSecret_40 rfl rfl ?_
          refine ev_aload_n 0 dX8_showsSecret_41 rfl rfl ?_
          refine ev_getR (r := 6) dX8_showsSecret_42 fl_X8_24 (by decide) rfl (by decide) (by decide) rfl ?_
          refine ev_iload 3 dX8_showsSecret_45 rfl ?_
          refine ev_ialdc 16 dX8_showsSecret_47 (by decide) rfl rfl (by decide) c4 ?_
          refine ev_icmp_gt (tgt := 67) dX8_showsSecret_48 (by decide) (fun c7 => ?_) (fun c7 => ?_)
          · have h := if_t c7 h
            refine ev_iinc (v := x4 + 1) (ls' := [(4, .int (x4 + 1)), (0, .ref 1), (2, .int x2), (3, .int x3)]) 3 dX8_showsSecret_67 rfl rfl (by decide) rfl ?_
            refine ev_goto (tgt := 10) dX8_showsSecret_70 (by decide) ?_
            refine ev_pick [1, 2, 3, 0] (ls' := [(0, .ref 1), (2, .int x2), (3, .int x3), (4, .int (x4 + 1))]) rfl ?_
            exact ih x2 x3 (x4 + 1) _ q h
          · have h := if_f c7 h
            refine ev_iload_n 2 dX8_showsSecret_51 rfl rfl ?_
            refine ev_aload_n 0 dX8_showsSecret_52 rfl rfl ?_
            refine ev_getR (r := 3) dX8_showsSecret_53 fl_X8_15 (by decide) rfl (by decide) (by decide) rfl ?_
            refine ev_iload 3 dX8_showsSecret_56 rfl ?_
            refine ev_ialdc 16 dX8_showsSecret_58 (by decide) rfl rfl (by decide) c4 ?_
            obtain ⟨q8, e9, h⟩ := bd_c h
            refine ev_callSi (av := [.int x3, .int (A 3 (x4).toNatClampNeg)]) dX8_showsSecret_59 (c_X9_hasBit n x3 (A 3 (x4).toNatClampNeg)  A q8 e9) mk_X9_hasBit lk_X8_67 is_X9_hasBit rfl (by decide) (by decide) (Nat.le_of_ble_eq_true rfl) rfl ?_
            refine ev_if_eq (tgt := 67) dX8_showsSecret_62 (by decide) (fun c10 => ?_) (fun c10 => ?_)
            · have h := if_t c10 h
              refine ev_iinc (v := x4 + 1) (ls' := [(4, .int (x4 + 1)), (0, .ref 1), (2, .int x2), (3, .int x3)]) 3 dX8_showsSecret_67 rfl rfl (by decide) rfl ?_
              refine ev_goto (tgt := 10) dX8_showsSecret_70 (by decide) ?_
              refine ev_pick [1, 2, 3, 0] (ls' := [(0, .ref 1), (2, .int x2), (3, .int x3), (4, .int (x4 + 1))]) rfl ?_
              exact ih x2 x3 (x4 + 1) _ q h
            · have h := if_f c10 h
              refine ev_iconst (v := 1) dX8_showsSecret_65 (by decide) ?_
              cases h
              exact ev_iret dX8_showsSecret_66 rfl rfl ⟨rfl, rfl⟩
def f_X8_showsSecret (n : Nat) (p1 : Nat) (x2 : Int32) (A : Mem) : Option (Int32 × Mem) :=
  (f_X8_seenBy n p1 x2 A).bind fun q1 =>
  g_X8_showsSecret_10 n p1 n x2 q1.1 ((0 : Int32)) q1.2
set_option maxRecDepth 100000 in
set_option maxHeartbeats 4000000 in
theorem c_X8_showsSecret (n : Nat) (p1 : Nat) (x2 : Int32) (hp1 : p1 < NT) (hk1 : kd p1 = 0) (A : Mem) (q : Int32 × Mem) (h : f_X8_showsSecret n p1 x2 A = some q) : Ct yX8_showsSecret cX8_showsSecret 5 (some .boolean) 2 [.ref 1, .ref p1, .int x2] A (RI q) := by
  unfold f_X8_showsSecret at h
  refine ct_of (by decide) (Nat.le_of_ble_eq_true rfl) ?_
  show Ev cX8_showsSecret 5 RX8 (some .boolean) 2 none 0 [(0, .ref 1), (1, .ref p1), (2, .int x2)] [] A (RI q)
  refine ev_aload_n 0 dX8_showsSecret_0 rfl rfl ?_
  refine ev_aload_n 1 dX8_showsSecret_1 rfl rfl ?_
  refine ev_iload_n 2 dX8_showsSecret_2 rfl rfl ?_
  obtain ⟨q1, e2, h⟩ := bd_c h
  refine ev_callVi (av := [.ref p1, .int x2]) dX8_showsSecret_3 (c_X8_seenBy n p1 x2 hp1 hk1 A q1 e2) mk_X8_seenBy lk_X8_63 iv_X8_seenBy (Or.inl ⟨8, _, by decide, rfl, by decide, rfl, rfl⟩) rfl (by decide) (by decide) (Nat.le_of_ble_eq_true rfl) rfl ?_
  refine ev_istore_n (ls' := [(3, .int q1.1), (0, .ref 1), (1, .ref p1), (2, .int x2)]) dX8_showsSecret_6 rfl (by decide) rfl ?_
  refine ev_iconst (v := 0) dX8_showsSecret_7 (by decide) ?_
  refine ev_istore (ls' := [(4, .int ((0 : Int32))), (3, .int q1.1), (0, .ref 1), (1, .ref p1), (2, .int x2)]) dX8_showsSecret_8 (by decide) rfl ?_
  refine ev_pick [2, 4, 1, 0] (ls' := [(0, .ref 1), (2, .int x2), (3, .int q1.1), (4, .int ((0 : Int32)))]) rfl ?_
  exact (l_X8_showsSecret_10 n p1 hp1 hk1 n) x2 q1.1 ((0 : Int32)) _ q h
def g_X9_ill_14 (n : Nat) : Nat → Int32 → Int32 → Mem → Option (Int32 × Mem)
  | 0, _, _, _ => none
  | m + 1, x1, x2, A =>
    if ((60 : Int32)) < x2 then
      some ((-1 : Int32), A)
    else
      if ¬ x1 < 0 ∧ (x1).toNatClampNeg < 6 then
        (f_X8_showsSecret n (rf 25 (x1).toNatClampNeg) x2 A).bind fun q7 =>
        if q7.1 = 0 then
          g_X9_ill_14 n  m x1 (x2 + 1) q7.2
        else
          some (x2, q7.2)
      else
        none
set_option maxRecDepth 100000 in
set_option maxHeartbeats 4000000 in
theorem l_X9_ill_14 (n : Nat) : ∀ (m : Nat) (x1 : Int32) (x2 : Int32) (A : Mem) (q : Int32 × Mem), g_X9_ill_14 n  m x1 x2 A = some q → Ev cX9_ill 3 RX9 (some .int) 3 none 14 [(0, .ref 0), (1, .int x1), (2, .int x2)] [] A (RI q) := by
  intro m
  induction m with
  | zero => intro x1 x2 A q h; exact absurd h (by simp [g_X9_ill_14])
  | succ m ih =>
    intro x1 x2 A q h
    rw [g_X9_ill_14] at h
    refine ev_iload_n 2 dX9_ill_14 rfl rfl ?_
    refine ev_bipush (v := 60) dX9_ill_15 (by decide) ?_
    refine ev_icmp_gt (tgt := 45) dX9_ill_17 (by decide) (fun c4 => ?_) (fun c4 => ?_)
    · have h := if_t c4 h
      refine ev_iconst (v := -1) dX9_ill_45 (by decide) ?_
      cases h
      exact ev_iret dX9_ill_46 rfl rfl ⟨rfl, rfl⟩
    · have h := if_f c4 h
      refine ev_aload_n 0 dX9_ill_20 rfl rfl ?_
      refine ev_getR (r := 1) dX9_ill_21 fl_X9_37 (by decide) rfl (by decide) (by decide) rfl ?_
      refine ev_aload_n 0 dX9_ill_24 rfl rfl ?_
      refine ev_getR (r := 25) dX9_ill_25 fl_X9_41 (by decide) rfl (by decide) (by decide) rfl ?_
      refine ev_iload_n 1 dX9_ill_28 rfl rfl ?_
      obtain ⟨c5, h⟩ := if_c h
      have e6 := el_25 _ c5.2
      refine ev_aaldc 6 dX9_ill_29 (by decide) rfl (Or.inl rfl) rfl (by decide) c5 e6.1 ?_
      refine ev_iload_n 2 dX9_ill_30 rfl rfl ?_
      obtain ⟨q7, e8, h⟩ := bd_c h
      refine ev_callVi (av := [.ref (rf 25 (x1).toNatClampNeg), .int x2]) dX9_ill_31 (c_X8_showsSecret n (rf 25 (x1).toNatClampNeg) x2 e6.2.1 e6.2.2 A q7 e8) mk_X8_showsSecret lk_X9_200 iv_X8_showsSecret (Or.inl ⟨8, _, by decide, rfl, by decide, rfl, rfl⟩) rfl (by decide) (by decide) (Nat.le_of_ble_eq_true rfl) rfl ?_
      refine ev_if_eq (tgt := 39) dX9_ill_34 (by decide) (fun c9 => ?_) (fun c9 => ?_)
      · have h := if_t c9 h
        refine ev_iinc (v := x2 + 1) (ls' := [(2, .int (x2 + 1)), (0, .ref 0), (1, .int x1)]) 2 dX9_ill_39 rfl rfl (by decide) rfl ?_
        refine ev_goto (tgt := 14) dX9_ill_42 (by decide) ?_
        refine ev_pick [1, 2, 0] (ls' := [(0, .ref 0), (1, .int x1), (2, .int (x2 + 1))]) rfl ?_
        exact ih x1 (x2 + 1) _ q h
      · have h := if_f c9 h
        refine ev_iload_n 2 dX9_ill_37 rfl rfl ?_
        cases h
        exact ev_iret dX9_ill_38 rfl rfl ⟨rfl, rfl⟩
def f_X9_ill (n : Nat) (x1 : Int32) (A : Mem) : Option (Int32 × Mem) :=
  (f_X9_isBelow n x1 ((6 : Int32)) A).bind fun q1 =>
  if q1.1 = 0 then
    some ((-2 : Int32), q1.2)
  else
    g_X9_ill_14 n  n x1 ((0 : Int32)) q1.2
set_option maxRecDepth 100000 in
set_option maxHeartbeats 4000000 in
theorem c_X9_ill (n : Nat) (x1 : Int32) (A : Mem) (q : Int32 × Mem) (h : f_X9_ill n x1 A = some q) : Ct yX9_ill cX9_ill 3 (some .int) 3 [.ref 0, .int x1] A (RI q) := by
  unfold f_X9_ill at h
  refine ct_of (by decide) (Nat.le_of_ble_eq_true rfl) ?_
  show Ev cX9_ill 3 RX9 (some .int) 3 none 0 [(0, .ref 0), (1, .int x1)] [] A (RI q)
  refine ev_iload_n 1 dX9_ill_0 rfl rfl ?_
  refine ev_bipush (v := 6) dX9_ill_1 (by decide) ?_
  obtain ⟨q1, e2, h⟩ := bd_c h
  refine ev_callSi (av := [.int x1, .int ((6 : Int32))]) dX9_ill_3 (c_X9_isBelow n x1 ((6 : Int32))  A q1 e2) mk_X9_isBelow lk_X9_93 is_X9_isBelow rfl (by decide) (by decide) (Nat.le_of_ble_eq_true rfl) rfl ?_
  refine ev_if_ne (tgt := 12) dX9_ill_6 (by decide) (fun c3 => ?_) (fun c3 => ?_)
  · have h := if_f c3 h
    refine ev_iconst (v := 0) dX9_ill_12 (by decide) ?_
    refine ev_istore_n (ls' := [(2, .int ((0 : Int32))), (0, .ref 0), (1, .int x1)]) dX9_ill_13 rfl (by decide) rfl ?_
    refine ev_pick [1, 2, 0] (ls' := [(0, .ref 0), (1, .int x1), (2, .int ((0 : Int32)))]) rfl ?_
    exact (l_X9_ill_14 n   n) x1 ((0 : Int32)) _ q h
  · have h := if_t c3 h
    refine ev_bipush (v := -2) dX9_ill_9 (by decide) ?_
    cases h
    exact ev_iret dX9_ill_11 rfl rfl ⟨rfl, rfl⟩
def f_X3_addEyes (n : Nat) (p0 : Nat) (x1 : Int32) (x2 : Int32) (x3 : Int32) (A : Mem) : Option (Int32 × Mem) :=
  if (A p0 4) < ((6 : Int32)) then
    if ¬ (A p0 4) < 0 ∧ (A p0 4).toNatClampNeg < 6 then
      if ¬ ((st2 A (rf p0 1) (A p0 4).toNatClampNeg x1) p0 4) < 0 ∧ ((st2 A (rf p0 1) (A p0 4).toNatClampNeg x1) p0 4).toNatClampNeg < 6 then
        if ¬ ((st2 (st2 A (rf p0 1) (A p0 4).toNatClampNeg x1) (rf p0 2) ((st2 A (rf p0 1) (A p0 4).toNatClampNeg x1) p0 4).toNatClampNeg x2) p0 4) < 0 ∧ ((st2 (st2 A (rf p0 1) (A p0 4).toNatClampNeg x1) (rf p0 2) ((st2 A (rf p0 1) (A p0 4).toNatClampNeg x1) p0 4).toNatClampNeg x2) p0 4).toNatClampNeg < 6 then
          some ((st2 (st2 (st2 (st2 A (rf p0 1) (A p0 4).toNatClampNeg x1) (rf p0 2) ((st2 A (rf p0 1) (A p0 4).toNatClampNeg x1) p0 4).toNatClampNeg x2) (rf p0 3) ((st2 (st2 A (rf p0 1) (A p0 4).toNatClampNeg x1) (rf p0 2) ((st2 A (rf p0 1) (A p0 4).toNatClampNeg x1) p0 4).toNatClampNeg x2) p0 4).toNatClampNeg x3) p0 4 (((st2 (st2 (st2 A (rf p0 1) (A p0 4).toNatClampNeg x1) (rf p0 2) ((st2 A (rf p0 1) (A p0 4).toNatClampNeg x1) p0 4).toNatClampNeg x2) (rf p0 3) ((st2 (st2 A (rf p0 1) (A p0 4).toNatClampNeg x1) (rf p0 2) ((st2 A (rf p0 1) (A p0 4).toNatClampNeg x1) p0 4).toNatClampNeg x2) p0 4).toNatClampNeg x3) p0 4) + ((1 : Int32)))) p0 4, st2 (st2 (st2 (st2 A (rf p0 1) (A p0 4).toNatClampNeg x1) (rf p0 2) ((st2 A (rf p0 1) (A p0 4).toNatClampNeg x1) p0 4).toNatClampNeg x2) (rf p0 3) ((st2 (st2 A (rf p0 1) (A p0 4).toNatClampNeg x1) (rf p0 2) ((st2 A (rf p0 1) (A p0 4).toNatClampNeg x1) p0 4).toNatClampNeg x2) p0 4).toNatClampNeg x3) p0 4 (((st2 (st2 (st2 A (rf p0 1) (A p0 4).toNatClampNeg x1) (rf p0 2) ((st2 A (rf p0 1) (A p0 4).toNatClampNeg x1) p0 4).toNatClampNeg x2) (rf p0 3) ((st2 (st2 A (rf p0 1) (A p0 4).toNatClampNeg x1) (rf p0 2) ((st2 A (rf p0 1) (A p0 4).toNatClampNeg x1) p0 4).toNatClampNeg x2) p0 4).toNatClampNeg x3) p0 4) + ((1 : Int32))))
        else
          none
      else
        none
    else
      none
  else
    some ((-5 : Int32), A)
set_option maxRecDepth 100000 in
set_option maxHeartbeats 4000000 in
theorem c_X3_addEyes (n : Nat) (p0 : Nat) (x1 : Int32) (x2 : Int32) (x3 : Int32) (hp0 : p0 < NT) (hk0 : kd p0 = 3) (A : Mem) (q : Int32 × Mem) (h : f_X3_addEyes n p0 x1 x2 x3 A = some q) : Ct yX3_addEyes cX3_addEyes 4 (some .int) 0 [.ref p0, .int x1, .int x2, .int x3] A (RI q) := by
  unfold f_X3_addEyes at h
  refine ct_of (by decide) (Nat.le_of_ble_eq_true rfl) ?_
  show Ev cX3_addEyes 4 RX3 (some .int) 0 none 0 [(0, .ref p0), (1, .int x1), (2, .int x2), (3, .int x3)] [] A (RI q)
  refine ev_aload_n 0 dX3_addEyes_0 rfl rfl ?_
  refine ev_getI dX3_addEyes_1 fl_X3_32 hp0 hk0 (sl_3_4 p0 hp0 hk0) (by decide) (sn_3_4 p0 hp0 hk0) ?_
  refine ev_bipush (v := 6) dX3_addEyes_4 (by decide) ?_
  refine ev_icmp_lt (tgt := 12) dX3_addEyes_6 (by decide) (fun c1 => ?_) (fun c1 => ?_)
  · have h := if_t c1 h
    refine ev_aload_n 0 dX3_addEyes_12 rfl rfl ?_
    refine ev_getR (r := rf p0 1) dX3_addEyes_13 fl_X3_23 hp0 hk0 (sl_3_1 p0 hp0 hk0) (by decide) (sr_3_1 p0 hp0 hk0) ?_
    refine ev_aload_n 0 dX3_addEyes_16 rfl rfl ?_
    refine ev_getI dX3_addEyes_17 fl_X3_32 hp0 hk0 (sl_3_4 p0 hp0 hk0) (by decide) (sn_3_4 p0 hp0 hk0) ?_
    refine ev_iload_n 1 dX3_addEyes_20 rfl rfl ?_
    obtain ⟨c2, h⟩ := if_c h
    refine ev_iastc 6 dX3_addEyes_21 (sa_3_1 p0 hp0 hk0).1 (sa_3_1 p0 hp0 hk0).2.1 (sa_3_1 p0 hp0 hk0).2.2 (by decide) c2 ?_
    refine ev_aload_n 0 dX3_addEyes_22 rfl rfl ?_
    refine ev_getR (r := rf p0 2) dX3_addEyes_23 fl_X3_26 hp0 hk0 (sl_3_2 p0 hp0 hk0) (by decide) (sr_3_2 p0 hp0 hk0) ?_
    refine ev_aload_n 0 dX3_addEyes_26 rfl rfl ?_
    refine ev_getI dX3_addEyes_27 fl_X3_32 hp0 hk0 (sl_3_4 p0 hp0 hk0) (by decide) (sn_3_4 p0 hp0 hk0) ?_
    refine ev_iload_n 2 dX3_addEyes_30 rfl rfl ?_
    obtain ⟨c3, h⟩ := if_c h
    refine ev_iastc 6 dX3_addEyes_31 (sa_3_2 p0 hp0 hk0).1 (sa_3_2 p0 hp0 hk0).2.1 (sa_3_2 p0 hp0 hk0).2.2 (by decide) c3 ?_
    refine ev_aload_n 0 dX3_addEyes_32 rfl rfl ?_
    refine ev_getR (r := rf p0 3) dX3_addEyes_33 fl_X3_29 hp0 hk0 (sl_3_3 p0 hp0 hk0) (by decide) (sr_3_3 p0 hp0 hk0) ?_
    refine ev_aload_n 0 dX3_addEyes_36 rfl rfl ?_
    refine ev_getI dX3_addEyes_37 fl_X3_32 hp0 hk0 (sl_3_4 p0 hp0 hk0) (by decide) (sn_3_4 p0 hp0 hk0) ?_
    refine ev_iload_n 3 dX3_addEyes_40 rfl rfl ?_
    obtain ⟨c4, h⟩ := if_c h
    refine ev_iastc 6 dX3_addEyes_41 (sa_3_3 p0 hp0 hk0).1 (sa_3_3 p0 hp0 hk0).2.1 (sa_3_3 p0 hp0 hk0).2.2 (by decide) c4 ?_
    refine ev_aload_n 0 dX3_addEyes_42 rfl rfl ?_
    refine ev_dup dX3_addEyes_43 rfl ?_
    refine ev_getI dX3_addEyes_44 fl_X3_32 hp0 hk0 (sl_3_4 p0 hp0 hk0) (by decide) (sn_3_4 p0 hp0 hk0) ?_
    refine ev_iconst (v := 1) dX3_addEyes_47 (by decide) ?_
    refine ev_iadd dX3_addEyes_48 ?_
    refine ev_put2 dX3_addEyes_49 fl_X3_32 pk_3_4 hp0 hk0 (sl_3_4 p0 hp0 hk0) (by decide) (sn_3_4 p0 hp0 hk0) ?_
    refine ev_aload_n 0 dX3_addEyes_52 rfl rfl ?_
    refine ev_getI dX3_addEyes_53 fl_X3_32 hp0 hk0 (sl_3_4 p0 hp0 hk0) (by decide) (sn_3_4 p0 hp0 hk0) ?_
    cases h
    exact ev_iret dX3_addEyes_56 rfl rfl ⟨rfl, rfl⟩
  · have h := if_f c1 h
    refine ev_bipush (v := -5) dX3_addEyes_9 (by decide) ?_
    cases h
    exact ev_iret dX3_addEyes_11 rfl rfl ⟨rfl, rfl⟩
def f_X9_eyes (n : Nat) (x1 : Int32) (x2 : Int32) (x3 : Int32) (x4 : Int32) (A : Mem) : Option (Int32 × Mem) :=
  (f_X9_isBelow n x1 ((2 : Int32)) A).bind fun q1 =>
  if q1.1 = 0 then
    some ((-2 : Int32), q1.2)
  else
    (f_X9_isBelow n x2 ((8 : Int32)) q1.2).bind fun q4 =>
    if q4.1 = 0 then
      some ((-2 : Int32), q4.2)
    else
      (f_X9_isSpan n x3 x4 q4.2).bind fun q7 =>
      if q7.1 = 0 then
        some ((-3 : Int32), q7.2)
      else
        if ¬ x1 < 0 ∧ (x1).toNatClampNeg < 2 then
          (f_X3_addEyes n (rf 50 (x1).toNatClampNeg) x2 x3 x4 q7.2).bind fun q12 =>
          some (q12.1, q12.2)
        else
          none
set_option maxRecDepth 100000 in
set_option maxHeartbeats 4000000 in
theorem c_X9_eyes (n : Nat) (x1 : Int32) (x2 : Int32) (x3 : Int32) (x4 : Int32) (A : Mem) (q : Int32 × Mem) (h : f_X9_eyes n x1 x2 x3 x4 A = some q) : Ct yX9_eyes cX9_eyes 5 (some .int) 2 [.ref 0, .int x1, .int x2, .int x3, .int x4] A (RI q) := by
  unfold f_X9_eyes at h
  refine ct_of (by decide) (Nat.le_of_ble_eq_true rfl) ?_
  show Ev cX9_eyes 5 RX9 (some .int) 2 none 0 [(0, .ref 0), (1, .int x1), (2, .int x2), (3, .int x3), (4, .int x4)] [] A (RI q)
  refine ev_iload_n 1 dX9_eyes_0 rfl rfl ?_
  refine ev_iconst (v := 2) dX9_eyes_1 (by decide) ?_
  obtain ⟨q1, e2, h⟩ := bd_c h
  refine ev_callSi (av := [.int x1, .int ((2 : Int32))]) dX9_eyes_2 (c_X9_isBelow n x1 ((2 : Int32))  A q1 e2) mk_X9_isBelow lk_X9_93 is_X9_isBelow rfl (by decide) (by decide) (Nat.le_of_ble_eq_true rfl) rfl ?_
  refine ev_if_eq (tgt := 17) dX9_eyes_5 (by decide) (fun c3 => ?_) (fun c3 => ?_)
  · have h := if_t c3 h
    refine ev_bipush (v := -2) dX9_eyes_17 (by decide) ?_
    cases h
    exact ev_iret dX9_eyes_19 rfl rfl ⟨rfl, rfl⟩
  · have h := if_f c3 h
    refine ev_iload_n 2 dX9_eyes_8 rfl rfl ?_
    refine ev_bipush (v := 8) dX9_eyes_9 (by decide) ?_
    obtain ⟨q4, e5, h⟩ := bd_c h
    refine ev_callSi (av := [.int x2, .int ((8 : Int32))]) dX9_eyes_11 (c_X9_isBelow n x2 ((8 : Int32))  q1.2 q4 e5) mk_X9_isBelow lk_X9_93 is_X9_isBelow rfl (by decide) (by decide) (Nat.le_of_ble_eq_true rfl) rfl ?_
    refine ev_if_ne (tgt := 20) dX9_eyes_14 (by decide) (fun c6 => ?_) (fun c6 => ?_)
    · have h := if_f c6 h
      refine ev_iload_n 3 dX9_eyes_20 rfl rfl ?_
      refine ev_iload 4 dX9_eyes_21 rfl ?_
      obtain ⟨q7, e8, h⟩ := bd_c h
      refine ev_callSi (av := [.int x3, .int x4]) dX9_eyes_23 (c_X9_isSpan n x3 x4  q4.2 q7 e8) mk_X9_isSpan lk_X9_100 is_X9_isSpan rfl (by decide) (by decide) (Nat.le_of_ble_eq_true rfl) rfl ?_
      refine ev_if_ne (tgt := 32) dX9_eyes_26 (by decide) (fun c9 => ?_) (fun c9 => ?_)
      · have h := if_f c9 h
        refine ev_aload_n 0 dX9_eyes_32 rfl rfl ?_
        refine ev_getR (r := 50) dX9_eyes_33 fl_X9_62 (by decide) rfl (by decide) (by decide) rfl ?_
        refine ev_iload_n 1 dX9_eyes_36 rfl rfl ?_
        obtain ⟨c10, h⟩ := if_c h
        have e11 := el_50 _ c10.2
        refine ev_aaldc 2 dX9_eyes_37 (by decide) rfl (Or.inr rfl) rfl (by decide) c10 e11.1 ?_
        refine ev_iload_n 2 dX9_eyes_38 rfl rfl ?_
        refine ev_iload_n 3 dX9_eyes_39 rfl rfl ?_
        refine ev_iload 4 dX9_eyes_40 rfl ?_
        obtain ⟨q12, e13, h⟩ := bd_c h
        refine ev_callVi (av := [.int x2, .int x3, .int x4]) dX9_eyes_42 (c_X3_addEyes n (rf 50 (x1).toNatClampNeg) x2 x3 x4 e11.2.1 e11.2.2 q7.2 q12 e13) mk_X3_addEyes lk_X9_204 iv_X3_addEyes (Or.inl ⟨3, _, e11.2.1, e11.2.2, by decide, rfl, rfl⟩) rfl (by decide) (by decide) (Nat.le_of_ble_eq_true rfl) rfl ?_
        cases h
        exact ev_iret dX9_eyes_45 rfl rfl ⟨rfl, rfl⟩
      · have h := if_t c9 h
        refine ev_bipush (v := -3) dX9_eyes_29 (by decide) ?_
        cases h
        exact ev_iret dX9_eyes_31 rfl rfl ⟨rfl, rfl⟩
    · have h := if_t c6 h
      refine ev_bipush (v := -2) dX9_eyes_17 (by decide) ?_
      cases h
      exact ev_iret dX9_eyes_19 rfl rfl ⟨rfl, rfl⟩
def f_X9_told (n : Nat) (x1 : Int32) (x2 : Int32) (A : Mem) : Option (Int32 × Mem) :=
  (f_X9_isBelow n x1 ((2 : Int32)) A).bind fun q1 =>
  if q1.1 = 0 then
    some ((-2 : Int32), q1.2)
  else
    (f_X9_isBelow n x2 ((6 : Int32)) q1.2).bind fun q4 =>
    if q4.1 = 0 then
      some ((-3 : Int32), q4.2)
    else
      if ¬ x1 < 0 ∧ (x1).toNatClampNeg < 2 then
        if ¬ x2 < 0 ∧ (x2).toNatClampNeg < 6 then
          some (q4.2 (rf (rf 50 (x1).toNatClampNeg) 0) (x2).toNatClampNeg, q4.2)
        else
          none
      else
        none
set_option maxRecDepth 100000 in
set_option maxHeartbeats 4000000 in
theorem c_X9_told (n : Nat) (x1 : Int32) (x2 : Int32) (A : Mem) (q : Int32 × Mem) (h : f_X9_told n x1 x2 A = some q) : Ct yX9_told cX9_told 3 (some .int) 1 [.ref 0, .int x1, .int x2] A (RI q) := by
  unfold f_X9_told at h
  refine ct_of (by decide) (Nat.le_of_ble_eq_true rfl) ?_
  show Ev cX9_told 3 RX9 (some .int) 1 none 0 [(0, .ref 0), (1, .int x1), (2, .int x2)] [] A (RI q)
  refine ev_iload_n 1 dX9_told_0 rfl rfl ?_
  refine ev_iconst (v := 2) dX9_told_1 (by decide) ?_
  obtain ⟨q1, e2, h⟩ := bd_c h
  refine ev_callSi (av := [.int x1, .int ((2 : Int32))]) dX9_told_2 (c_X9_isBelow n x1 ((2 : Int32))  A q1 e2) mk_X9_isBelow lk_X9_93 is_X9_isBelow rfl (by decide) (by decide) (Nat.le_of_ble_eq_true rfl) rfl ?_
  refine ev_if_ne (tgt := 11) dX9_told_5 (by decide) (fun c3 => ?_) (fun c3 => ?_)
  · have h := if_f c3 h
    refine ev_iload_n 2 dX9_told_11 rfl rfl ?_
    refine ev_bipush (v := 6) dX9_told_12 (by decide) ?_
    obtain ⟨q4, e5, h⟩ := bd_c h
    refine ev_callSi (av := [.int x2, .int ((6 : Int32))]) dX9_told_14 (c_X9_isBelow n x2 ((6 : Int32))  q1.2 q4 e5) mk_X9_isBelow lk_X9_93 is_X9_isBelow rfl (by decide) (by decide) (Nat.le_of_ble_eq_true rfl) rfl ?_
    refine ev_if_eq (tgt := 34) dX9_told_17 (by decide) (fun c6 => ?_) (fun c6 => ?_)
    · have h := if_t c6 h
      refine ev_bipush (v := -3) dX9_told_34 (by decide) ?_
      cases h
      exact ev_iret dX9_told_36 rfl rfl ⟨rfl, rfl⟩
    · have h := if_f c6 h
      refine ev_aload_n 0 dX9_told_20 rfl rfl ?_
      refine ev_getR (r := 50) dX9_told_21 fl_X9_62 (by decide) rfl (by decide) (by decide) rfl ?_
      refine ev_iload_n 1 dX9_told_24 rfl rfl ?_
      obtain ⟨c7, h⟩ := if_c h
      have e8 := el_50 _ c7.2
      refine ev_aaldc 2 dX9_told_25 (by decide) rfl (Or.inr rfl) rfl (by decide) c7 e8.1 ?_
      refine ev_getR (r := rf (rf 50 (x1).toNatClampNeg) 0) dX9_told_26 fl_X9_207 e8.2.1 e8.2.2 (sl_3_0 (rf 50 (x1).toNatClampNeg) e8.2.1 e8.2.2) (by decide) (sr_3_0 (rf 50 (x1).toNatClampNeg) e8.2.1 e8.2.2) ?_
      refine ev_iload_n 2 dX9_told_29 rfl rfl ?_
      obtain ⟨c9, h⟩ := if_c h
      refine ev_ialdc 6 dX9_told_30 (sa_3_0 (rf 50 (x1).toNatClampNeg) e8.2.1 e8.2.2).1 (sa_3_0 (rf 50 (x1).toNatClampNeg) e8.2.1 e8.2.2).2.1 (sa_3_0 (rf 50 (x1).toNatClampNeg) e8.2.1 e8.2.2).2.2 (by decide) c9 ?_
      refine ev_goto (tgt := 36) dX9_told_31 (by decide) ?_
      cases h
      exact ev_iret dX9_told_36 rfl rfl ⟨rfl, rfl⟩
  · have h := if_t c3 h
    refine ev_bipush (v := -2) dX9_told_8 (by decide) ?_
    cases h
    exact ev_iret dX9_told_10 rfl rfl ⟨rfl, rfl⟩
def g_X3_knows_21 (n : Nat) (p0 : Nat) : Nat → Int32 → Int32 → Int32 → Mem → Option (Int32 × Mem)
  | 0, _, _, _, _ => none
  | m + 1, x3, x4, x5, A =>
    if (A p0 4) ≤ x5 then
      some ((0 : Int32), A)
    else
      if ¬ x5 < 0 ∧ (x5).toNatClampNeg < 6 then
        if (A (rf p0 1) (x5).toNatClampNeg) = x4 then
          if x3 < (A (rf p0 2) (x5).toNatClampNeg) then
            g_X3_knows_21 n p0 m x3 x4 (x5 + 1) A
          else
            if (A (rf p0 3) (x5).toNatClampNeg) < x3 then
              g_X3_knows_21 n p0 m x3 x4 (x5 + 1) A
            else
              some ((1 : Int32), A)
        else
          g_X3_knows_21 n p0 m x3 x4 (x5 + 1) A
      else
        none
set_option maxRecDepth 100000 in
set_option maxHeartbeats 4000000 in
theorem l_X3_knows_21 (n : Nat) (p0 : Nat) (hp0 : p0 < NT) (hk0 : kd p0 = 3) : ∀ (m : Nat) (x3 : Int32) (x4 : Int32) (x5 : Int32) (A : Mem) (q : Int32 × Mem), g_X3_knows_21 n p0 m x3 x4 x5 A = some q → Ev cX3_knows 6 RX3 (some .boolean) 1 none 21 [(0, .ref p0), (3, .int x3), (4, .int x4), (5, .int x5)] [] A (RI q) := by
  intro m
  induction m with
  | zero => intro x3 x4 x5 A q h; exact absurd h (by simp [g_X3_knows_21])
  | succ m ih =>
    intro x3 x4 x5 A q h
    rw [g_X3_knows_21] at h
    refine ev_iload 3 dX3_knows_21 rfl ?_
    refine ev_aload_n 0 dX3_knows_23 rfl rfl ?_
    refine ev_getI dX3_knows_24 fl_X3_32 hp0 hk0 (sl_3_4 p0 hp0 hk0) (by decide) (sn_3_4 p0 hp0 hk0) ?_
    refine ev_icmp_ge (tgt := 72) dX3_knows_27 (by decide) (fun c6 => ?_) (fun c6 => ?_)
    · have h := if_t c6 h
      refine ev_iconst (v := 0) dX3_knows_72 (by decide) ?_
      cases h
      exact ev_iret dX3_knows_73 rfl rfl ⟨rfl, rfl⟩
    · have h := if_f c6 h
      refine ev_aload_n 0 dX3_knows_30 rfl rfl ?_
      refine ev_getR (r := rf p0 1) dX3_knows_31 fl_X3_23 hp0 hk0 (sl_3_1 p0 hp0 hk0) (by decide) (sr_3_1 p0 hp0 hk0) ?_
      refine ev_iload 3 dX3_knows_34 rfl ?_
      obtain ⟨c7, h⟩ := if_c h
      refine ev_ialdc 6 dX3_knows_36 (sa_3_1 p0 hp0 hk0).1 (sa_3_1 p0 hp0 hk0).2.1 (sa_3_1 p0 hp0 hk0).2.2 (by decide) c7 ?_
      refine ev_iload 2 dX3_knows_37 rfl ?_
      refine ev_icmp_ne (tgt := 66) dX3_knows_39 (by decide) (fun c8 => ?_) (fun c8 => ?_)
      · have h := if_f c8 h
        refine ev_iinc (v := x5 + 1) (ls' := [(5, .int (x5 + 1)), (0, .ref p0), (3, .int x3), (4, .int x4)]) 3 dX3_knows_66 rfl rfl (by decide) rfl ?_
        refine ev_goto (tgt := 21) dX3_knows_69 (by decide) ?_
        refine ev_pick [1, 2, 3, 0] (ls' := [(0, .ref p0), (3, .int x3), (4, .int x4), (5, .int (x5 + 1))]) rfl ?_
        exact ih x3 x4 (x5 + 1) _ q h
      · have h := if_t c8 h
        refine ev_aload_n 0 dX3_knows_42 rfl rfl ?_
        refine ev_getR (r := rf p0 2) dX3_knows_43 fl_X3_26 hp0 hk0 (sl_3_2 p0 hp0 hk0) (by decide) (sr_3_2 p0 hp0 hk0) ?_
        refine ev_iload 3 dX3_knows_46 rfl ?_
        refine ev_ialdc 6 dX3_knows_48 (sa_3_2 p0 hp0 hk0).1 (sa_3_2 p0 hp0 hk0).2.1 (sa_3_2 p0 hp0 hk0).2.2 (by decide) c7 ?_
        refine ev_iload_n 1 dX3_knows_49 rfl rfl ?_
        refine ev_icmp_gt (tgt := 66) dX3_knows_50 (by decide) (fun c9 => ?_) (fun c9 => ?_)
        · have h := if_t c9 h
          refine ev_iinc (v := x5 + 1) (ls' := [(5, .int (x5 + 1)), (0, .ref p0), (3, .int x3), (4, .int x4)]) 3 dX3_knows_66 rfl rfl (by decide) rfl ?_
          refine ev_goto (tgt := 21) dX3_knows_69 (by decide) ?_
          refine ev_pick [1, 2, 3, 0] (ls' := [(0, .ref p0), (3, .int x3), (4, .int x4), (5, .int (x5 + 1))]) rfl ?_
          exact ih x3 x4 (x5 + 1) _ q h
        · have h := if_f c9 h
          refine ev_iload_n 1 dX3_knows_53 rfl rfl ?_
          refine ev_aload_n 0 dX3_knows_54 rfl rfl ?_
          refine ev_getR (r := rf p0 3) dX3_knows_55 fl_X3_29 hp0 hk0 (sl_3_3 p0 hp0 hk0) (by decide) (sr_3_3 p0 hp0 hk0) ?_
          refine ev_iload 3 dX3_knows_58 rfl ?_
          refine ev_ialdc 6 dX3_knows_60 (sa_3_3 p0 hp0 hk0).1 (sa_3_3 p0 hp0 hk0).2.1 (sa_3_3 p0 hp0 hk0).2.2 (by decide) c7 ?_
          refine ev_icmp_gt (tgt := 66) dX3_knows_61 (by decide) (fun c10 => ?_) (fun c10 => ?_)
          · have h := if_t c10 h
            refine ev_iinc (v := x5 + 1) (ls' := [(5, .int (x5 + 1)), (0, .ref p0), (3, .int x3), (4, .int x4)]) 3 dX3_knows_66 rfl rfl (by decide) rfl ?_
            refine ev_goto (tgt := 21) dX3_knows_69 (by decide) ?_
            refine ev_pick [1, 2, 3, 0] (ls' := [(0, .ref p0), (3, .int x3), (4, .int x4), (5, .int (x5 + 1))]) rfl ?_
            exact ih x3 x4 (x5 + 1) _ q h
          · have h := if_f c10 h
            refine ev_iconst (v := 1) dX3_knows_64 (by decide) ?_
            cases h
            exact ev_iret dX3_knows_65 rfl rfl ⟨rfl, rfl⟩
def f_X3_knows (n : Nat) (p0 : Nat) (x1 : Int32) (x2 : Int32) (A : Mem) : Option (Int32 × Mem) :=
  (f_X9_dayOf n x1 A).bind fun q1 =>
  (f_X9_placeOf n x1 q1.2).bind fun q3 =>
  if q1.1 ≤ x2 then
    g_X3_knows_21 n p0 n q1.1 q3.1 ((0 : Int32)) q3.2
  else
    some ((0 : Int32), q3.2)
set_option maxRecDepth 100000 in
set_option maxHeartbeats 4000000 in
theorem c_X3_knows (n : Nat) (p0 : Nat) (x1 : Int32) (x2 : Int32) (hp0 : p0 < NT) (hk0 : kd p0 = 3) (A : Mem) (q : Int32 × Mem) (h : f_X3_knows n p0 x1 x2 A = some q) : Ct yX3_knows cX3_knows 6 (some .boolean) 1 [.ref p0, .int x1, .int x2] A (RI q) := by
  unfold f_X3_knows at h
  refine ct_of (by decide) (Nat.le_of_ble_eq_true rfl) ?_
  show Ev cX3_knows 6 RX3 (some .boolean) 1 none 0 [(0, .ref p0), (1, .int x1), (2, .int x2)] [] A (RI q)
  refine ev_iload_n 1 dX3_knows_0 rfl rfl ?_
  obtain ⟨q1, e2, h⟩ := bd_c h
  refine ev_callSi (av := [.int x1]) dX3_knows_1 (c_X9_dayOf n x1  A q1 e2) mk_X9_dayOf lk_X3_53 is_X9_dayOf rfl (by decide) (by decide) (Nat.le_of_ble_eq_true rfl) rfl ?_
  refine ev_istore_n (ls' := [(3, .int q1.1), (0, .ref p0), (1, .int x1), (2, .int x2)]) dX3_knows_4 rfl (by decide) rfl ?_
  refine ev_iload_n 2 dX3_knows_5 rfl rfl ?_
  obtain ⟨q3, e4, h⟩ := bd_c h
  refine ev_callSi (av := [.int x1]) dX3_knows_6 (c_X9_placeOf n x1  q1.2 q3 e4) mk_X9_placeOf lk_X3_57 is_X9_placeOf rfl (by decide) (by decide) (Nat.le_of_ble_eq_true rfl) rfl ?_
  refine ev_istore (ls' := [(4, .int q3.1), (3, .int q1.1), (0, .ref p0), (1, .int x1), (2, .int x2)]) dX3_knows_9 (by decide) rfl ?_
  refine ev_iload_n 1 dX3_knows_11 rfl rfl ?_
  refine ev_iload_n 4 dX3_knows_12 rfl rfl ?_
  refine ev_icmp_le (tgt := 18) dX3_knows_13 (by decide) (fun c5 => ?_) (fun c5 => ?_)
  · have h := if_t c5 h
    refine ev_iconst (v := 0) dX3_knows_18 (by decide) ?_
    refine ev_istore (ls' := [(5, .int ((0 : Int32))), (4, .int q3.1), (3, .int q1.1), (0, .ref p0), (1, .int x1), (2, .int x2)]) dX3_knows_19 (by decide) rfl ?_
    refine ev_pick [3, 2, 1, 0] (ls' := [(0, .ref p0), (3, .int q1.1), (4, .int q3.1), (5, .int ((0 : Int32)))]) rfl ?_
    exact (l_X3_knows_21 n p0 hp0 hk0 n) q1.1 q3.1 ((0 : Int32)) _ q h
  · have h := if_f c5 h
    refine ev_iconst (v := 0) dX3_knows_16 (by decide) ?_
    cases h
    exact ev_iret dX3_knows_17 rfl rfl ⟨rfl, rfl⟩
