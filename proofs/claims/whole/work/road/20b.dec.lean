def f_X10_saw (n : Nat) (x1 : Int32) (x2 : Int32) (A : Mem) : Option (Int32 × Mem) :=
  (f_X10_isAgent n x1 A).bind fun q1 =>
  if q1.1 = 0 then
    some ((-2 : Int32), q1.2)
  else
    (f_X10_isDay n x2 q1.2).bind fun q4 =>
    if q4.1 = 0 then
      some ((-3 : Int32), q4.2)
    else
      (f_X10_whereIs n x1 x2 q4.2).bind fun q7 =>
      if ¬ q7.1 < 0 ∧ (q7.1).toNatClampNeg < 8 then
        some (q7.2 81 (q7.1).toNatClampNeg, q7.2)
      else
        none
set_option maxRecDepth 100000 in
set_option maxHeartbeats 4000000 in
theorem c_X10_saw (n : Nat) (x1 : Int32) (x2 : Int32) (A : Mem) (q : Int32 × Mem) (h : f_X10_saw n x1 x2 A = some q) : Ct yX10_saw cX10_saw 3 (some .int) 2 [.ref 80, .int x1, .int x2] A (RI q) := by
  unfold f_X10_saw at h
  refine ct_of (by decide) (Nat.le_of_ble_eq_true rfl) ?_
  show Ev cX10_saw 3 RX10 (some .int) 2 none 0 [(0, .ref 80), (1, .int x1), (2, .int x2)] [] A (RI q)
  refine ev_iload_n 1 dX10_saw_0 rfl rfl ?_
  obtain ⟨q1, e2, h⟩ := bd_c h
  refine ev_callSi (av := [.int x1]) dX10_saw_1 (c_X10_isAgent n x1  A q1 e2) mk_X10_isAgent lk_X10_155 is_X10_isAgent rfl (by decide) (by decide) (Nat.le_of_ble_eq_true rfl) rfl ?_
  refine ev_if_ne (tgt := 10) dX10_saw_4 (by decide) (fun c3 => ?_) (fun c3 => ?_)
  · have h := if_f c3 h
    refine ev_iload_n 2 dX10_saw_10 rfl rfl ?_
    obtain ⟨q4, e5, h⟩ := bd_c h
    refine ev_callSi (av := [.int x2]) dX10_saw_11 (c_X10_isDay n x2  q1.2 q4 e5) mk_X10_isDay lk_X10_142 is_X10_isDay rfl (by decide) (by decide) (Nat.le_of_ble_eq_true rfl) rfl ?_
    refine ev_if_eq (tgt := 31) dX10_saw_14 (by decide) (fun c6 => ?_) (fun c6 => ?_)
    · have h := if_t c6 h
      refine ev_bipush (v := -3) dX10_saw_31 (by decide) ?_
      cases h
      exact ev_iret dX10_saw_33 rfl rfl ⟨rfl, rfl⟩
    · have h := if_f c6 h
      refine ev_aload_n 0 dX10_saw_17 rfl rfl ?_
      refine ev_getR (r := 81) dX10_saw_18 fl_X10_7 (by decide) rfl (by decide) (by decide) rfl ?_
      refine ev_aload_n 0 dX10_saw_21 rfl rfl ?_
      refine ev_iload_n 1 dX10_saw_22 rfl rfl ?_
      refine ev_iload_n 2 dX10_saw_23 rfl rfl ?_
      obtain ⟨q7, e8, h⟩ := bd_c h
      refine ev_callVi (av := [.int x1, .int x2]) dX10_saw_24 (c_X10_whereIs n x1 x2  q4.2 q7 e8) mk_X10_whereIs lk_X10_218 iv_X10_whereIs (Or.inl ⟨10, _, by decide, rfl, by decide, rfl, rfl⟩) rfl (by decide) (by decide) (Nat.le_of_ble_eq_true rfl) rfl ?_
      obtain ⟨c9, h⟩ := if_c h
      refine ev_ialdc 8 dX10_saw_27 (by decide) rfl rfl (by decide) c9 ?_
      refine ev_goto (tgt := 33) dX10_saw_28 (by decide) ?_
      cases h
      exact ev_iret dX10_saw_33 rfl rfl ⟨rfl, rfl⟩
  · have h := if_t c3 h
    refine ev_bipush (v := -2) dX10_saw_7 (by decide) ?_
    cases h
    exact ev_iret dX10_saw_9 rfl rfl ⟨rfl, rfl⟩
def f_X10_isWay (n : Nat) (x0 : Int32) (A : Mem) : Option (Int32 × Mem) :=
  (f_X10_in n ((x0).toInt64) ((0 : Int64)) ((2 : Int64)) A).bind fun q1 =>
  if q1.1 = 0 ∨ q1.1 = 1 then
    some (q1.1, q1.2)
  else
    none
set_option maxRecDepth 100000 in
set_option maxHeartbeats 4000000 in
theorem c_X10_isWay (n : Nat) (x0 : Int32) (A : Mem) (q : Int32 × Mem) (h : f_X10_isWay n x0 A = some q) : Ct yX10_isWay cX10_isWay 1 (some .boolean) 1 [.int x0] A (RI q) := by
  unfold f_X10_isWay at h
  refine ct_of (by decide) (Nat.le_of_ble_eq_true rfl) ?_
  show Ev cX10_isWay 1 RX10 (some .boolean) 1 none 0 [(0, .int x0)] [] A (RI q)
  refine ev_iload_n 0 dX10_isWay_0 rfl rfl ?_
  refine ev_i2l dX10_isWay_1 ?_
  refine ev_lconst (v := 0) dX10_isWay_2 (by decide) ?_
  refine ev_ldc2 dX10_isWay_3 kc_X10_131 ?_
  obtain ⟨q1, e2, h⟩ := bd_c h
  refine ev_callSi (av := [.long ((x0).toInt64), .long ((0 : Int64)), .long ((2 : Int64))]) dX10_isWay_6 (c_X10_in n ((x0).toInt64) ((0 : Int64)) ((2 : Int64))  A q1 e2) mk_X10_in lk_X10_121 is_X10_in rfl (by decide) (by decide) (Nat.le_of_ble_eq_true rfl) rfl ?_
  obtain ⟨c3, h⟩ := if_c h
  cases h
  exact ev_iret dX10_isWay_9 rfl (narB c3) ⟨rfl, rfl⟩
def f_X10_post (n : Nat) (x1 : Int32) (x2 : Int32) (A : Mem) : Option (Int32 × Mem) :=
  (f_X10_isWay n x1 A).bind fun q1 =>
  if q1.1 = 0 then
    some ((-2 : Int32), q1.2)
  else
    (f_X10_in n ((x2).toInt64) ((0 : Int64)) ((20 : Int64)) q1.2).bind fun q4 =>
    if q4.1 = 0 then
      some ((-3 : Int32), q4.2)
    else
      if ¬ x1 < 0 ∧ (x1).toNatClampNeg < 3 then
        some (q4.2 95 (x1).toNatClampNeg, st2 q4.2 95 (x1).toNatClampNeg x2)
      else
        none
set_option maxRecDepth 100000 in
set_option maxHeartbeats 4000000 in
theorem c_X10_post (n : Nat) (x1 : Int32) (x2 : Int32) (A : Mem) (q : Int32 × Mem) (h : f_X10_post n x1 x2 A = some q) : Ct yX10_post cX10_post 4 (some .int) 2 [.ref 80, .int x1, .int x2] A (RI q) := by
  unfold f_X10_post at h
  refine ct_of (by decide) (Nat.le_of_ble_eq_true rfl) ?_
  show Ev cX10_post 4 RX10 (some .int) 2 none 0 [(0, .ref 80), (1, .int x1), (2, .int x2)] [] A (RI q)
  refine ev_iload_n 1 dX10_post_0 rfl rfl ?_
  obtain ⟨q1, e2, h⟩ := bd_c h
  refine ev_callSi (av := [.int x1]) dX10_post_1 (c_X10_isWay n x1  A q1 e2) mk_X10_isWay lk_X10_222 is_X10_isWay rfl (by decide) (by decide) (Nat.le_of_ble_eq_true rfl) rfl ?_
  refine ev_if_ne (tgt := 10) dX10_post_4 (by decide) (fun c3 => ?_) (fun c3 => ?_)
  · have h := if_f c3 h
    refine ev_iload_n 2 dX10_post_10 rfl rfl ?_
    refine ev_i2l dX10_post_11 ?_
    refine ev_lconst (v := 0) dX10_post_12 (by decide) ?_
    refine ev_ldc2 dX10_post_13 kc_X10_225 ?_
    obtain ⟨q4, e5, h⟩ := bd_c h
    refine ev_callSi (av := [.long ((x2).toInt64), .long ((0 : Int64)), .long ((20 : Int64))]) dX10_post_16 (c_X10_in n ((x2).toInt64) ((0 : Int64)) ((20 : Int64))  q1.2 q4 e5) mk_X10_in lk_X10_121 is_X10_in rfl (by decide) (by decide) (Nat.le_of_ble_eq_true rfl) rfl ?_
    refine ev_if_ne (tgt := 25) dX10_post_19 (by decide) (fun c6 => ?_) (fun c6 => ?_)
    · have h := if_f c6 h
      refine ev_aload_n 0 dX10_post_25 rfl rfl ?_
      refine ev_getR (r := 95) dX10_post_26 fl_X10_53 (by decide) rfl (by decide) (by decide) rfl ?_
      refine ev_iload_n 1 dX10_post_29 rfl rfl ?_
      obtain ⟨c7, h⟩ := if_c h
      refine ev_ialdc 3 dX10_post_30 (by decide) rfl rfl (by decide) c7 ?_
      refine ev_istore_n (ls' := [(3, .int (q4.2 95 (x1).toNatClampNeg)), (0, .ref 80), (1, .int x1), (2, .int x2)]) dX10_post_31 rfl (by decide) rfl ?_
      refine ev_aload_n 1 dX10_post_32 rfl rfl ?_
      refine ev_getR (r := 95) dX10_post_33 fl_X10_53 (by decide) rfl (by decide) (by decide) rfl ?_
      refine ev_iload_n 2 dX10_post_36 rfl rfl ?_
      refine ev_iload_n 3 dX10_post_37 rfl rfl ?_
      refine ev_iastc 3 dX10_post_38 (by decide) rfl rfl (by decide) c7 ?_
      refine ev_iload_n 0 dX10_post_39 rfl rfl ?_
      cases h
      exact ev_iret dX10_post_40 rfl rfl ⟨rfl, rfl⟩
    · have h := if_t c6 h
      refine ev_bipush (v := -3) dX10_post_22 (by decide) ?_
      cases h
      exact ev_iret dX10_post_24 rfl rfl ⟨rfl, rfl⟩
  · have h := if_t c3 h
    refine ev_bipush (v := -2) dX10_post_7 (by decide) ?_
    cases h
    exact ev_iret dX10_post_9 rfl rfl ⟨rfl, rfl⟩
def f_X10_refuses (n : Nat) (x1 : Int32) (x2 : Int32) (x3 : Int32) (x4 : Int32) (x5 : Int32) (x6 : Int32) (x7 : Int32) (A : Mem) : Option (Int32 × Mem) :=
  (f_X10_isAgent n x1 A).bind fun q1 =>
  if q1.1 = 0 then
    some ((-2 : Int32), q1.2)
  else
    (f_X10_isWay n x3 q1.2).bind fun q4 =>
    if q4.1 = 0 then
      some ((-2 : Int32), q4.2)
    else
      (f_X10_isPlace n x4 q4.2).bind fun q7 =>
      if q7.1 = 0 then
        some ((-2 : Int32), q7.2)
      else
        (f_X10_isKind n x5 q7.2).bind fun q10 =>
        if q10.1 = 0 then
          some ((-2 : Int32), q10.2)
        else
          (f_X10_isDay n x2 q10.2).bind fun q13 =>
          if q13.1 = 0 then
            some ((-3 : Int32), q13.2)
          else
            (f_X10_isDay n x6 q13.2).bind fun q16 =>
            if q16.1 = 0 then
              some ((-3 : Int32), q16.2)
            else
              (f_X10_in n ((x7).toInt64) ((0 : Int64)) ((9 : Int64)) q16.2).bind fun q19 =>
              if q19.1 = 0 then
                some ((-3 : Int32), q19.2)
              else
                some ((0 : Int32), q19.2)
set_option maxRecDepth 100000 in
set_option maxHeartbeats 4000000 in
theorem c_X10_refuses (n : Nat) (x1 : Int32) (x2 : Int32) (x3 : Int32) (x4 : Int32) (x5 : Int32) (x6 : Int32) (x7 : Int32) (A : Mem) (q : Int32 × Mem) (h : f_X10_refuses n x1 x2 x3 x4 x5 x6 x7 A = some q) : Ct yX10_refuses cX10_refuses 8 (some .int) 2 [.ref 80, .int x1, .int x2, .int x3, .int x4, .int x5, .int x6, .int x7] A (RI q) := by
  unfold f_X10_refuses at h
  refine ct_of (by decide) (Nat.le_of_ble_eq_true rfl) ?_
  show Ev cX10_refuses 8 RX10 (some .int) 2 none 0 [(0, .ref 80), (1, .int x1), (2, .int x2), (3, .int x3), (4, .int x4), (5, .int x5), (6, .int x6), (7, .int x7)] [] A (RI q)
  refine ev_iload_n 1 dX10_refuses_0 rfl rfl ?_
  obtain ⟨q1, e2, h⟩ := bd_c h
  refine ev_callSi (av := [.int x1]) dX10_refuses_1 (c_X10_isAgent n x1  A q1 e2) mk_X10_isAgent lk_X10_155 is_X10_isAgent rfl (by decide) (by decide) (Nat.le_of_ble_eq_true rfl) rfl ?_
  refine ev_if_eq (tgt := 30) dX10_refuses_4 (by decide) (fun c3 => ?_) (fun c3 => ?_)
  · have h := if_t c3 h
    refine ev_bipush (v := -2) dX10_refuses_30 (by decide) ?_
    cases h
    exact ev_iret dX10_refuses_32 rfl rfl ⟨rfl, rfl⟩
  · have h := if_f c3 h
    refine ev_iload_n 3 dX10_refuses_7 rfl rfl ?_
    obtain ⟨q4, e5, h⟩ := bd_c h
    refine ev_callSi (av := [.int x3]) dX10_refuses_8 (c_X10_isWay n x3  q1.2 q4 e5) mk_X10_isWay lk_X10_222 is_X10_isWay rfl (by decide) (by decide) (Nat.le_of_ble_eq_true rfl) rfl ?_
    refine ev_if_eq (tgt := 30) dX10_refuses_11 (by decide) (fun c6 => ?_) (fun c6 => ?_)
    · have h := if_t c6 h
      refine ev_bipush (v := -2) dX10_refuses_30 (by decide) ?_
      cases h
      exact ev_iret dX10_refuses_32 rfl rfl ⟨rfl, rfl⟩
    · have h := if_f c6 h
      refine ev_iload 4 dX10_refuses_14 rfl ?_
      obtain ⟨q7, e8, h⟩ := bd_c h
      refine ev_callSi (av := [.int x4]) dX10_refuses_16 (c_X10_isPlace n x4  q4.2 q7 e8) mk_X10_isPlace lk_X10_133 is_X10_isPlace rfl (by decide) (by decide) (Nat.le_of_ble_eq_true rfl) rfl ?_
      refine ev_if_eq (tgt := 30) dX10_refuses_19 (by decide) (fun c9 => ?_) (fun c9 => ?_)
      · have h := if_t c9 h
        refine ev_bipush (v := -2) dX10_refuses_30 (by decide) ?_
        cases h
        exact ev_iret dX10_refuses_32 rfl rfl ⟨rfl, rfl⟩
      · have h := if_f c9 h
        refine ev_iload 5 dX10_refuses_22 rfl ?_
        obtain ⟨q10, e11, h⟩ := bd_c h
        refine ev_callSi (av := [.int x5]) dX10_refuses_24 (c_X10_isKind n x5  q7.2 q10 e11) mk_X10_isKind lk_X10_139 is_X10_isKind rfl (by decide) (by decide) (Nat.le_of_ble_eq_true rfl) rfl ?_
        refine ev_if_ne (tgt := 33) dX10_refuses_27 (by decide) (fun c12 => ?_) (fun c12 => ?_)
        · have h := if_f c12 h
          refine ev_iload_n 2 dX10_refuses_33 rfl rfl ?_
          obtain ⟨q13, e14, h⟩ := bd_c h
          refine ev_callSi (av := [.int x2]) dX10_refuses_34 (c_X10_isDay n x2  q10.2 q13 e14) mk_X10_isDay lk_X10_142 is_X10_isDay rfl (by decide) (by decide) (Nat.le_of_ble_eq_true rfl) rfl ?_
          refine ev_if_eq (tgt := 65) dX10_refuses_37 (by decide) (fun c15 => ?_) (fun c15 => ?_)
          · have h := if_t c15 h
            refine ev_bipush (v := -3) dX10_refuses_65 (by decide) ?_
            cases h
            exact ev_iret dX10_refuses_67 rfl rfl ⟨rfl, rfl⟩
          · have h := if_f c15 h
            refine ev_iload 6 dX10_refuses_40 rfl ?_
            obtain ⟨q16, e17, h⟩ := bd_c h
            refine ev_callSi (av := [.int x6]) dX10_refuses_42 (c_X10_isDay n x6  q13.2 q16 e17) mk_X10_isDay lk_X10_142 is_X10_isDay rfl (by decide) (by decide) (Nat.le_of_ble_eq_true rfl) rfl ?_
            refine ev_if_eq (tgt := 65) dX10_refuses_45 (by decide) (fun c18 => ?_) (fun c18 => ?_)
            · have h := if_t c18 h
              refine ev_bipush (v := -3) dX10_refuses_65 (by decide) ?_
              cases h
              exact ev_iret dX10_refuses_67 rfl rfl ⟨rfl, rfl⟩
            · have h := if_f c18 h
              refine ev_iload 7 dX10_refuses_48 rfl ?_
              refine ev_i2l dX10_refuses_50 ?_
              refine ev_lconst (v := 0) dX10_refuses_51 (by decide) ?_
              refine ev_ldc2 dX10_refuses_52 kc_X10_145 ?_
              obtain ⟨q19, e20, h⟩ := bd_c h
              refine ev_callSi (av := [.long ((x7).toInt64), .long ((0 : Int64)), .long ((9 : Int64))]) dX10_refuses_55 (c_X10_in n ((x7).toInt64) ((0 : Int64)) ((9 : Int64))  q16.2 q19 e20) mk_X10_in lk_X10_121 is_X10_in rfl (by decide) (by decide) (Nat.le_of_ble_eq_true rfl) rfl ?_
              refine ev_if_eq (tgt := 65) dX10_refuses_58 (by decide) (fun c21 => ?_) (fun c21 => ?_)
              · have h := if_t c21 h
                refine ev_bipush (v := -3) dX10_refuses_65 (by decide) ?_
                cases h
                exact ev_iret dX10_refuses_67 rfl rfl ⟨rfl, rfl⟩
              · have h := if_f c21 h
                refine ev_iconst (v := 0) dX10_refuses_61 (by decide) ?_
                refine ev_goto (tgt := 67) dX10_refuses_62 (by decide) ?_
                cases h
                exact ev_iret dX10_refuses_67 rfl rfl ⟨rfl, rfl⟩
        · have h := if_t c12 h
          refine ev_bipush (v := -2) dX10_refuses_30 (by decide) ?_
          cases h
          exact ev_iret dX10_refuses_32 rfl rfl ⟨rfl, rfl⟩
def f_X10_lay (n : Nat) (x1 : Int32) (x2 : Int32) (x3 : Int32) (x4 : Int32) (x5 : Int32) (x6 : Int32) (x7 : Int32) (x8 : Int32) (A : Mem) : Option (Int32 × Mem) :=
  if ¬ x1 < 0 ∧ (x1).toNatClampNeg < 34 then
    some (0, st2 (st2 (st2 (st2 (st2 (st2 (st2 A 96 (x1).toNatClampNeg x2) 97 (x1).toNatClampNeg x3) 98 (x1).toNatClampNeg x4) 99 (x1).toNatClampNeg x5) 100 (x1).toNatClampNeg x6) 101 (x1).toNatClampNeg x7) 102 (x1).toNatClampNeg x8)
  else
    none
set_option maxRecDepth 100000 in
set_option maxHeartbeats 4000000 in
theorem c_X10_lay (n : Nat) (x1 : Int32) (x2 : Int32) (x3 : Int32) (x4 : Int32) (x5 : Int32) (x6 : Int32) (x7 : Int32) (x8 : Int32) (A : Mem) (q : Int32 × Mem) (h : f_X10_lay n x1 x2 x3 x4 x5 x6 x7 x8 A = some q) : Ct yX10_lay cX10_lay 9 none 0 [.ref 80, .int x1, .int x2, .int x3, .int x4, .int x5, .int x6, .int x7, .int x8] A (RV q) := by
  unfold f_X10_lay at h
  refine ct_of (by decide) (Nat.le_of_ble_eq_true rfl) ?_
  show Ev cX10_lay 9 RX10 none 0 none 0 [(0, .ref 80), (1, .int x1), (2, .int x2), (3, .int x3), (4, .int x4), (5, .int x5), (6, .int x6), (7, .int x7), (8, .int x8)] [] A (RV q)
  refine ev_aload_n 0 dX10_lay_0 rfl rfl ?_
  refine ev_getR (r := 96) dX10_lay_1 fl_X10_56 (by decide) rfl (by decide) (by decide) rfl ?_
  refine ev_iload_n 1 dX10_lay_4 rfl rfl ?_
  refine ev_iload_n 2 dX10_lay_5 rfl rfl ?_
  obtain ⟨c1, h⟩ := if_c h
  refine ev_iastc 34 dX10_lay_6 (by decide) rfl rfl (by decide) c1 ?_
  refine ev_aload_n 0 dX10_lay_7 rfl rfl ?_
  refine ev_getR (r := 97) dX10_lay_8 fl_X10_59 (by decide) rfl (by decide) (by decide) rfl ?_
  refine ev_iload_n 1 dX10_lay_11 rfl rfl ?_
  refine ev_iload_n 3 dX10_lay_12 rfl rfl ?_
  refine ev_iastc 34 dX10_lay_13 (by decide) rfl rfl (by decide) c1 ?_
  refine ev_aload_n 0 dX10_lay_14 rfl rfl ?_
  refine ev_getR (r := 98) dX10_lay_15 fl_X10_62 (by decide) rfl (by decide) (by decide) rfl ?_
  refine ev_iload_n 1 dX10_lay_18 rfl rfl ?_
  refine ev_iload 4 dX10_lay_19 rfl ?_
  refine ev_iastc 34 dX10_lay_21 (by decide) rfl rfl (by decide) c1 ?_
  refine ev_aload_n 0 dX10_lay_22 rfl rfl ?_
  refine ev_getR (r := 99) dX10_lay_23 fl_X10_65 (by decide) rfl (by decide) (by decide) rfl ?_
  refine ev_iload_n 1 dX10_lay_26 rfl rfl ?_
  refine ev_iload 5 dX10_lay_27 rfl ?_
  refine ev_iastc 34 dX10_lay_29 (by decide) rfl rfl (by decide) c1 ?_
  refine ev_aload_n 0 dX10_lay_30 rfl rfl ?_
  refine ev_getR (r := 100) dX10_lay_31 fl_X10_68 (by decide) rfl (by decide) (by decide) rfl ?_
  refine ev_iload_n 1 dX10_lay_34 rfl rfl ?_
  refine ev_iload 6 dX10_lay_35 rfl ?_
  refine ev_iastc 34 dX10_lay_37 (by decide) rfl rfl (by decide) c1 ?_
  refine ev_aload_n 0 dX10_lay_38 rfl rfl ?_
  refine ev_getR (r := 101) dX10_lay_39 fl_X10_71 (by decide) rfl (by decide) (by decide) rfl ?_
  refine ev_iload_n 1 dX10_lay_42 rfl rfl ?_
  refine ev_iload 7 dX10_lay_43 rfl ?_
  refine ev_iastc 34 dX10_lay_45 (by decide) rfl rfl (by decide) c1 ?_
  refine ev_aload_n 0 dX10_lay_46 rfl rfl ?_
  refine ev_getR (r := 102) dX10_lay_47 fl_X10_74 (by decide) rfl (by decide) (by decide) rfl ?_
  refine ev_iload_n 1 dX10_lay_50 rfl rfl ?_
  refine ev_iload 8 dX10_lay_51 rfl ?_
  refine ev_iastc 34 dX10_lay_53 (by decide) rfl rfl (by decide) c1 ?_
  cases h
  exact ev_vret dX10_lay_54 rfl ⟨rfl, rfl⟩
def f_X10_send (n : Nat) (x1 : Int32) (x2 : Int32) (x3 : Int32) (x4 : Int32) (x5 : Int32) (x6 : Int32) (x7 : Int32) (A : Mem) : Option (Int32 × Mem) :=
  (f_X10_refuses n x1 x2 x3 x4 x5 x6 x7 A).bind fun q1 =>
  if q1.1 = 0 then
    if (q1.2 80 25) = ((24 : Int32)) then
      some ((-5 : Int32), q1.2)
    else
      (f_X10_lay n (q1.2 80 25) x1 x2 x3 x4 x5 x6 x7 q1.2).bind fun q5 =>
      some (((st2 q5.2 80 25 ((q5.2 80 25) + ((1 : Int32)))) 80 25) - ((1 : Int32)), st2 q5.2 80 25 ((q5.2 80 25) + ((1 : Int32))))
  else
    some (q1.1, q1.2)
set_option maxRecDepth 100000 in
set_option maxHeartbeats 4000000 in
theorem c_X10_send (n : Nat) (x1 : Int32) (x2 : Int32) (x3 : Int32) (x4 : Int32) (x5 : Int32) (x6 : Int32) (x7 : Int32) (A : Mem) (q : Int32 × Mem) (h : f_X10_send n x1 x2 x3 x4 x5 x6 x7 A = some q) : Ct yX10_send cX10_send 9 (some .int) 3 [.ref 80, .int x1, .int x2, .int x3, .int x4, .int x5, .int x6, .int x7] A (RI q) := by
  unfold f_X10_send at h
  refine ct_of (by decide) (Nat.le_of_ble_eq_true rfl) ?_
  show Ev cX10_send 9 RX10 (some .int) 3 none 0 [(0, .ref 80), (1, .int x1), (2, .int x2), (3, .int x3), (4, .int x4), (5, .int x5), (6, .int x6), (7, .int x7)] [] A (RI q)
  refine ev_aload_n 0 dX10_send_0 rfl rfl ?_
  refine ev_iload_n 1 dX10_send_1 rfl rfl ?_
  refine ev_iload_n 2 dX10_send_2 rfl rfl ?_
  refine ev_iload_n 3 dX10_send_3 rfl rfl ?_
  refine ev_iload 4 dX10_send_4 rfl ?_
  refine ev_iload 5 dX10_send_6 rfl ?_
  refine ev_iload 6 dX10_send_8 rfl ?_
  refine ev_iload 7 dX10_send_10 rfl ?_
  obtain ⟨q1, e2, h⟩ := bd_c h
  refine ev_callVi (av := [.int x1, .int x2, .int x3, .int x4, .int x5, .int x6, .int x7]) dX10_send_12 (c_X10_refuses n x1 x2 x3 x4 x5 x6 x7  A q1 e2) mk_X10_refuses lk_X10_227 iv_X10_refuses (Or.inl ⟨10, _, by decide, rfl, by decide, rfl, rfl⟩) rfl (by decide) (by decide) (Nat.le_of_ble_eq_true rfl) rfl ?_
  refine ev_istore (ls' := [(8, .int q1.1), (0, .ref 80), (1, .int x1), (2, .int x2), (3, .int x3), (4, .int x4), (5, .int x5), (6, .int x6), (7, .int x7)]) dX10_send_15 (by decide) rfl ?_
  refine ev_iload 0 dX10_send_17 rfl ?_
  refine ev_if_ne (tgt := 31) dX10_send_19 (by decide) (fun c3 => ?_) (fun c3 => ?_)
  · have h := if_f c3 h
    refine ev_iload 0 dX10_send_31 rfl ?_
    refine ev_if_eq (tgt := 41) dX10_send_33 (by decide) (fun hh => absurd hh c3) (fun _ => ?_)
    refine ev_iload 0 dX10_send_36 rfl ?_
    refine ev_goto (tgt := 43) dX10_send_38 (by decide) ?_
    cases h
    exact ev_iret dX10_send_43 rfl rfl ⟨rfl, rfl⟩
  · have h := if_t c3 h
    refine ev_aload_n 1 dX10_send_22 rfl rfl ?_
    refine ev_getI dX10_send_23 fl_X10_231 (by decide) rfl (by decide) (by decide) rfl ?_
    refine ev_bipush (v := 24) dX10_send_26 (by decide) ?_
    refine ev_icmp_ne (tgt := 44) dX10_send_28 (by decide) (fun c4 => ?_) (fun c4 => ?_)
    · have h := if_f c4 h
      refine ev_aload_n 1 dX10_send_44 rfl rfl ?_
      refine ev_aload_n 1 dX10_send_45 rfl rfl ?_
      refine ev_getI dX10_send_46 fl_X10_231 (by decide) rfl (by decide) (by decide) rfl ?_
      refine ev_iload_n 2 dX10_send_49 rfl rfl ?_
      refine ev_iload_n 3 dX10_send_50 rfl rfl ?_
      refine ev_iload_n 4 dX10_send_51 rfl rfl ?_
      refine ev_iload 5 dX10_send_52 rfl ?_
      refine ev_iload 6 dX10_send_54 rfl ?_
      refine ev_iload 7 dX10_send_56 rfl ?_
      refine ev_iload 8 dX10_send_58 rfl ?_
      obtain ⟨q5, e6, h⟩ := bd_c h
      refine ev_callVv (av := [.int (q1.2 80 25), .int x1, .int x2, .int x3, .int x4, .int x5, .int x6, .int x7]) dX10_send_60 (c_X10_lay n (q1.2 80 25) x1 x2 x3 x4 x5 x6 x7  q1.2 q5 e6) mk_X10_lay lk_X10_234 iv_X10_lay (Or.inl ⟨10, _, by decide, rfl, by decide, rfl, rfl⟩) rfl (by decide) (by decide) (Nat.le_of_ble_eq_true rfl) rfl ?_
      refine ev_aload_n 1 dX10_send_63 rfl rfl ?_
      refine ev_dup dX10_send_64 rfl ?_
      refine ev_getI dX10_send_65 fl_X10_231 (by decide) rfl (by decide) (by decide) rfl ?_
      refine ev_iconst (v := 1) dX10_send_68 (by decide) ?_
      refine ev_iadd dX10_send_69 ?_
      refine ev_put2 dX10_send_70 fl_X10_231 pk_10_25 (by decide) rfl (by decide) (by decide) rfl ?_
      refine ev_aload_n 1 dX10_send_73 rfl rfl ?_
      refine ev_getI dX10_send_74 fl_X10_231 (by decide) rfl (by decide) (by decide) rfl ?_
      refine ev_iconst (v := 1) dX10_send_77 (by decide) ?_
      refine ev_isub dX10_send_78 ?_
      cases h
      exact ev_iret dX10_send_79 rfl rfl ⟨rfl, rfl⟩
    · have h := if_t c4 h
      refine ev_iload 0 dX10_send_31 rfl ?_
      refine ev_if_eq (tgt := 41) dX10_send_33 (by decide) (fun _ => ?_) (fun hh => absurd c3 hh)
      refine ev_bipush (v := -5) dX10_send_41 (by decide) ?_
      cases h
      exact ev_iret dX10_send_43 rfl rfl ⟨rfl, rfl⟩
def f_X10_isLetter (n : Nat) (x1 : Int32) (A : Mem) : Option (Int32 × Mem) :=
  (f_X10_in n ((x1).toInt64) ((0 : Int64)) (((A 80 25) - ((1 : Int32))).toInt64) A).bind fun q1 =>
  if q1.1 = 0 ∨ q1.1 = 1 then
    some (q1.1, q1.2)
  else
    none
set_option maxRecDepth 100000 in
set_option maxHeartbeats 4000000 in
theorem c_X10_isLetter (n : Nat) (x1 : Int32) (A : Mem) (q : Int32 × Mem) (h : f_X10_isLetter n x1 A = some q) : Ct yX10_isLetter cX10_isLetter 2 (some .boolean) 1 [.ref 80, .int x1] A (RI q) := by
  unfold f_X10_isLetter at h
  refine ct_of (by decide) (Nat.le_of_ble_eq_true rfl) ?_
  show Ev cX10_isLetter 2 RX10 (some .boolean) 1 none 0 [(0, .ref 80), (1, .int x1)] [] A (RI q)
  refine ev_iload_n 1 dX10_isLetter_0 rfl rfl ?_
  refine ev_i2l dX10_isLetter_1 ?_
  refine ev_lconst (v := 0) dX10_isLetter_2 (by decide) ?_
  refine ev_aload_n 0 dX10_isLetter_3 rfl rfl ?_
  refine ev_getI dX10_isLetter_4 fl_X10_231 (by decide) rfl (by decide) (by decide) rfl ?_
  refine ev_iconst (v := 1) dX10_isLetter_7 (by decide) ?_
  refine ev_isub dX10_isLetter_8 ?_
  refine ev_i2l dX10_isLetter_9 ?_
  obtain ⟨q1, e2, h⟩ := bd_c h
  refine ev_callSi (av := [.long ((x1).toInt64), .long ((0 : Int64)), .long (((A 80 25) - ((1 : Int32))).toInt64)]) dX10_isLetter_10 (c_X10_in n ((x1).toInt64) ((0 : Int64)) (((A 80 25) - ((1 : Int32))).toInt64)  A q1 e2) mk_X10_in lk_X10_121 is_X10_in rfl (by decide) (by decide) (Nat.le_of_ble_eq_true rfl) rfl ?_
  obtain ⟨c3, h⟩ := if_c h
  cases h
  exact ev_iret dX10_isLetter_13 rfl (narB c3) ⟨rfl, rfl⟩
def f_X10_isRight (n : Nat) (x1 : Int32) (A : Mem) : Option (Int32 × Mem) :=
  if ¬ x1 < 0 ∧ (x1).toNatClampNeg < 34 then
    (f_X10_worldOf n (A 99 (x1).toNatClampNeg) (A 100 (x1).toNatClampNeg) (A 101 (x1).toNatClampNeg) A).bind fun q2 =>
    if q2.1 = (q2.2 102 (x1).toNatClampNeg) then
      some ((1 : Int32), q2.2)
    else
      some ((0 : Int32), q2.2)
  else
    none
set_option maxRecDepth 100000 in
set_option maxHeartbeats 4000000 in
theorem c_X10_isRight (n : Nat) (x1 : Int32) (A : Mem) (q : Int32 × Mem) (h : f_X10_isRight n x1 A = some q) : Ct yX10_isRight cX10_isRight 2 (some .boolean) 2 [.ref 80, .int x1] A (RI q) := by
  unfold f_X10_isRight at h
  refine ct_of (by decide) (Nat.le_of_ble_eq_true rfl) ?_
  show Ev cX10_isRight 2 RX10 (some .boolean) 2 none 0 [(0, .ref 80), (1, .int x1)] [] A (RI q)
  refine ev_aload_n 0 dX10_isRight_0 rfl rfl ?_
  refine ev_aload_n 0 dX10_isRight_1 rfl rfl ?_
  refine ev_getR (r := 99) dX10_isRight_2 fl_X10_65 (by decide) rfl (by decide) (by decide) rfl ?_
  refine ev_iload_n 1 dX10_isRight_5 rfl rfl ?_
  obtain ⟨c1, h⟩ := if_c h
  refine ev_ialdc 34 dX10_isRight_6 (by decide) rfl rfl (by decide) c1 ?_
  refine ev_aload_n 0 dX10_isRight_7 rfl rfl ?_
  refine ev_getR (r := 100) dX10_isRight_8 fl_X10_68 (by decide) rfl (by decide) (by decide) rfl ?_
  refine ev_iload_n 1 dX10_isRight_11 rfl rfl ?_
  refine ev_ialdc 34 dX10_isRight_12 (by decide) rfl rfl (by decide) c1 ?_
  refine ev_aload_n 0 dX10_isRight_13 rfl rfl ?_
  refine ev_getR (r := 101) dX10_isRight_14 fl_X10_71 (by decide) rfl (by decide) (by decide) rfl ?_
  refine ev_iload_n 1 dX10_isRight_17 rfl rfl ?_
  refine ev_ialdc 34 dX10_isRight_18 (by decide) rfl rfl (by decide) c1 ?_
  obtain ⟨q2, e3, h⟩ := bd_c h
  refine ev_callVi (av := [.int (A 99 (x1).toNatClampNeg), .int (A 100 (x1).toNatClampNeg), .int (A 101 (x1).toNatClampNeg)]) dX10_isRight_19 (c_X10_worldOf n (A 99 (x1).toNatClampNeg) (A 100 (x1).toNatClampNeg) (A 101 (x1).toNatClampNeg)  A q2 e3) mk_X10_worldOf lk_X10_151 iv_X10_worldOf (Or.inl ⟨10, _, by decide, rfl, by decide, rfl, rfl⟩) rfl (by decide) (by decide) (Nat.le_of_ble_eq_true rfl) rfl ?_
  refine ev_aload_n 0 dX10_isRight_22 rfl rfl ?_
  refine ev_getR (r := 102) dX10_isRight_23 fl_X10_74 (by decide) rfl (by decide) (by decide) rfl ?_
  refine ev_iload_n 1 dX10_isRight_26 rfl rfl ?_
  refine ev_ialdc 34 dX10_isRight_27 (by decide) rfl rfl (by decide) c1 ?_
  refine ev_icmp_ne (tgt := 35) dX10_isRight_28 (by decide) (fun c4 => ?_) (fun c4 => ?_)
  · have h := if_f c4 h
    refine ev_iconst (v := 0) dX10_isRight_35 (by decide) ?_
    cases h
    exact ev_iret dX10_isRight_36 rfl rfl ⟨rfl, rfl⟩
  · have h := if_t c4 h
    refine ev_iconst (v := 1) dX10_isRight_31 (by decide) ?_
    refine ev_goto (tgt := 36) dX10_isRight_32 (by decide) ?_
    cases h
    exact ev_iret dX10_isRight_36 rfl rfl ⟨rfl, rfl⟩
def f_X10_right (n : Nat) (x1 : Int32) (A : Mem) : Option (Int32 × Mem) :=
  (f_X10_isLetter n x1 A).bind fun q1 =>
  if q1.1 = 0 then
    some ((-2 : Int32), q1.2)
  else
    (f_X10_isRight n x1 q1.2).bind fun q4 =>
    if q4.1 = 0 then
      some ((0 : Int32), q4.2)
    else
      some ((1 : Int32), q4.2)
set_option maxRecDepth 100000 in
set_option maxHeartbeats 4000000 in
theorem c_X10_right (n : Nat) (x1 : Int32) (A : Mem) (q : Int32 × Mem) (h : f_X10_right n x1 A = some q) : Ct yX10_right cX10_right 2 (some .int) 3 [.ref 80, .int x1] A (RI q) := by
  unfold f_X10_right at h
  refine ct_of (by decide) (Nat.le_of_ble_eq_true rfl) ?_
  show Ev cX10_right 2 RX10 (some .int) 3 none 0 [(0, .ref 80), (1, .int x1)] [] A (RI q)
  refine ev_aload_n 0 dX10_right_0 rfl rfl ?_
  refine ev_iload_n 1 dX10_right_1 rfl rfl ?_
  obtain ⟨q1, e2, h⟩ := bd_c h
  refine ev_callVi (av := [.int x1]) dX10_right_2 (c_X10_isLetter n x1  A q1 e2) mk_X10_isLetter lk_X10_238 iv_X10_isLetter (Or.inl ⟨10, _, by decide, rfl, by decide, rfl, rfl⟩) rfl (by decide) (by decide) (Nat.le_of_ble_eq_true rfl) rfl ?_
  refine ev_if_ne (tgt := 13) dX10_right_5 (by decide) (fun c3 => ?_) (fun c3 => ?_)
  · have h := if_f c3 h
    refine ev_aload_n 0 dX10_right_13 rfl rfl ?_
    refine ev_iload_n 1 dX10_right_14 rfl rfl ?_
    obtain ⟨q4, e5, h⟩ := bd_c h
    refine ev_callVi (av := [.int x1]) dX10_right_15 (c_X10_isRight n x1  q1.2 q4 e5) mk_X10_isRight lk_X10_241 iv_X10_isRight (Or.inl ⟨10, _, by decide, rfl, by decide, rfl, rfl⟩) rfl (by decide) (by decide) (Nat.le_of_ble_eq_true rfl) rfl ?_
    refine ev_if_eq (tgt := 25) dX10_right_18 (by decide) (fun c6 => ?_) (fun c6 => ?_)
    · have h := if_t c6 h
      refine ev_iconst (v := 0) dX10_right_25 (by decide) ?_
      cases h
      exact ev_iret dX10_right_26 rfl rfl ⟨rfl, rfl⟩
    · have h := if_f c6 h
      refine ev_iconst (v := 1) dX10_right_21 (by decide) ?_
      refine ev_goto (tgt := 26) dX10_right_22 (by decide) ?_
      cases h
      exact ev_iret dX10_right_26 rfl rfl ⟨rfl, rfl⟩
  · have h := if_t c3 h
    refine ev_bipush (v := -2) dX10_right_8 (by decide) ?_
    refine ev_goto (tgt := 26) dX10_right_10 (by decide) ?_
    cases h
    exact ev_iret dX10_right_26 rfl rfl ⟨rfl, rfl⟩
def f_X10_comesOn (n : Nat) (x1 : Int32) (A : Mem) : Option (Int32 × Mem) :=
  if ¬ x1 < 0 ∧ (x1).toNatClampNeg < 34 then
    if ¬ (A 98 (x1).toNatClampNeg) < 0 ∧ (A 98 (x1).toNatClampNeg).toNatClampNeg < 3 then
      some ((A 97 (x1).toNatClampNeg) + (A 95 (A 98 (x1).toNatClampNeg).toNatClampNeg), A)
    else
      none
  else
    none
set_option maxRecDepth 100000 in
set_option maxHeartbeats 4000000 in
theorem c_X10_comesOn (n : Nat) (x1 : Int32) (A : Mem) (q : Int32 × Mem) (h : f_X10_comesOn n x1 A = some q) : Ct yX10_comesOn cX10_comesOn 2 (some .int) 0 [.ref 80, .int x1] A (RI q) := by
  unfold f_X10_comesOn at h
  refine ct_of (by decide) (Nat.le_of_ble_eq_true rfl) ?_
  show Ev cX10_comesOn 2 RX10 (some .int) 0 none 0 [(0, .ref 80), (1, .int x1)] [] A (RI q)
  refine ev_aload_n 0 dX10_comesOn_0 rfl rfl ?_
  refine ev_getR (r := 97) dX10_comesOn_1 fl_X10_59 (by decide) rfl (by decide) (by decide) rfl ?_
  refine ev_iload_n 1 dX10_comesOn_4 rfl rfl ?_
  obtain ⟨c1, h⟩ := if_c h
  refine ev_ialdc 34 dX10_comesOn_5 (by decide) rfl rfl (by decide) c1 ?_
  refine ev_aload_n 0 dX10_comesOn_6 rfl rfl ?_
  refine ev_getR (r := 95) dX10_comesOn_7 fl_X10_53 (by decide) rfl (by decide) (by decide) rfl ?_
  refine ev_aload_n 0 dX10_comesOn_10 rfl rfl ?_
  refine ev_getR (r := 98) dX10_comesOn_11 fl_X10_62 (by decide) rfl (by decide) (by decide) rfl ?_
  refine ev_iload_n 1 dX10_comesOn_14 rfl rfl ?_
  refine ev_ialdc 34 dX10_comesOn_15 (by decide) rfl rfl (by decide) c1 ?_
  obtain ⟨c2, h⟩ := if_c h
  refine ev_ialdc 3 dX10_comesOn_16 (by decide) rfl rfl (by decide) c2 ?_
  refine ev_iadd dX10_comesOn_17 ?_
  cases h
  exact ev_iret dX10_comesOn_18 rfl rfl ⟨rfl, rfl⟩
def f_X10_comes (n : Nat) (x1 : Int32) (A : Mem) : Option (Int32 × Mem) :=
  (f_X10_isLetter n x1 A).bind fun q1 =>
  if q1.1 = 0 then
    some ((-2 : Int32), q1.2)
  else
    (f_X10_comesOn n x1 q1.2).bind fun q4 =>
    some (q4.1, q4.2)
set_option maxRecDepth 100000 in
set_option maxHeartbeats 4000000 in
theorem c_X10_comes (n : Nat) (x1 : Int32) (A : Mem) (q : Int32 × Mem) (h : f_X10_comes n x1 A = some q) : Ct yX10_comes cX10_comes 2 (some .int) 2 [.ref 80, .int x1] A (RI q) := by
  unfold f_X10_comes at h
  refine ct_of (by decide) (Nat.le_of_ble_eq_true rfl) ?_
  show Ev cX10_comes 2 RX10 (some .int) 2 none 0 [(0, .ref 80), (1, .int x1)] [] A (RI q)
  refine ev_aload_n 0 dX10_comes_0 rfl rfl ?_
  refine ev_iload_n 1 dX10_comes_1 rfl rfl ?_
  obtain ⟨q1, e2, h⟩ := bd_c h
  refine ev_callVi (av := [.int x1]) dX10_comes_2 (c_X10_isLetter n x1  A q1 e2) mk_X10_isLetter lk_X10_238 iv_X10_isLetter (Or.inl ⟨10, _, by decide, rfl, by decide, rfl, rfl⟩) rfl (by decide) (by decide) (Nat.le_of_ble_eq_true rfl) rfl ?_
  refine ev_if_eq (tgt := 16) dX10_comes_5 (by decide) (fun c3 => ?_) (fun c3 => ?_)
  · have h := if_t c3 h
    refine ev_bipush (v := -2) dX10_comes_16 (by decide) ?_
    cases h
    exact ev_iret dX10_comes_18 rfl rfl ⟨rfl, rfl⟩
  · have h := if_f c3 h
    refine ev_aload_n 0 dX10_comes_8 rfl rfl ?_
    refine ev_iload_n 1 dX10_comes_9 rfl rfl ?_
    obtain ⟨q4, e5, h⟩ := bd_c h
    refine ev_callVi (av := [.int x1]) dX10_comes_10 (c_X10_comesOn n x1  q1.2 q4 e5) mk_X10_comesOn lk_X10_244 iv_X10_comesOn (Or.inl ⟨10, _, by decide, rfl, by decide, rfl, rfl⟩) rfl (by decide) (by decide) (Nat.le_of_ble_eq_true rfl) rfl ?_
    refine ev_goto (tgt := 18) dX10_comes_13 (by decide) ?_
    cases h
    exact ev_iret dX10_comes_18 rfl rfl ⟨rfl, rfl⟩
def f_X10_sawPlace (n : Nat) (x1 : Int32) (x2 : Int32) (x3 : Int32) (A : Mem) : Option (Int32 × Mem) :=
  (f_X10_whereIs n x1 x3 A).bind fun q1 =>
  if ¬ q1.1 < 0 ∧ (q1.1).toNatClampNeg < 8 then
    if (((q1.2 81 (q1.1).toNatClampNeg) >>> (x2 &&& 31)) &&& ((1 : Int32))) = ((1 : Int32)) then
      some ((1 : Int32), q1.2)
    else
      some ((0 : Int32), q1.2)
  else
    none
set_option maxRecDepth 100000 in
set_option maxHeartbeats 4000000 in
theorem c_X10_sawPlace (n : Nat) (x1 : Int32) (x2 : Int32) (x3 : Int32) (A : Mem) (q : Int32 × Mem) (h : f_X10_sawPlace n x1 x2 x3 A = some q) : Ct yX10_sawPlace cX10_sawPlace 4 (some .boolean) 2 [.ref 80, .int x1, .int x2, .int x3] A (RI q) := by
  unfold f_X10_sawPlace at h
  refine ct_of (by decide) (Nat.le_of_ble_eq_true rfl) ?_
  show Ev cX10_sawPlace 4 RX10 (some .boolean) 2 none 0 [(0, .ref 80), (1, .int x1), (2, .int x2), (3, .int x3)] [] A (RI q)
  refine ev_aload_n 0 dX10_sawPlace_0 rfl rfl ?_
  refine ev_getR (r := 81) dX10_sawPlace_1 fl_X10_7 (by decide) rfl (by decide) (by decide) rfl ?_
  refine ev_aload_n 0 dX10_sawPlace_4 rfl rfl ?_
  refine ev_iload_n 1 dX10_sawPlace_5 rfl rfl ?_
  refine ev_iload_n 3 dX10_sawPlace_6 rfl rfl ?_
  obtain ⟨q1, e2, h⟩ := bd_c h
  refine ev_callVi (av := [.int x1, .int x3]) dX10_sawPlace_7 (c_X10_whereIs n x1 x3  A q1 e2) mk_X10_whereIs lk_X10_218 iv_X10_whereIs (Or.inl ⟨10, _, by decide, rfl, by decide, rfl, rfl⟩) rfl (by decide) (by decide) (Nat.le_of_ble_eq_true rfl) rfl ?_
  obtain ⟨c3, h⟩ := if_c h
  refine ev_ialdc 8 dX10_sawPlace_10 (by decide) rfl rfl (by decide) c3 ?_
  refine ev_iload_n 2 dX10_sawPlace_11 rfl rfl ?_
  refine ev_ishr dX10_sawPlace_12 ?_
  refine ev_iconst (v := 1) dX10_sawPlace_13 (by decide) ?_
  refine ev_iand dX10_sawPlace_14 ?_
  refine ev_iconst (v := 1) dX10_sawPlace_15 (by decide) ?_
  refine ev_icmp_ne (tgt := 23) dX10_sawPlace_16 (by decide) (fun c4 => ?_) (fun c4 => ?_)
  · have h := if_f c4 h
    refine ev_iconst (v := 0) dX10_sawPlace_23 (by decide) ?_
    cases h
    exact ev_iret dX10_sawPlace_24 rfl rfl ⟨rfl, rfl⟩
  · have h := if_t c4 h
    refine ev_iconst (v := 1) dX10_sawPlace_19 (by decide) ?_
    refine ev_goto (tgt := 24) dX10_sawPlace_20 (by decide) ?_
    cases h
    exact ev_iret dX10_sawPlace_24 rfl rfl ⟨rfl, rfl⟩
def f_X10_areOfOne (n : Nat) (x1 : Int32) (x2 : Int32) (A : Mem) : Option (Int32 × Mem) :=
  if ¬ x1 < 0 ∧ (x1).toNatClampNeg < 34 then
    if ¬ x2 < 0 ∧ (x2).toNatClampNeg < 34 then
      if (A 99 (x1).toNatClampNeg) = (A 99 (x2).toNatClampNeg) then
        if (A 100 (x1).toNatClampNeg) = (A 100 (x2).toNatClampNeg) then
          if (A 101 (x1).toNatClampNeg) = (A 101 (x2).toNatClampNeg) then
            some ((1 : Int32), A)
          else
            some ((0 : Int32), A)
        else
          some ((0 : Int32), A)
      else
        some ((0 : Int32), A)
    else
      none
  else
    none
set_option maxRecDepth 100000 in
set_option maxHeartbeats 4000000 in
theorem c_X10_areOfOne (n : Nat) (x1 : Int32) (x2 : Int32) (A : Mem) (q : Int32 × Mem) (h : f_X10_areOfOne n x1 x2 A = some q) : Ct yX10_areOfOne cX10_areOfOne 3 (some .boolean) 0 [.ref 80, .int x1, .int x2] A (RI q) := by
  unfold f_X10_areOfOne at h
  refine ct_of (by decide) (Nat.le_of_ble_eq_true rfl) ?_
  show Ev cX10_areOfOne 3 RX10 (some .boolean) 0 none 0 [(0, .ref 80), (1, .int x1), (2, .int x2)] [] A (RI q)
  refine ev_aload_n 0 dX10_areOfOne_0 rfl rfl ?_
  refine ev_getR (r := 99) dX10_areOfOne_1 fl_X10_65 (by decide) rfl (by decide) (by decide) rfl ?_
  refine ev_iload_n 1 dX10_areOfOne_4 rfl rfl ?_
  obtain ⟨c1, h⟩ := if_c h
  refine ev_ialdc 34 dX10_areOfOne_5 (by decide) rfl rfl (by decide) c1 ?_
  refine ev_aload_n 0 dX10_areOfOne_6 rfl rfl ?_
  refine ev_getR (r := 99) dX10_areOfOne_7 fl_X10_65 (by decide) rfl (by decide) (by decide) rfl ?_
  refine ev_iload_n 2 dX10_areOfOne_10 rfl rfl ?_
  obtain ⟨c2, h⟩ := if_c h
  refine ev_ialdc 34 dX10_areOfOne_11 (by decide) rfl rfl (by decide) c2 ?_
  refine ev_icmp_ne (tgt := 49) dX10_areOfOne_12 (by decide) (fun c3 => ?_) (fun c3 => ?_)
  · have h := if_f c3 h
    refine ev_iconst (v := 0) dX10_areOfOne_49 (by decide) ?_
    cases h
    exact ev_iret dX10_areOfOne_50 rfl rfl ⟨rfl, rfl⟩
  · have h := if_t c3 h
    refine ev_aload_n 0 dX10_areOfOne_15 rfl rfl ?_
    refine ev_getR (r := 100) dX10_areOfOne_16 fl_X10_68 (by decide) rfl (by decide) (by decide) rfl ?_
    refine ev_iload_n 1 dX10_areOfOne_19 rfl rfl ?_
    refine ev_ialdc 34 dX10_areOfOne_20 (by decide) rfl rfl (by decide) c1 ?_
    refine ev_aload_n 0 dX10_areOfOne_21 rfl rfl ?_
    refine ev_getR (r := 100) dX10_areOfOne_22 fl_X10_68 (by decide) rfl (by decide) (by decide) rfl ?_
    refine ev_iload_n 2 dX10_areOfOne_25 rfl rfl ?_
    refine ev_ialdc 34 dX10_areOfOne_26 (by decide) rfl rfl (by decide) c2 ?_
    refine ev_icmp_ne (tgt := 49) dX10_areOfOne_27 (by decide) (fun c4 => ?_) (fun c4 => ?_)
    · have h := if_f c4 h
      refine ev_iconst (v := 0) dX10_areOfOne_49 (by decide) ?_
      cases h
      exact ev_iret dX10_areOfOne_50 rfl rfl ⟨rfl, rfl⟩
    · have h := if_t c4 h
      refine ev_aload_n 0 dX10_areOfOne_30 rfl rfl ?_
      refine ev_getR (r := 101) dX10_areOfOne_31 fl_X10_71 (by decide) rfl (by decide) (by decide) rfl ?_
      refine ev_iload_n 1 dX10_areOfOne_34 rfl rfl ?_
      refine ev_ialdc 34 dX10_areOfOne_35 (by decide) rfl rfl (by decide) c1 ?_
      refine ev_aload_n 0 dX10_areOfOne_36 rfl rfl ?_
      refine ev_getR (r := 101) dX10_areOfOne_37 fl_X10_71 (by decide) rfl (by decide) (by decide) rfl ?_
      refine ev_iload_n 2 dX10_areOfOne_40 rfl rfl ?_
      refine ev_ialdc 34 dX10_areOfOne_41 (by decide) rfl rfl (by decide) c2 ?_
      refine ev_icmp_ne (tgt := 49) dX10_areOfOne_42 (by decide) (fun c5 => ?_) (fun c5 => ?_)
      · have h := if_f c5 h
        refine ev_iconst (v := 0) dX10_areOfOne_49 (by decide) ?_
        cases h
        exact ev_iret dX10_areOfOne_50 rfl rfl ⟨rfl, rfl⟩
      · have h := if_t c5 h
        refine ev_iconst (v := 1) dX10_areOfOne_45 (by decide) ?_
        refine ev_goto (tgt := 50) dX10_areOfOne_46 (by decide) ?_
        cases h
        exact ev_iret dX10_areOfOne_50 rfl rfl ⟨rfl, rfl⟩
def g_X10_slips_67 (n : Nat) : Nat → Int32 → Int32 → Int32 → Mem → Option (Int32 × Mem)
  | 0, _, _, _, _ => none
  | m + 1, x1, x2, x3, A =>
    if (A 80 25) ≤ x3 then
      some (x2, A)
    else
      (f_X10_areOfOne n x1 x3 A).bind fun q11 =>
      if q11.1 = 0 then
        g_X10_slips_67 n  m x1 (x2 ||| ((0 : Int32))) (x3 + 1) q11.2
      else
        if ¬ x1 < 0 ∧ (x1).toNatClampNeg < 34 then
          if ¬ x3 < 0 ∧ (x3).toNatClampNeg < 34 then
            if (q11.2 102 (x1).toNatClampNeg) = (q11.2 102 (x3).toNatClampNeg) then
              g_X10_slips_67 n  m x1 (x2 ||| ((0 : Int32))) (x3 + 1) q11.2
            else
              if (q11.2 96 (x1).toNatClampNeg) = (q11.2 96 (x3).toNatClampNeg) then
                g_X10_slips_67 n  m x1 (x2 ||| ((4 : Int32))) (x3 + 1) q11.2
              else
                g_X10_slips_67 n  m x1 (x2 ||| ((8 : Int32))) (x3 + 1) q11.2
          else
            none
        else
          none
set_option maxRecDepth 100000 in
set_option maxHeartbeats 4000000 in
theorem l_X10_slips_67 (n : Nat) : ∀ (m : Nat) (x1 : Int32) (x2 : Int32) (x3 : Int32) (A : Mem) (q : Int32 × Mem), g_X10_slips_67 n  m x1 x2 x3 A = some q → Ev cX10_slips 5 RX10 (some .int) 3 none 67 [(0, .ref 80), (1, .int x1), (2, .int x2), (3, .int x3)] [] A (RI q) := by
  intro m
  induction m with
  | zero => intro x1 x2 x3 A q h; exact absurd h (by simp [g_X10_slips_67])
  | succ m ih =>
    intro x1 x2 x3 A q h
    rw [g_X10_slips_67] at h
    refine ev_iload_n 3 dX10_slips_67 rfl rfl ?_
    refine ev_aload_n 0 dX10_slips_68 rfl rfl ?_
    refine ev_getI dX10_slips_69 fl_X10_231 (by decide) rfl (by decide) (by decide) rfl ?_
    refine ev_icmp_ge (tgt := 145) dX10_slips_72 (by decide) (fun c10 => ?_) (fun c10 => ?_)
    · have h := if_t c10 h
      refine ev_iload_n 2 dX10_slips_145 rfl rfl ?_
      cases h
      exact ev_iret dX10_slips_146 rfl rfl ⟨rfl, rfl⟩
    · have h := if_f c10 h
      refine ev_aload_n 0 dX10_slips_75 rfl rfl ?_
      refine ev_iload_n 1 dX10_slips_76 rfl rfl ?_
      refine ev_iload_n 3 dX10_slips_77 rfl rfl ?_
      obtain ⟨q11, e12, h⟩ := bd_c h
      refine ev_callVi (av := [.int x1, .int x3]) dX10_slips_78 (c_X10_areOfOne n x1 x3  A q11 e12) mk_X10_areOfOne lk_X10_251 iv_X10_areOfOne (Or.inl ⟨10, _, by decide, rfl, by decide, rfl, rfl⟩) rfl (by decide) (by decide) (Nat.le_of_ble_eq_true rfl) rfl ?_
      refine ev_if_eq (tgt := 103) dX10_slips_81 (by decide) (fun c13 => ?_) (fun c13 => ?_)
      · have h := if_t c13 h
        refine ev_iconst (v := 0) dX10_slips_103 (by decide) ?_
        refine ev_istore (ls' := [(4, .int ((0 : Int32))), (0, .ref 80), (1, .int x1), (2, .int x2), (3, .int x3)]) dX10_slips_104 (by decide) rfl ?_
        refine ev_iload_n 3 dX10_slips_106 rfl rfl ?_
        refine ev_iload 0 dX10_slips_107 rfl ?_
        refine ev_if_ne (tgt := 116) dX10_slips_109 (by decide) (fun hh => absurd hh (by decide)) (fun _ => ?_)
        refine ev_iconst (v := 0) dX10_slips_112 (by decide) ?_
        refine ev_goto (tgt := 137) dX10_slips_113 (by decide) ?_
        refine ev_ior dX10_slips_137 ?_
        refine ev_istore_n (ls' := [(2, .int (x2 ||| ((0 : Int32)))), (4, .int ((0 : Int32))), (0, .ref 80), (1, .int x1), (3, .int x3)]) dX10_slips_138 rfl (by decide) rfl ?_
        refine ev_iinc (v := x3 + 1) (ls' := [(3, .int (x3 + 1)), (2, .int (x2 ||| ((0 : Int32)))), (4, .int ((0 : Int32))), (0, .ref 80), (1, .int x1)]) 4 dX10_slips_139 rfl rfl (by decide) rfl ?_
        refine ev_goto (tgt := 67) dX10_slips_142 (by decide) ?_
        refine ev_pick [3, 4, 1, 0] (ls' := [(0, .ref 80), (1, .int x1), (2, .int (x2 ||| ((0 : Int32)))), (3, .int (x3 + 1))]) rfl ?_
        exact ih x1 (x2 ||| ((0 : Int32))) (x3 + 1) _ q h
      · have h := if_f c13 h
        refine ev_aload_n 0 dX10_slips_84 rfl rfl ?_
        refine ev_getR (r := 102) dX10_slips_85 fl_X10_74 (by decide) rfl (by decide) (by decide) rfl ?_
        refine ev_iload_n 1 dX10_slips_88 rfl rfl ?_
        obtain ⟨c14, h⟩ := if_c h
        refine ev_ialdc 34 dX10_slips_89 (by decide) rfl rfl (by decide) c14 ?_
        refine ev_aload_n 0 dX10_slips_90 rfl rfl ?_
        refine ev_getR (r := 102) dX10_slips_91 fl_X10_74 (by decide) rfl (by decide) (by decide) rfl ?_
        refine ev_iload_n 3 dX10_slips_94 rfl rfl ?_
        obtain ⟨c15, h⟩ := if_c h
        refine ev_ialdc 34 dX10_slips_95 (by decide) rfl rfl (by decide) c15 ?_
        refine ev_icmp_eq (tgt := 103) dX10_slips_96 (by decide) (fun c16 => ?_) (fun c16 => ?_)
        · have h := if_t c16 h
          refine ev_iconst (v := 0) dX10_slips_103 (by decide) ?_
          refine ev_istore (ls' := [(4, .int ((0 : Int32))), (0, .ref 80), (1, .int x1), (2, .int x2), (3, .int x3)]) dX10_slips_104 (by decide) rfl ?_
          refine ev_iload_n 3 dX10_slips_106 rfl rfl ?_
          refine ev_iload 0 dX10_slips_107 rfl ?_
          refine ev_if_ne (tgt := 116) dX10_slips_109 (by decide) (fun hh => absurd hh (by decide)) (fun _ => ?_)
          refine ev_iconst (v := 0) dX10_slips_112 (by decide) ?_
          refine ev_goto (tgt := 137) dX10_slips_113 (by decide) ?_
          refine ev_ior dX10_slips_137 ?_
          refine ev_istore_n (ls' := [(2, .int (x2 ||| ((0 : Int32)))), (4, .int ((0 : Int32))), (0, .ref 80), (1, .int x1), (3, .int x3)]) dX10_slips_138 rfl (by decide) rfl ?_
          refine ev_iinc (v := x3 + 1) (ls' := [(3, .int (x3 + 1)), (2, .int (x2 ||| ((0 : Int32)))), (4, .int ((0 : Int32))), (0, .ref 80), (1, .int x1)]) 4 dX10_slips_139 rfl rfl (by decide) rfl ?_
          refine ev_goto (tgt := 67) dX10_slips_142 (by decide) ?_
          refine ev_pick [3, 4, 1, 0] (ls' := [(0, .ref 80), (1, .int x1), (2, .int (x2 ||| ((0 : Int32)))), (3, .int (x3 + 1))]) rfl ?_
          exact ih x1 (x2 ||| ((0 : Int32))) (x3 + 1) _ q h
        · have h := if_f c16 h
          refine ev_iconst (v := 1) dX10_slips_99 (by decide) ?_
          refine ev_goto (tgt := 104) dX10_slips_100 (by decide) ?_
          refine ev_istore (ls' := [(4, .int ((1 : Int32))), (0, .ref 80), (1, .int x1), (2, .int x2), (3, .int x3)]) dX10_slips_104 (by decide) rfl ?_
          refine ev_iload_n 3 dX10_slips_106 rfl rfl ?_
          refine ev_iload 0 dX10_slips_107 rfl ?_
          refine ev_if_ne (tgt := 116) dX10_slips_109 (by decide) (fun _ => ?_) (fun hh => absurd hh (by decide))
          refine ev_aload_n 1 dX10_slips_116 rfl rfl ?_
          refine ev_getR (r := 96) dX10_slips_117 fl_X10_56 (by decide) rfl (by decide) (by decide) rfl ?_
          refine ev_iload_n 2 dX10_slips_120 rfl rfl ?_
          refine ev_ialdc 34 dX10_slips_121 (by decide) rfl rfl (by decide) c14 ?_
          refine ev_aload_n 1 dX10_slips_122 rfl rfl ?_
          refine ev_getR (r := 96) dX10_slips_123 fl_X10_56 (by decide) rfl (by decide) (by decide) rfl ?_
          refine ev_iload_n 4 dX10_slips_126 rfl rfl ?_
          refine ev_ialdc 34 dX10_slips_127 (by decide) rfl rfl (by decide) c15 ?_
          refine ev_icmp_ne (tgt := 135) dX10_slips_128 (by decide) (fun c17 => ?_) (fun c17 => ?_)
          · have h := if_f c17 h
            refine ev_bipush (v := 8) dX10_slips_135 (by decide) ?_
            refine ev_ior dX10_slips_137 ?_
            refine ev_istore_n (ls' := [(2, .int (x2 ||| ((8 : Int32)))), (4, .int ((1 : Int32))), (0, .ref 80), (1, .int x1), (3, .int x3)]) dX10_slips_138 rfl (by decide) rfl ?_
            refine ev_iinc (v := x3 + 1) (ls' := [(3, .int (x3 + 1)), (2, .int (x2 ||| ((8 : Int32)))), (4, .int ((1 : Int32))), (0, .ref 80), (1, .int x1)]) 4 dX10_slips_139 rfl rfl (by decide) rfl ?_
            refine ev_goto (tgt := 67) dX10_slips_142 (by decide) ?_
            refine ev_pick [3, 4, 1, 0] (ls' := [(0, .ref 80), (1, .int x1), (2, .int (x2 ||| ((8 : Int32)))), (3, .int (x3 + 1))]) rfl ?_
            exact ih x1 (x2 ||| ((8 : Int32))) (x3 + 1) _ q h
          · have h := if_t c17 h
            refine ev_iconst (v := 4) dX10_slips_131 (by decide) ?_
            refine ev_goto (tgt := 137) dX10_slips_132 (by decide) ?_
            refine ev_ior dX10_slips_137 ?_
            refine ev_istore_n (ls' := [(2, .int (x2 ||| ((4 : Int32)))), (4, .int ((1 : Int32))), (0, .ref 80), (1, .int x1), (3, .int x3)]) dX10_slips_138 rfl (by decide) rfl ?_
            refine ev_iinc (v := x3 + 1) (ls' := [(3, .int (x3 + 1)), (2, .int (x2 ||| ((4 : Int32)))), (4, .int ((1 : Int32))), (0, .ref 80), (1, .int x1)]) 4 dX10_slips_139 rfl rfl (by decide) rfl ?_
            refine ev_goto (tgt := 67) dX10_slips_142 (by decide) ?_
            refine ev_pick [3, 4, 1, 0] (ls' := [(0, .ref 80), (1, .int x1), (2, .int (x2 ||| ((4 : Int32)))), (3, .int (x3 + 1))]) rfl ?_
            exact ih x1 (x2 ||| ((4 : Int32))) (x3 + 1) _ q h
def f_X10_slips (n : Nat) (x1 : Int32) (A : Mem) : Option (Int32 × Mem) :=
  (f_X10_isLetter n x1 A).bind fun q1 =>
  if q1.1 = 0 then
    some ((-2 : Int32), q1.2)
  else
    if ¬ x1 < 0 ∧ (x1).toNatClampNeg < 34 then
      (f_X10_sawPlace n (q1.2 96 (x1).toNatClampNeg) (q1.2 99 (x1).toNatClampNeg) (q1.2 101 (x1).toNatClampNeg) q1.2).bind fun q5 =>
      if q5.1 = 0 then
        if (q5.2 101 (x1).toNatClampNeg) ≤ (q5.2 97 (x1).toNatClampNeg) then
          g_X10_slips_67 n  n x1 (((1 : Int32)) ||| ((0 : Int32))) ((0 : Int32)) q5.2
        else
          g_X10_slips_67 n  n x1 (((1 : Int32)) ||| ((2 : Int32))) ((0 : Int32)) q5.2
      else
        if (q5.2 101 (x1).toNatClampNeg) ≤ (q5.2 97 (x1).toNatClampNeg) then
          g_X10_slips_67 n  n x1 (((0 : Int32)) ||| ((0 : Int32))) ((0 : Int32)) q5.2
        else
          g_X10_slips_67 n  n x1 (((0 : Int32)) ||| ((2 : Int32))) ((0 : Int32)) q5.2
    else
      none
set_option maxRecDepth 100000 in
set_option maxHeartbeats 4000000 in
theorem c_X10_slips (n : Nat) (x1 : Int32) (A : Mem) (q : Int32 × Mem) (h : f_X10_slips n x1 A = some q) : Ct yX10_slips cX10_slips 5 (some .int) 3 [.ref 80, .int x1] A (RI q) := by
  unfold f_X10_slips at h
  refine ct_of (by decide) (Nat.le_of_ble_eq_true rfl) ?_
  show Ev cX10_slips 5 RX10 (some .int) 3 none 0 [(0, .ref 80), (1, .int x1)] [] A (RI q)
  refine ev_aload_n 0 dX10_slips_0 rfl rfl ?_
  refine ev_iload_n 1 dX10_slips_1 rfl rfl ?_
  obtain ⟨q1, e2, h⟩ := bd_c h
  refine ev_callVi (av := [.int x1]) dX10_slips_2 (c_X10_isLetter n x1  A q1 e2) mk_X10_isLetter lk_X10_238 iv_X10_isLetter (Or.inl ⟨10, _, by decide, rfl, by decide, rfl, rfl⟩) rfl (by decide) (by decide) (Nat.le_of_ble_eq_true rfl) rfl ?_
  refine ev_if_ne (tgt := 11) dX10_slips_5 (by decide) (fun c3 => ?_) (fun c3 => ?_)
  · have h := if_f c3 h
    refine ev_aload_n 0 dX10_slips_11 rfl rfl ?_
    refine ev_aload_n 0 dX10_slips_12 rfl rfl ?_
    refine ev_getR (r := 96) dX10_slips_13 fl_X10_56 (by decide) rfl (by decide) (by decide) rfl ?_
    refine ev_iload_n 1 dX10_slips_16 rfl rfl ?_
    obtain ⟨c4, h⟩ := if_c h
    refine ev_ialdc 34 dX10_slips_17 (by decide) rfl rfl (by decide) c4 ?_
    refine ev_aload_n 0 dX10_slips_18 rfl rfl ?_
    refine ev_getR (r := 99) dX10_slips_19 fl_X10_65 (by decide) rfl (by decide) (by decide) rfl ?_
    refine ev_iload_n 1 dX10_slips_22 rfl rfl ?_
    refine ev_ialdc 34 dX10_slips_23 (by decide) rfl rfl (by decide) c4 ?_
    refine ev_aload_n 0 dX10_slips_24 rfl rfl ?_
    refine ev_getR (r := 101) dX10_slips_25 fl_X10_71 (by decide) rfl (by decide) (by decide) rfl ?_
    refine ev_iload_n 1 dX10_slips_28 rfl rfl ?_
    refine ev_ialdc 34 dX10_slips_29 (by decide) rfl rfl (by decide) c4 ?_
    obtain ⟨q5, e6, h⟩ := bd_c h
    refine ev_callVi (av := [.int (q1.2 96 (x1).toNatClampNeg), .int (q1.2 99 (x1).toNatClampNeg), .int (q1.2 101 (x1).toNatClampNeg)]) dX10_slips_30 (c_X10_sawPlace n (q1.2 96 (x1).toNatClampNeg) (q1.2 99 (x1).toNatClampNeg) (q1.2 101 (x1).toNatClampNeg)  q1.2 q5 e6) mk_X10_sawPlace lk_X10_247 iv_X10_sawPlace (Or.inl ⟨10, _, by decide, rfl, by decide, rfl, rfl⟩) rfl (by decide) (by decide) (Nat.le_of_ble_eq_true rfl) rfl ?_
    refine ev_if_eq (tgt := 40) dX10_slips_33 (by decide) (fun c7 => ?_) (fun c7 => ?_)
    · have h := if_t c7 h
      refine ev_iconst (v := 1) dX10_slips_40 (by decide) ?_
      refine ev_istore_n (ls' := [(2, .int ((1 : Int32))), (0, .ref 80), (1, .int x1)]) dX10_slips_41 rfl (by decide) rfl ?_
      refine ev_iload_n 0 dX10_slips_42 rfl rfl ?_
      refine ev_aload_n 1 dX10_slips_43 rfl rfl ?_
      refine ev_getR (r := 101) dX10_slips_44 fl_X10_71 (by decide) rfl (by decide) (by decide) rfl ?_
      refine ev_iload_n 2 dX10_slips_47 rfl rfl ?_
      refine ev_ialdc 34 dX10_slips_48 (by decide) rfl rfl (by decide) c4 ?_
      refine ev_aload_n 1 dX10_slips_49 rfl rfl ?_
      refine ev_getR (r := 97) dX10_slips_50 fl_X10_59 (by decide) rfl (by decide) (by decide) rfl ?_
      refine ev_iload_n 2 dX10_slips_53 rfl rfl ?_
      refine ev_ialdc 34 dX10_slips_54 (by decide) rfl rfl (by decide) c4 ?_
      refine ev_icmp_le (tgt := 62) dX10_slips_55 (by decide) (fun c8 => ?_) (fun c8 => ?_)
      · have h := if_t c8 h
        refine ev_iconst (v := 0) dX10_slips_62 (by decide) ?_
        refine ev_ior dX10_slips_63 ?_
        refine ev_istore_n (ls' := [(2, .int (((1 : Int32)) ||| ((0 : Int32)))), (0, .ref 80), (1, .int x1)]) dX10_slips_64 rfl (by decide) rfl ?_
        refine ev_iconst (v := 0) dX10_slips_65 (by decide) ?_
        refine ev_istore_n (ls' := [(3, .int ((0 : Int32))), (2, .int (((1 : Int32)) ||| ((0 : Int32)))), (0, .ref 80), (1, .int x1)]) dX10_slips_66 rfl (by decide) rfl ?_
        refine ev_pick [2, 3, 1, 0] (ls' := [(0, .ref 80), (1, .int x1), (2, .int (((1 : Int32)) ||| ((0 : Int32)))), (3, .int ((0 : Int32)))]) rfl ?_
        exact (l_X10_slips_67 n   n) x1 (((1 : Int32)) ||| ((0 : Int32))) ((0 : Int32)) _ q h
      · have h := if_f c8 h
        refine ev_iconst (v := 2) dX10_slips_58 (by decide) ?_
        refine ev_goto (tgt := 63) dX10_slips_59 (by decide) ?_
        refine ev_ior dX10_slips_63 ?_
        refine ev_istore_n (ls' := [(2, .int (((1 : Int32)) ||| ((2 : Int32)))), (0, .ref 80), (1, .int x1)]) dX10_slips_64 rfl (by decide) rfl ?_
        refine ev_iconst (v := 0) dX10_slips_65 (by decide) ?_
        refine ev_istore_n (ls' := [(3, .int ((0 : Int32))), (2, .int (((1 : Int32)) ||| ((2 : Int32)))), (0, .ref 80), (1, .int x1)]) dX10_slips_66 rfl (by decide) rfl ?_
        refine ev_pick [2, 3, 1, 0] (ls' := [(0, .ref 80), (1, .int x1), (2, .int (((1 : Int32)) ||| ((2 : Int32)))), (3, .int ((0 : Int32)))]) rfl ?_
        exact (l_X10_slips_67 n   n) x1 (((1 : Int32)) ||| ((2 : Int32))) ((0 : Int32)) _ q h
    · have h := if_f c7 h
      refine ev_iconst (v := 0) dX10_slips_36 (by decide) ?_
      refine ev_goto (tgt := 41) dX10_slips_37 (by decide) ?_
      refine ev_istore_n (ls' := [(2, .int ((0 : Int32))), (0, .ref 80), (1, .int x1)]) dX10_slips_41 rfl (by decide) rfl ?_
      refine ev_iload_n 0 dX10_slips_42 rfl rfl ?_
      refine ev_aload_n 1 dX10_slips_43 rfl rfl ?_
      refine ev_getR (r := 101) dX10_slips_44 fl_X10_71 (by decide) rfl (by decide) (by decide) rfl ?_
      refine ev_iload_n 2 dX10_slips_47 rfl rfl ?_
      refine ev_ialdc 34 dX10_slips_48 (by decide) rfl rfl (by decide) c4 ?_
      refine ev_aload_n 1 dX10_slips_49 rfl rfl ?_
      refine ev_getR (r := 97) dX10_slips_50 fl_X10_59 (by decide) rfl (by decide) (by decide) rfl ?_
      refine ev_iload_n 2 dX10_slips_53 rfl rfl ?_
      refine ev_ialdc 34 dX10_slips_54 (by decide) rfl rfl (by decide) c4 ?_
      refine ev_icmp_le (tgt := 62) dX10_slips_55 (by decide) (fun c9 => ?_) (fun c9 => ?_)
      · have h := if_t c9 h
        refine ev_iconst (v := 0) dX10_slips_62 (by decide) ?_
        refine ev_ior dX10_slips_63 ?_
        refine ev_istore_n (ls' := [(2, .int (((0 : Int32)) ||| ((0 : Int32)))), (0, .ref 80), (1, .int x1)]) dX10_slips_64 rfl (by decide) rfl ?_
        refine ev_iconst (v := 0) dX10_slips_65 (by decide) ?_
        refine ev_istore_n (ls' := [(3, .int ((0 : Int32))), (2, .int (((0 : Int32)) ||| ((0 : Int32)))), (0, .ref 80), (1, .int x1)]) dX10_slips_66 rfl (by decide) rfl ?_
        refine ev_pick [2, 3, 1, 0] (ls' := [(0, .ref 80), (1, .int x1), (2, .int (((0 : Int32)) ||| ((0 : Int32)))), (3, .int ((0 : Int32)))]) rfl ?_
        exact (l_X10_slips_67 n   n) x1 (((0 : Int32)) ||| ((0 : Int32))) ((0 : Int32)) _ q h
      · have h := if_f c9 h
        refine ev_iconst (v := 2) dX10_slips_58 (by decide) ?_
        refine ev_goto (tgt := 63) dX10_slips_59 (by decide) ?_
        refine ev_ior dX10_slips_63 ?_
        refine ev_istore_n (ls' := [(2, .int (((0 : Int32)) ||| ((2 : Int32)))), (0, .ref 80), (1, .int x1)]) dX10_slips_64 rfl (by decide) rfl ?_
        refine ev_iconst (v := 0) dX10_slips_65 (by decide) ?_
        refine ev_istore_n (ls' := [(3, .int ((0 : Int32))), (2, .int (((0 : Int32)) ||| ((2 : Int32)))), (0, .ref 80), (1, .int x1)]) dX10_slips_66 rfl (by decide) rfl ?_
        refine ev_pick [2, 3, 1, 0] (ls' := [(0, .ref 80), (1, .int x1), (2, .int (((0 : Int32)) ||| ((2 : Int32)))), (3, .int ((0 : Int32)))]) rfl ?_
        exact (l_X10_slips_67 n   n) x1 (((0 : Int32)) ||| ((2 : Int32))) ((0 : Int32)) _ q h
  · have h := if_t c3 h
    refine ev_bipush (v := -2) dX10_slips_8 (by decide) ?_
    cases h
    exact ev_iret dX10_slips_10 rfl rfl ⟨rfl, rfl⟩
def g_X10_sawFact_11 (n : Nat) : Nat → Int32 → Int32 → Int32 → Int32 → Int32 → Mem → Option (Int32 × Mem)
  | 0, _, _, _, _, _, _ => none
  | m + 1, x1, x2, x3, x4, x5, A =>
    if ¬ x2 < 0 ∧ (x2).toNatClampNeg < 16 then
      if (A 85 (x2).toNatClampNeg) < x5 then
        if x4 = 0 ∨ x4 = 1 then
          some (x4, A)
        else
          none
      else
        if x3 < x5 then
          if x4 = 0 ∨ x4 = 1 then
            some (x4, A)
          else
            none
        else
          if x4 = 0 then
            (f_X10_sawPlace n x1 (A 82 (x2).toNatClampNeg) x5 A).bind fun q8 =>
            if q8.1 = 0 then
              g_X10_sawFact_11 n  m x1 x2 x3 ((0 : Int32)) (x5 + 1) q8.2
            else
              g_X10_sawFact_11 n  m x1 x2 x3 ((1 : Int32)) (x5 + 1) q8.2
          else
            g_X10_sawFact_11 n  m x1 x2 x3 ((1 : Int32)) (x5 + 1) A
    else
      none
set_option maxRecDepth 100000 in
set_option maxHeartbeats 4000000 in
theorem l_X10_sawFact_11 (n : Nat) : ∀ (m : Nat) (x1 : Int32) (x2 : Int32) (x3 : Int32) (x4 : Int32) (x5 : Int32) (A : Mem) (q : Int32 × Mem), g_X10_sawFact_11 n  m x1 x2 x3 x4 x5 A = some q → Ev cX10_sawFact 6 RX10 (some .boolean) 3 none 11 [(0, .ref 80), (1, .int x1), (2, .int x2), (3, .int x3), (4, .int x4), (5, .int x5)] [] A (RI q) := by
  intro m
  induction m with
  | zero => intro x1 x2 x3 x4 x5 A q h; exact absurd h (by simp [g_X10_sawFact_11])
  | succ m ih =>
    intro x1 x2 x3 x4 x5 A q h
    rw [g_X10_sawFact_11] at h
    refine ev_iload 5 dX10_sawFact_11 rfl ?_
    refine ev_aload_n 0 dX10_sawFact_13 rfl rfl ?_
    refine ev_getR (r := 85) dX10_sawFact_14 fl_X10_22 (by decide) rfl (by decide) (by decide) rfl ?_
    refine ev_iload_n 2 dX10_sawFact_17 rfl rfl ?_
    obtain ⟨c2, h⟩ := if_c h
    refine ev_ialdc 16 dX10_sawFact_18 (by decide) rfl rfl (by decide) c2 ?_
    refine ev_icmp_gt (tgt := 62) dX10_sawFact_19 (by decide) (fun c3 => ?_) (fun c3 => ?_)
    · have h := if_t c3 h
      refine ev_iload 4 dX10_sawFact_62 rfl ?_
      obtain ⟨c4, h⟩ := if_c h
      cases h
      exact ev_iret dX10_sawFact_64 rfl (narB c4) ⟨rfl, rfl⟩
    · have h := if_f c3 h
      refine ev_iload 5 dX10_sawFact_22 rfl ?_
      refine ev_iload_n 3 dX10_sawFact_24 rfl rfl ?_
      refine ev_icmp_gt (tgt := 62) dX10_sawFact_25 (by decide) (fun c5 => ?_) (fun c5 => ?_)
      · have h := if_t c5 h
        refine ev_iload 4 dX10_sawFact_62 rfl ?_
        obtain ⟨c6, h⟩ := if_c h
        cases h
        exact ev_iret dX10_sawFact_64 rfl (narB c6) ⟨rfl, rfl⟩
      · have h := if_f c5 h
        refine ev_iload 4 dX10_sawFact_28 rfl ?_
        refine ev_if_ne (tgt := 49) dX10_sawFact_30 (by decide) (fun c7 => ?_) (fun c7 => ?_)
        · have h := if_f c7 h
          refine ev_iconst (v := 1) dX10_sawFact_49 (by decide) ?_
          refine ev_goto (tgt := 54) dX10_sawFact_50 (by decide) ?_
          refine ev_istore (ls' := [(4, .int ((1 : Int32))), (0, .ref 80), (1, .int x1), (2, .int x2), (3, .int x3), (5, .int x5)]) dX10_sawFact_54 (by decide) rfl ?_
          refine ev_iinc (v := x5 + 1) (ls' := [(5, .int (x5 + 1)), (4, .int ((1 : Int32))), (0, .ref 80), (1, .int x1), (2, .int x2), (3, .int x3)]) 5 dX10_sawFact_56 rfl rfl (by decide) rfl ?_
          refine ev_goto (tgt := 11) dX10_sawFact_59 (by decide) ?_
          refine ev_pick [2, 3, 4, 5, 1, 0] (ls' := [(0, .ref 80), (1, .int x1), (2, .int x2), (3, .int x3), (4, .int ((1 : Int32))), (5, .int (x5 + 1))]) rfl ?_
          exact ih x1 x2 x3 ((1 : Int32)) (x5 + 1) _ q h
        · have h := if_t c7 h
          refine ev_aload_n 0 dX10_sawFact_33 rfl rfl ?_
          refine ev_iload_n 1 dX10_sawFact_34 rfl rfl ?_
          refine ev_aload_n 0 dX10_sawFact_35 rfl rfl ?_
          refine ev_getR (r := 82) dX10_sawFact_36 fl_X10_13 (by decide) rfl (by decide) (by decide) rfl ?_
          refine ev_iload_n 2 dX10_sawFact_39 rfl rfl ?_
          refine ev_ialdc 16 dX10_sawFact_40 (by decide) rfl rfl (by decide) c2 ?_
          refine ev_iload 5 dX10_sawFact_41 rfl ?_
          obtain ⟨q8, e9, h⟩ := bd_c h
          refine ev_callVi (av := [.int x1, .int (A 82 (x2).toNatClampNeg), .int x5]) dX10_sawFact_43 (c_X10_sawPlace n x1 (A 82 (x2).toNatClampNeg) x5  A q8 e9) mk_X10_sawPlace lk_X10_247 iv_X10_sawPlace (Or.inl ⟨10, _, by decide, rfl, by decide, rfl, rfl⟩) rfl (by decide) (by decide) (Nat.le_of_ble_eq_true rfl) rfl ?_
          refine ev_if_eq (tgt := 53) dX10_sawFact_46 (by decide) (fun c10 => ?_) (fun c10 => ?_)
          · have h := if_t c10 h
            refine ev_iconst (v := 0) dX10_sawFact_53 (by decide) ?_
            refine ev_istore (ls' := [(4, .int ((0 : Int32))), (0, .ref 80), (1, .int x1), (2, .int x2), (3, .int x3), (5, .int x5)]) dX10_sawFact_54 (by decide) rfl ?_
            refine ev_iinc (v := x5 + 1) (ls' := [(5, .int (x5 + 1)), (4, .int ((0 : Int32))), (0, .ref 80), (1, .int x1), (2, .int x2), (3, .int x3)]) 5 dX10_sawFact_56 rfl rfl (by decide) rfl ?_
            refine ev_goto (tgt := 11) dX10_sawFact_59 (by decide) ?_
            refine ev_pick [2, 3, 4, 5, 1, 0] (ls' := [(0, .ref 80), (1, .int x1), (2, .int x2), (3, .int x3), (4, .int ((0 : Int32))), (5, .int (x5 + 1))]) rfl ?_
            exact ih x1 x2 x3 ((0 : Int32)) (x5 + 1) _ q h
          · have h := if_f c10 h
            refine ev_iconst (v := 1) dX10_sawFact_49 (by decide) ?_
            refine ev_goto (tgt := 54) dX10_sawFact_50 (by decide) ?_
            refine ev_istore (ls' := [(4, .int ((1 : Int32))), (0, .ref 80), (1, .int x1), (2, .int x2), (3, .int x3), (5, .int x5)]) dX10_sawFact_54 (by decide) rfl ?_
            refine ev_iinc (v := x5 + 1) (ls' := [(5, .int (x5 + 1)), (4, .int ((1 : Int32))), (0, .ref 80), (1, .int x1), (2, .int x2), (3, .int x3)]) 5 dX10_sawFact_56 rfl rfl (by decide) rfl ?_
            refine ev_goto (tgt := 11) dX10_sawFact_59 (by decide) ?_
            refine ev_pick [2, 3, 4, 5, 1, 0] (ls' := [(0, .ref 80), (1, .int x1), (2, .int x2), (3, .int x3), (4, .int ((1 : Int32))), (5, .int (x5 + 1))]) rfl ?_
            exact ih x1 x2 x3 ((1 : Int32)) (x5 + 1) _ q h
def f_X10_sawFact (n : Nat) (x1 : Int32) (x2 : Int32) (x3 : Int32) (A : Mem) : Option (Int32 × Mem) :=
  if ¬ x2 < 0 ∧ (x2).toNatClampNeg < 16 then
    g_X10_sawFact_11 n  n x1 x2 x3 ((0 : Int32)) (A 84 (x2).toNatClampNeg) A
  else
    none
set_option maxRecDepth 100000 in
set_option maxHeartbeats 4000000 in
theorem c_X10_sawFact (n : Nat) (x1 : Int32) (x2 : Int32) (x3 : Int32) (A : Mem) (q : Int32 × Mem) (h : f_X10_sawFact n x1 x2 x3 A = some q) : Ct yX10_sawFact cX10_sawFact 6 (some .boolean) 3 [.ref 80, .int x1, .int x2, .int x3] A (RI q) := by
  unfold f_X10_sawFact at h
  refine ct_of (by decide) (Nat.le_of_ble_eq_true rfl) ?_
  show Ev cX10_sawFact 6 RX10 (some .boolean) 3 none 0 [(0, .ref 80), (1, .int x1), (2, .int x2), (3, .int x3)] [] A (RI q)
  refine ev_iconst (v := 0) dX10_sawFact_0 (by decide) ?_
  refine ev_istore (ls' := [(4, .int ((0 : Int32))), (0, .ref 80), (1, .int x1), (2, .int x2), (3, .int x3)]) dX10_sawFact_1 (by decide) rfl ?_
  refine ev_aload_n 1 dX10_sawFact_3 rfl rfl ?_
  refine ev_getR (r := 84) dX10_sawFact_4 fl_X10_19 (by decide) rfl (by decide) (by decide) rfl ?_
  refine ev_iload_n 3 dX10_sawFact_7 rfl rfl ?_
  obtain ⟨c1, h⟩ := if_c h
  refine ev_ialdc 16 dX10_sawFact_8 (by decide) rfl rfl (by decide) c1 ?_
  refine ev_istore (ls' := [(5, .int (A 84 (x2).toNatClampNeg)), (4, .int ((0 : Int32))), (0, .ref 80), (1, .int x1), (2, .int x2), (3, .int x3)]) dX10_sawFact_9 (by decide) rfl ?_
  refine ev_pick [2, 3, 4, 5, 1, 0] (ls' := [(0, .ref 80), (1, .int x1), (2, .int x2), (3, .int x3), (4, .int ((0 : Int32))), (5, .int (A 84 (x2).toNatClampNeg))]) rfl ?_
  exact (l_X10_sawFact_11 n   n) x1 x2 x3 ((0 : Int32)) (A 84 (x2).toNatClampNeg) _ q h
def g_X10_toldFact_6 (n : Nat) : Nat → Int32 → Int32 → Int32 → Int32 → Int32 → Mem → Option (Int32 × Mem)
  | 0, _, _, _, _, _, _ => none
  | m + 1, x1, x2, x3, x4, x5, A =>
    if (A 80 25) ≤ x5 then
      if x4 = 0 ∨ x4 = 1 then
        some (x4, A)
      else
        none
    else
      if x4 = 0 then
        if ¬ x5 < 0 ∧ (x5).toNatClampNeg < 34 then
          if (A 96 (x5).toNatClampNeg) = x1 then
            if x3 < (A 97 (x5).toNatClampNeg) then
              g_X10_toldFact_6 n  m x1 x2 x3 ((0 : Int32)) (x5 + 1) A
            else
              if ¬ x2 < 0 ∧ (x2).toNatClampNeg < 16 then
                if (A 99 (x5).toNatClampNeg) = (A 82 (x2).toNatClampNeg) then
                  if (A 100 (x5).toNatClampNeg) = (A 83 (x2).toNatClampNeg) then
                    (f_X10_in n ((A 101 (x5).toNatClampNeg).toInt64) ((A 84 (x2).toNatClampNeg).toInt64) ((A 85 (x2).toNatClampNeg).toInt64) A).bind fun q10 =>
                    if q10.1 = 0 then
                      g_X10_toldFact_6 n  m x1 x2 x3 ((0 : Int32)) (x5 + 1) q10.2
                    else
                      g_X10_toldFact_6 n  m x1 x2 x3 ((1 : Int32)) (x5 + 1) q10.2
                  else
                    g_X10_toldFact_6 n  m x1 x2 x3 ((0 : Int32)) (x5 + 1) A
                else
                  g_X10_toldFact_6 n  m x1 x2 x3 ((0 : Int32)) (x5 + 1) A
              else
                none
          else
            g_X10_toldFact_6 n  m x1 x2 x3 ((0 : Int32)) (x5 + 1) A
        else
          none
      else
        g_X10_toldFact_6 n  m x1 x2 x3 ((1 : Int32)) (x5 + 1) A
set_option maxRecDepth 100000 in
set_option maxHeartbeats 4000000 in
theorem l_X10_toldFact_6 (n : Nat) : ∀ (m : Nat) (x1 : Int32) (x2 : Int32) (x3 : Int32) (x4 : Int32) (x5 : Int32) (A : Mem) (q : Int32 × Mem), g_X10_toldFact_6 n  m x1 x2 x3 x4 x5 A = some q → Ev cX10_toldFact 6 RX10 (some .boolean) 1 none 6 [(0, .ref 80), (1, .int x1), (2, .int x2), (3, .int x3), (4, .int x4), (5, .int x5)] [] A (RI q) := by
  intro m
  induction m with
  | zero => intro x1 x2 x3 x4 x5 A q h; exact absurd h (by simp [g_X10_toldFact_6])
  | succ m ih =>
    intro x1 x2 x3 x4 x5 A q h
    rw [g_X10_toldFact_6] at h
    refine ev_iload 5 dX10_toldFact_6 rfl ?_
    refine ev_aload_n 0 dX10_toldFact_8 rfl rfl ?_
    refine ev_getI dX10_toldFact_9 fl_X10_231 (by decide) rfl (by decide) (by decide) rfl ?_
    refine ev_icmp_ge (tgt := 115) dX10_toldFact_12 (by decide) (fun c1 => ?_) (fun c1 => ?_)
    · have h := if_t c1 h
      refine ev_iload 4 dX10_toldFact_115 rfl ?_
      obtain ⟨c2, h⟩ := if_c h
      cases h
      exact ev_iret dX10_toldFact_117 rfl (narB c2) ⟨rfl, rfl⟩
    · have h := if_f c1 h
      refine ev_iload 4 dX10_toldFact_15 rfl ?_
      refine ev_if_ne (tgt := 102) dX10_toldFact_17 (by decide) (fun c3 => ?_) (fun c3 => ?_)
      · have h := if_f c3 h
        refine ev_iconst (v := 1) dX10_toldFact_102 (by decide) ?_
        refine ev_goto (tgt := 107) dX10_toldFact_103 (by decide) ?_
        refine ev_istore (ls' := [(4, .int ((1 : Int32))), (0, .ref 80), (1, .int x1), (2, .int x2), (3, .int x3), (5, .int x5)]) dX10_toldFact_107 (by decide) rfl ?_
        refine ev_iinc (v := x5 + 1) (ls' := [(5, .int (x5 + 1)), (4, .int ((1 : Int32))), (0, .ref 80), (1, .int x1), (2, .int x2), (3, .int x3)]) 5 dX10_toldFact_109 rfl rfl (by decide) rfl ?_
        refine ev_goto (tgt := 6) dX10_toldFact_112 (by decide) ?_
        refine ev_pick [2, 3, 4, 5, 1, 0] (ls' := [(0, .ref 80), (1, .int x1), (2, .int x2), (3, .int x3), (4, .int ((1 : Int32))), (5, .int (x5 + 1))]) rfl ?_
        exact ih x1 x2 x3 ((1 : Int32)) (x5 + 1) _ q h
      · have h := if_t c3 h
        refine ev_aload_n 0 dX10_toldFact_20 rfl rfl ?_
        refine ev_getR (r := 96) dX10_toldFact_21 fl_X10_56 (by decide) rfl (by decide) (by decide) rfl ?_
        refine ev_iload 5 dX10_toldFact_24 rfl ?_
        obtain ⟨c4, h⟩ := if_c h
        refine ev_ialdc 34 dX10_toldFact_26 (by decide) rfl rfl (by decide) c4 ?_
        refine ev_iload_n 1 dX10_toldFact_27 rfl rfl ?_
        refine ev_icmp_ne (tgt := 106) dX10_toldFact_28 (by decide) (fun c5 => ?_) (fun c5 => ?_)
        · have h := if_f c5 h
          refine ev_iconst (v := 0) dX10_toldFact_106 (by decide) ?_
          refine ev_istore (ls' := [(4, .int ((0 : Int32))), (0, .ref 80), (1, .int x1), (2, .int x2), (3, .int x3), (5, .int x5)]) dX10_toldFact_107 (by decide) rfl ?_
          refine ev_iinc (v := x5 + 1) (ls' := [(5, .int (x5 + 1)), (4, .int ((0 : Int32))), (0, .ref 80), (1, .int x1), (2, .int x2), (3, .int x3)]) 5 dX10_toldFact_109 rfl rfl (by decide) rfl ?_
          refine ev_goto (tgt := 6) dX10_toldFact_112 (by decide) ?_
          refine ev_pick [2, 3, 4, 5, 1, 0] (ls' := [(0, .ref 80), (1, .int x1), (2, .int x2), (3, .int x3), (4, .int ((0 : Int32))), (5, .int (x5 + 1))]) rfl ?_
          exact ih x1 x2 x3 ((0 : Int32)) (x5 + 1) _ q h
        · have h := if_t c5 h
          refine ev_aload_n 0 dX10_toldFact_31 rfl rfl ?_
          refine ev_getR (r := 97) dX10_toldFact_32 fl_X10_59 (by decide) rfl (by decide) (by decide) rfl ?_
          refine ev_iload 5 dX10_toldFact_35 rfl ?_
          refine ev_ialdc 34 dX10_toldFact_37 (by decide) rfl rfl (by decide) c4 ?_
          refine ev_iload_n 3 dX10_toldFact_38 rfl rfl ?_
          refine ev_icmp_gt (tgt := 106) dX10_toldFact_39 (by decide) (fun c6 => ?_) (fun c6 => ?_)
          · have h := if_t c6 h
            refine ev_iconst (v := 0) dX10_toldFact_106 (by decide) ?_
            refine ev_istore (ls' := [(4, .int ((0 : Int32))), (0, .ref 80), (1, .int x1), (2, .int x2), (3, .int x3), (5, .int x5)]) dX10_toldFact_107 (by decide) rfl ?_
            refine ev_iinc (v := x5 + 1) (ls' := [(5, .int (x5 + 1)), (4, .int ((0 : Int32))), (0, .ref 80), (1, .int x1), (2, .int x2), (3, .int x3)]) 5 dX10_toldFact_109 rfl rfl (by decide) rfl ?_
            refine ev_goto (tgt := 6) dX10_toldFact_112 (by decide) ?_
            refine ev_pick [2, 3, 4, 5, 1, 0] (ls' := [(0, .ref 80), (1, .int x1), (2, .int x2), (3, .int x3), (4, .int ((0 : Int32))), (5, .int (x5 + 1))]) rfl ?_
            exact ih x1 x2 x3 ((0 : Int32)) (x5 + 1) _ q h
          · have h := if_f c6 h
            refine ev_aload_n 0 dX10_toldFact_42 rfl rfl ?_
            refine ev_getR (r := 99) dX10_toldFact_43 fl_X10_65 (by decide) rfl (by decide) (by decide) rfl ?_
            refine ev_iload 5 dX10_toldFact_46 rfl ?_
            refine ev_ialdc 34 dX10_toldFact_48 (by decide) rfl rfl (by decide) c4 ?_
            refine ev_aload_n 0 dX10_toldFact_49 rfl rfl ?_
            refine ev_getR (r := 82) dX10_toldFact_50 fl_X10_13 (by decide) rfl (by decide) (by decide) rfl ?_
            refine ev_iload_n 2 dX10_toldFact_53 rfl rfl ?_
            obtain ⟨c7, h⟩ := if_c h
            refine ev_ialdc 16 dX10_toldFact_54 (by decide) rfl rfl (by decide) c7 ?_
            refine ev_icmp_ne (tgt := 106) dX10_toldFact_55 (by decide) (fun c8 => ?_) (fun c8 => ?_)
            · have h := if_f c8 h
              refine ev_iconst (v := 0) dX10_toldFact_106 (by decide) ?_
              refine ev_istore (ls' := [(4, .int ((0 : Int32))), (0, .ref 80), (1, .int x1), (2, .int x2), (3, .int x3), (5, .int x5)]) dX10_toldFact_107 (by decide) rfl ?_
              refine ev_iinc (v := x5 + 1) (ls' := [(5, .int (x5 + 1)), (4, .int ((0 : Int32))), (0, .ref 80), (1, .int x1), (2, .int x2), (3, .int x3)]) 5 dX10_toldFact_109 rfl rfl (by decide) rfl ?_
              refine ev_goto (tgt := 6) dX10_toldFact_112 (by decide) ?_
              refine ev_pick [2, 3, 4, 5, 1, 0] (ls' := [(0, .ref 80), (1, .int x1), (2, .int x2), (3, .int x3), (4, .int ((0 : Int32))), (5, .int (x5 + 1))]) rfl ?_
              exact ih x1 x2 x3 ((0 : Int32)) (x5 + 1) _ q h
            · have h := if_t c8 h
              refine ev_aload_n 0 dX10_toldFact_58 rfl rfl ?_
              refine ev_getR (r := 100) dX10_toldFact_59 fl_X10_68 (by decide) rfl (by decide) (by decide) rfl ?_
              refine ev_iload 5 dX10_toldFact_62 rfl ?_
              refine ev_ialdc 34 dX10_toldFact_64 (by decide) rfl rfl (by decide) c4 ?_
              refine ev_aload_n 0 dX10_toldFact_65 rfl rfl ?_
              refine ev_getR (r := 83) dX10_toldFact_66 fl_X10_16 (by decide) rfl (by decide) (by decide) rfl ?_
              refine ev_iload_n 2 dX10_toldFact_69 rfl rfl ?_
              refine ev_ialdc 16 dX10_toldFact_70 (by decide) rfl rfl (by decide) c7 ?_
              refine ev_icmp_ne (tgt := 106) dX10_toldFact_71 (by decide) (fun c9 => ?_) (fun c9 => ?_)
              · have h := if_f c9 h
                refine ev_iconst (v := 0) dX10_toldFact_106 (by decide) ?_
                refine ev_istore (ls' := [(4, .int ((0 : Int32))), (0, .ref 80), (1, .int x1), (2, .int x2), (3, .int x3), (5, .int x5)]) dX10_toldFact_107 (by decide) rfl ?_
                refine ev_iinc (v := x5 + 1) (ls' := [(5, .int (x5 + 1)), (4, .int ((0 : Int32))), (0, .ref 80), (1, .int x1), (2, .int x2), (3, .int x3)]) 5 dX10_toldFact_109 rfl rfl (by decide) rfl ?_
                refine ev_goto (tgt := 6) dX10_toldFact_112 (by decide) ?_
                refine ev_pick [2, 3, 4, 5, 1, 0] (ls' := [(0, .ref 80), (1, .int x1), (2, .int x2), (3, .int x3), (4, .int ((0 : Int32))), (5, .int (x5 + 1))]) rfl ?_
                exact ih x1 x2 x3 ((0 : Int32)) (x5 + 1) _ q h
              · have h := if_t c9 h
                refine ev_aload_n 0 dX10_toldFact_74 rfl rfl ?_
                refine ev_getR (r := 101) dX10_toldFact_75 fl_X10_71 (by decide) rfl (by decide) (by decide) rfl ?_
                refine ev_iload 5 dX10_toldFact_78 rfl ?_
                refine ev_ialdc 34 dX10_toldFact_80 (by decide) rfl rfl (by decide) c4 ?_
                refine ev_i2l dX10_toldFact_81 ?_
                refine ev_aload_n 0 dX10_toldFact_82 rfl rfl ?_
                refine ev_getR (r := 84) dX10_toldFact_83 fl_X10_19 (by decide) rfl (by decide) (by decide) rfl ?_
                refine ev_iload_n 2 dX10_toldFact_86 rfl rfl ?_
                refine ev_ialdc 16 dX10_toldFact_87 (by decide) rfl rfl (by decide) c7 ?_
                refine ev_i2l dX10_toldFact_88 ?_
                refine ev_aload_n 0 dX10_toldFact_89 rfl rfl ?_
                refine ev_getR (r := 85) dX10_toldFact_90 fl_X10_22 (by decide) rfl (by decide) (by decide) rfl ?_
                refine ev_iload_n 2 dX10_toldFact_93 rfl rfl ?_
                refine ev_ialdc 16 dX10_toldFact_94 (by decide) rfl rfl (by decide) c7 ?_
                refine ev_i2l dX10_toldFact_95 ?_
                obtain ⟨q10, e11, h⟩ := bd_c h
                refine ev_callSi (av := [.long ((A 101 (x5).toNatClampNeg).toInt64), .long ((A 84 (x2).toNatClampNeg).toInt64), .long ((A 85 (x2).toNatClampNeg).toInt64)]) dX10_toldFact_96 (c_X10_in n ((A 101 (x5).toNatClampNeg).toInt64) ((A 84 (x2).toNatClampNeg).toInt64) ((A 85 (x2).toNatClampNeg).toInt64)  A q10 e11) mk_X10_in lk_X10_121 is_X10_in rfl (by decide) (by decide) (Nat.le_of_ble_eq_true rfl) rfl ?_
                refine ev_if_eq (tgt := 106) dX10_toldFact_99 (by decide) (fun c12 => ?_) (fun c12 => ?_)
                · have h := if_t c12 h
                  refine ev_iconst (v := 0) dX10_toldFact_106 (by decide) ?_
                  refine ev_istore (ls' := [(4, .int ((0 : Int32))), (0, .ref 80), (1, .int x1), (2, .int x2), (3, .int x3), (5, .int x5)]) dX10_toldFact_107 (by decide) rfl ?_
                  refine ev_iinc (v := x5 + 1) (ls' := [(5, .int (x5 + 1)), (4, .int ((0 : Int32))), (0, .ref 80), (1, .int x1), (2, .int x2), (3, .int x3)]) 5 dX10_toldFact_109 rfl rfl (by decide) rfl ?_
                  refine ev_goto (tgt := 6) dX10_toldFact_112 (by decide) ?_
                  refine ev_pick [2, 3, 4, 5, 1, 0] (ls' := [(0, .ref 80), (1, .int x1), (2, .int x2), (3, .int x3), (4, .int ((0 : Int32))), (5, .int (x5 + 1))]) rfl ?_
                  exact ih x1 x2 x3 ((0 : Int32)) (x5 + 1) _ q h
                · have h := if_f c12 h
                  refine ev_iconst (v := 1) dX10_toldFact_102 (by decide) ?_
                  refine ev_goto (tgt := 107) dX10_toldFact_103 (by decide) ?_
                  refine ev_istore (ls' := [(4, .int ((1 : Int32))), (0, .ref 80), (1, .int x1), (2, .int x2), (3, .int x3), (5, .int x5)]) dX10_toldFact_107 (by decide) rfl ?_
                  refine ev_iinc (v := x5 + 1) (ls' := [(5, .int (x5 + 1)), (4, .int ((1 : Int32))), (0, .ref 80), (1, .int x1), (2, .int x2), (3, .int x3)]) 5 dX10_toldFact_109 rfl rfl (by decide) rfl ?_
                  refine ev_goto (tgt := 6) dX10_toldFact_112 (by decide) ?_
                  refine ev_pick [2, 3, 4, 5, 1, 0] (ls' := [(0, .ref 80), (1, .int x1), (2, .int x2), (3, .int x3), (4, .int ((1 : Int32))), (5, .int (x5 + 1))]) rfl ?_
                  exact ih x1 x2 x3 ((1 : Int32)) (x5 + 1) _ q h
def f_X10_toldFact (n : Nat) (x1 : Int32) (x2 : Int32) (x3 : Int32) (A : Mem) : Option (Int32 × Mem) :=
  g_X10_toldFact_6 n  n x1 x2 x3 ((0 : Int32)) ((0 : Int32)) A
set_option maxRecDepth 100000 in
set_option maxHeartbeats 4000000 in
theorem c_X10_toldFact (n : Nat) (x1 : Int32) (x2 : Int32) (x3 : Int32) (A : Mem) (q : Int32 × Mem) (h : f_X10_toldFact n x1 x2 x3 A = some q) : Ct yX10_toldFact cX10_toldFact 6 (some .boolean) 1 [.ref 80, .int x1, .int x2, .int x3] A (RI q) := by
  unfold f_X10_toldFact at h
  refine ct_of (by decide) (Nat.le_of_ble_eq_true rfl) ?_
  show Ev cX10_toldFact 6 RX10 (some .boolean) 1 none 0 [(0, .ref 80), (1, .int x1), (2, .int x2), (3, .int x3)] [] A (RI q)
  refine ev_iconst (v := 0) dX10_toldFact_0 (by decide) ?_
  refine ev_istore (ls' := [(4, .int ((0 : Int32))), (0, .ref 80), (1, .int x1), (2, .int x2), (3, .int x3)]) dX10_toldFact_1 (by decide) rfl ?_
  refine ev_iconst (v := 0) dX10_toldFact_3 (by decide) ?_
  refine ev_istore (ls' := [(5, .int ((0 : Int32))), (4, .int ((0 : Int32))), (0, .ref 80), (1, .int x1), (2, .int x2), (3, .int x3)]) dX10_toldFact_4 (by decide) rfl ?_
  refine ev_pick [2, 3, 4, 5, 1, 0] (ls' := [(0, .ref 80), (1, .int x1), (2, .int x2), (3, .int x3), (4, .int ((0 : Int32))), (5, .int ((0 : Int32)))]) rfl ?_
  exact (l_X10_toldFact_6 n   n) x1 x2 x3 ((0 : Int32)) ((0 : Int32)) _ q h
def g_X10_lacks_25 (n : Nat) : Nat → Int32 → Int32 → Int32 → Int32 → Mem → Option (Int32 × Mem)
  | 0, _, _, _, _, _ => none
  | m + 1, x1, x2, x3, x4, A =>
    if (A 80 7) ≤ x4 then
      some (x3, A)
    else
      (f_X10_sawFact n x1 x4 x2 A).bind fun q8 =>
      if q8.1 = 0 then
        g_X10_lacks_25 n  m x1 x2 (x3 ||| ((0 : Int32))) (x4 + 1) q8.2
      else
        (f_X10_toldFact n x1 x4 x2 q8.2).bind fun q11 =>
        if q11.1 = 0 then
          g_X10_lacks_25 n  m x1 x2 (x3 ||| (((1 : Int32)) <<< (x4 &&& 31))) (x4 + 1) q11.2
        else
          g_X10_lacks_25 n  m x1 x2 (x3 ||| ((0 : Int32))) (x4 + 1) q11.2
set_option maxRecDepth 100000 in
set_option maxHeartbeats 4000000 in
theorem l_X10_lacks_25 (n : Nat) : ∀ (m : Nat) (x1 : Int32) (x2 : Int32) (x3 : Int32) (x4 : Int32) (A : Mem) (q : Int32 × Mem), g_X10_lacks_25 n  m x1 x2 x3 x4 A = some q → Ev cX10_lacks 5 RX10 (some .int) 4 none 25 [(0, .ref 80), (1, .int x1), (2, .int x2), (3, .int x3), (4, .int x4)] [] A (RI q) := by
  intro m
  induction m with
  | zero => intro x1 x2 x3 x4 A q h; exact absurd h (by simp [g_X10_lacks_25])
  | succ m ih =>
    intro x1 x2 x3 x4 A q h
    rw [g_X10_lacks_25] at h
    refine ev_iload 4 dX10_lacks_25 rfl ?_
    refine ev_aload_n 0 dX10_lacks_27 rfl rfl ?_
    refine ev_getI dX10_lacks_28 fl_X10_147 (by decide) rfl (by decide) (by decide) rfl ?_
    refine ev_icmp_ge (tgt := 73) dX10_lacks_31 (by decide) (fun c7 => ?_) (fun c7 => ?_)
    · have h := if_t c7 h
      refine ev_iload_n 3 dX10_lacks_73 rfl rfl ?_
      cases h
      exact ev_iret dX10_lacks_74 rfl rfl ⟨rfl, rfl⟩
    · have h := if_f c7 h
      refine ev_iload_n 3 dX10_lacks_34 rfl rfl ?_
      refine ev_aload_n 0 dX10_lacks_35 rfl rfl ?_
      refine ev_iload_n 1 dX10_lacks_36 rfl rfl ?_
      refine ev_iload 4 dX10_lacks_37 rfl ?_
      refine ev_iload_n 2 dX10_lacks_39 rfl rfl ?_
      obtain ⟨q8, e9, h⟩ := bd_c h
      refine ev_callVi (av := [.int x1, .int x4, .int x2]) dX10_lacks_40 (c_X10_sawFact n x1 x4 x2  A q8 e9) mk_X10_sawFact lk_X10_254 iv_X10_sawFact (Or.inl ⟨10, _, by decide, rfl, by decide, rfl, rfl⟩) rfl (by decide) (by decide) (Nat.le_of_ble_eq_true rfl) rfl ?_
      refine ev_if_eq (tgt := 64) dX10_lacks_43 (by decide) (fun c10 => ?_) (fun c10 => ?_)
      · have h := if_t c10 h
        refine ev_iconst (v := 0) dX10_lacks_64 (by decide) ?_
        refine ev_ior dX10_lacks_65 ?_
        refine ev_istore_n (ls' := [(3, .int (x3 ||| ((0 : Int32)))), (0, .ref 80), (1, .int x1), (2, .int x2), (4, .int x4)]) dX10_lacks_66 rfl (by decide) rfl ?_
        refine ev_iinc (v := x4 + 1) (ls' := [(4, .int (x4 + 1)), (3, .int (x3 ||| ((0 : Int32)))), (0, .ref 80), (1, .int x1), (2, .int x2)]) 4 dX10_lacks_67 rfl rfl (by decide) rfl ?_
        refine ev_goto (tgt := 25) dX10_lacks_70 (by decide) ?_
        refine ev_pick [2, 3, 4, 1, 0] (ls' := [(0, .ref 80), (1, .int x1), (2, .int x2), (3, .int (x3 ||| ((0 : Int32)))), (4, .int (x4 + 1))]) rfl ?_
        exact ih x1 x2 (x3 ||| ((0 : Int32))) (x4 + 1) _ q h
      · have h := if_f c10 h
        refine ev_aload_n 0 dX10_lacks_46 rfl rfl ?_
        refine ev_iload_n 1 dX10_lacks_47 rfl rfl ?_
        refine ev_iload 4 dX10_lacks_48 rfl ?_
        refine ev_iload_n 2 dX10_lacks_50 rfl rfl ?_
        obtain ⟨q11, e12, h⟩ := bd_c h
        refine ev_callVi (av := [.int x1, .int x4, .int x2]) dX10_lacks_51 (c_X10_toldFact n x1 x4 x2  q8.2 q11 e12) mk_X10_toldFact lk_X10_257 iv_X10_toldFact (Or.inl ⟨10, _, by decide, rfl, by decide, rfl, rfl⟩) rfl (by decide) (by decide) (Nat.le_of_ble_eq_true rfl) rfl ?_
        refine ev_if_ne (tgt := 64) dX10_lacks_54 (by decide) (fun c13 => ?_) (fun c13 => ?_)
        · have h := if_f c13 h
          refine ev_iconst (v := 0) dX10_lacks_64 (by decide) ?_
          refine ev_ior dX10_lacks_65 ?_
          refine ev_istore_n (ls' := [(3, .int (x3 ||| ((0 : Int32)))), (0, .ref 80), (1, .int x1), (2, .int x2), (4, .int x4)]) dX10_lacks_66 rfl (by decide) rfl ?_
          refine ev_iinc (v := x4 + 1) (ls' := [(4, .int (x4 + 1)), (3, .int (x3 ||| ((0 : Int32)))), (0, .ref 80), (1, .int x1), (2, .int x2)]) 4 dX10_lacks_67 rfl rfl (by decide) rfl ?_
          refine ev_goto (tgt := 25) dX10_lacks_70 (by decide) ?_
          refine ev_pick [2, 3, 4, 1, 0] (ls' := [(0, .ref 80), (1, .int x1), (2, .int x2), (3, .int (x3 ||| ((0 : Int32)))), (4, .int (x4 + 1))]) rfl ?_
          exact ih x1 x2 (x3 ||| ((0 : Int32))) (x4 + 1) _ q h
        · have h := if_t c13 h
          refine ev_iconst (v := 1) dX10_lacks_57 (by decide) ?_
          refine ev_iload 4 dX10_lacks_58 rfl ?_
          refine ev_ishl dX10_lacks_60 ?_
          refine ev_goto (tgt := 65) dX10_lacks_61 (by decide) ?_
          refine ev_ior dX10_lacks_65 ?_
          refine ev_istore_n (ls' := [(3, .int (x3 ||| (((1 : Int32)) <<< (x4 &&& 31)))), (0, .ref 80), (1, .int x1), (2, .int x2), (4, .int x4)]) dX10_lacks_66 rfl (by decide) rfl ?_
          refine ev_iinc (v := x4 + 1) (ls' := [(4, .int (x4 + 1)), (3, .int (x3 ||| (((1 : Int32)) <<< (x4 &&& 31)))), (0, .ref 80), (1, .int x1), (2, .int x2)]) 4 dX10_lacks_67 rfl rfl (by decide) rfl ?_
          refine ev_goto (tgt := 25) dX10_lacks_70 (by decide) ?_
          refine ev_pick [2, 3, 4, 1, 0] (ls' := [(0, .ref 80), (1, .int x1), (2, .int x2), (3, .int (x3 ||| (((1 : Int32)) <<< (x4 &&& 31)))), (4, .int (x4 + 1))]) rfl ?_
          exact ih x1 x2 (x3 ||| (((1 : Int32)) <<< (x4 &&& 31))) (x4 + 1) _ q h
def f_X10_lacks (n : Nat) (x1 : Int32) (x2 : Int32) (A : Mem) : Option (Int32 × Mem) :=
  (f_X10_isAgent n x1 A).bind fun q1 =>
  if q1.1 = 0 then
    some ((-2 : Int32), q1.2)
  else
    (f_X10_isDay n x2 q1.2).bind fun q4 =>
    if q4.1 = 0 then
      some ((-3 : Int32), q4.2)
    else
      g_X10_lacks_25 n  n x1 x2 ((0 : Int32)) ((0 : Int32)) q4.2
set_option maxRecDepth 100000 in
set_option maxHeartbeats 4000000 in
theorem c_X10_lacks (n : Nat) (x1 : Int32) (x2 : Int32) (A : Mem) (q : Int32 × Mem) (h : f_X10_lacks n x1 x2 A = some q) : Ct yX10_lacks cX10_lacks 5 (some .int) 4 [.ref 80, .int x1, .int x2] A (RI q) := by
  unfold f_X10_lacks at h
  refine ct_of (by decide) (Nat.le_of_ble_eq_true rfl) ?_
  show Ev cX10_lacks 5 RX10 (some .int) 4 none 0 [(0, .ref 80), (1, .int x1), (2, .int x2)] [] A (RI q)
  refine ev_iload_n 1 dX10_lacks_0 rfl rfl ?_
  obtain ⟨q1, e2, h⟩ := bd_c h
  refine ev_callSi (av := [.int x1]) dX10_lacks_1 (c_X10_isAgent n x1  A q1 e2) mk_X10_isAgent lk_X10_155 is_X10_isAgent rfl (by decide) (by decide) (Nat.le_of_ble_eq_true rfl) rfl ?_
  refine ev_if_ne (tgt := 10) dX10_lacks_4 (by decide) (fun c3 => ?_) (fun c3 => ?_)
  · have h := if_f c3 h
    refine ev_iload_n 2 dX10_lacks_10 rfl rfl ?_
    obtain ⟨q4, e5, h⟩ := bd_c h
    refine ev_callSi (av := [.int x2]) dX10_lacks_11 (c_X10_isDay n x2  q1.2 q4 e5) mk_X10_isDay lk_X10_142 is_X10_isDay rfl (by decide) (by decide) (Nat.le_of_ble_eq_true rfl) rfl ?_
    refine ev_if_ne (tgt := 20) dX10_lacks_14 (by decide) (fun c6 => ?_) (fun c6 => ?_)
    · have h := if_f c6 h
      refine ev_iconst (v := 0) dX10_lacks_20 (by decide) ?_
      refine ev_istore_n (ls' := [(3, .int ((0 : Int32))), (0, .ref 80), (1, .int x1), (2, .int x2)]) dX10_lacks_21 rfl (by decide) rfl ?_
      refine ev_iconst (v := 0) dX10_lacks_22 (by decide) ?_
      refine ev_istore (ls' := [(4, .int ((0 : Int32))), (3, .int ((0 : Int32))), (0, .ref 80), (1, .int x1), (2, .int x2)]) dX10_lacks_23 (by decide) rfl ?_
      refine ev_pick [2, 3, 4, 1, 0] (ls' := [(0, .ref 80), (1, .int x1), (2, .int x2), (3, .int ((0 : Int32))), (4, .int ((0 : Int32)))]) rfl ?_
      exact (l_X10_lacks_25 n   n) x1 x2 ((0 : Int32)) ((0 : Int32)) _ q h
    · have h := if_t c6 h
      refine ev_bipush (v := -3) dX10_lacks_17 (by decide) ?_
      cases h
      exact ev_iret dX10_lacks_19 rfl rfl ⟨rfl, rfl⟩
  · have h := if_t c3 h
    refine ev_bipush (v := -2) dX10_lacks_7 (by decide) ?_
    cases h
    exact ev_iret dX10_lacks_9 rfl rfl ⟨rfl, rfl⟩
def g_X10_ill_12 (n : Nat) : Nat → Nat → Int32 → Int32 → Int32 → Mem → Option (Int32 × Mem)
  | 0, _, _, _, _, _ => none
  | m + 1, b, x1, x2, x3, A =>
    if b = 0 then
      if ((60 : Int32)) < x2 then
        some ((-1 : Int32), A)
      else
        g_X10_ill_12 n  m 1 x1 x2 ((0 : Int32)) A
    else
      if (A 80 7) ≤ x3 then
        g_X10_ill_12 n  m 0 x1 (x2 + 1) 0 A
      else
        if ¬ x3 < 0 ∧ (x3).toNatClampNeg < 16 then
          if (A 87 (x3).toNatClampNeg) = 0 then
            g_X10_ill_12 n  m 1 x1 x2 (x3 + 1) A
          else
            (f_X10_in n ((x2).toInt64) ((A 84 (x3).toNatClampNeg).toInt64) ((A 85 (x3).toNatClampNeg).toInt64) A).bind fun q8 =>
            if q8.1 = 0 then
              g_X10_ill_12 n  m 1 x1 x2 (x3 + 1) q8.2
            else
              (f_X10_sawPlace n x1 (q8.2 82 (x3).toNatClampNeg) x2 q8.2).bind fun q11 =>
              if q11.1 = 0 then
                g_X10_ill_12 n  m 1 x1 x2 (x3 + 1) q11.2
              else
                some (x2, q11.2)
        else
          none
set_option maxRecDepth 100000 in
set_option maxHeartbeats 4000000 in
theorem l_X10_ill_12 (n : Nat) : ∀ (m : Nat), (∀ (x1 : Int32) (x2 : Int32) (x3 : Int32) (A : Mem) (q : Int32 × Mem), g_X10_ill_12 n  m 0 x1 x2 x3 A = some q → Ev cX10_ill 4 RX10 (some .int) 3 none 12 [(0, .ref 80), (1, .int x1), (2, .int x2)] [] A (RI q)) ∧ (∀ (x1 : Int32) (x2 : Int32) (x3 : Int32) (A : Mem) (q : Int32 × Mem), g_X10_ill_12 n  m 1 x1 x2 x3 A = some q → Ev cX10_ill 4 RX10 (some .int) 3 none 20 [(0, .ref 80), (1, .int x1), (2, .int x2), (3, .int x3)] [] A (RI q)) := by
  intro m
  induction m with
  | zero => exact ⟨fun x1 x2 x3 A q h => absurd h (by simp [g_X10_ill_12]), fun x1 x2 x3 A q h => absurd h (by simp [g_X10_ill_12])⟩
  | succ m ih =>
    constructor
    · intro x1 x2 x3 A q h
      rw [g_X10_ill_12] at h
      have h := if_t rfl h
      refine ev_iload_n 2 dX10_ill_12 rfl rfl ?_
      refine ev_bipush (v := 60) dX10_ill_13 (by decide) ?_
      refine ev_icmp_gt (tgt := 88) dX10_ill_15 (by decide) (fun c4 => ?_) (fun c4 => ?_)
      · have h := if_t c4 h
        refine ev_iconst (v := -1) dX10_ill_88 (by decide) ?_
        cases h
        exact ev_iret dX10_ill_89 rfl rfl ⟨rfl, rfl⟩
      · have h := if_f c4 h
        refine ev_iconst (v := 0) dX10_ill_18 (by decide) ?_
        refine ev_istore_n (ls' := [(3, .int ((0 : Int32))), (0, .ref 80), (1, .int x1), (2, .int x2)]) dX10_ill_19 rfl (by decide) rfl ?_
        refine ev_pick [1, 2, 3, 0] (ls' := [(0, .ref 80), (1, .int x1), (2, .int x2), (3, .int ((0 : Int32)))]) rfl ?_
        exact ih.2 x1 x2 ((0 : Int32)) _ q h
    · intro x1 x2 x3 A q h
      rw [g_X10_ill_12] at h
      have h := if_f (by decide) h
      refine ev_iload_n 3 dX10_ill_20 rfl rfl ?_
      refine ev_aload_n 0 dX10_ill_21 rfl rfl ?_
      refine ev_getI dX10_ill_22 fl_X10_147 (by decide) rfl (by decide) (by decide) rfl ?_
      refine ev_icmp_ge (tgt := 82) dX10_ill_25 (by decide) (fun c5 => ?_) (fun c5 => ?_)
      · have h := if_t c5 h
        refine ev_iinc (v := x2 + 1) (ls' := [(2, .int (x2 + 1)), (0, .ref 80), (1, .int x1), (3, .int x3)]) 2 dX10_ill_82 rfl rfl (by decide) rfl ?_
        refine ev_goto (tgt := 12) dX10_ill_85 (by decide) ?_
        refine ev_pick [1, 2, 0] (ls' := [(0, .ref 80), (1, .int x1), (2, .int (x2 + 1))]) rfl ?_
        exact ih.1 x1 (x2 + 1) 0 _ q h
      · have h := if_f c5 h
        refine ev_aload_n 0 dX10_ill_28 rfl rfl ?_
        refine ev_getR (r := 87) dX10_ill_29 fl_X10_28 (by decide) rfl (by decide) (by decide) rfl ?_
        refine ev_iload_n 3 dX10_ill_32 rfl rfl ?_
        obtain ⟨c6, h⟩ := if_c h
        refine ev_zaldc 16 dX10_ill_33 (by decide) rfl rfl (by decide) c6 ?_
        refine ev_if_eq (tgt := 76) dX10_ill_34 (by decide) (fun c7 => ?_) (fun c7 => ?_)
        · have h := if_t c7 h
          refine ev_iinc (v := x3 + 1) (ls' := [(3, .int (x3 + 1)), (0, .ref 80), (1, .int x1), (2, .int x2)]) 3 dX10_ill_76 rfl rfl (by decide) rfl ?_
          refine ev_goto (tgt := 20) dX10_ill_79 (by decide) ?_
          refine ev_pick [1, 2, 3, 0] (ls' := [(0, .ref 80), (1, .int x1), (2, .int x2), (3, .int (x3 + 1))]) rfl ?_
          exact ih.2 x1 x2 (x3 + 1) _ q h
        · have h := if_f c7 h
          refine ev_iload_n 2 dX10_ill_37 rfl rfl ?_
          refine ev_i2l dX10_ill_38 ?_
          refine ev_aload_n 0 dX10_ill_39 rfl rfl ?_
          refine ev_getR (r := 84) dX10_ill_40 fl_X10_19 (by decide) rfl (by decide) (by decide) rfl ?_
          refine ev_iload_n 3 dX10_ill_43 rfl rfl ?_
          refine ev_ialdc 16 dX10_ill_44 (by decide) rfl rfl (by decide) c6 ?_
          refine ev_i2l dX10_ill_45 ?_
          refine ev_aload_n 0 dX10_ill_46 rfl rfl ?_
          refine ev_getR (r := 85) dX10_ill_47 fl_X10_22 (by decide) rfl (by decide) (by decide) rfl ?_
          refine ev_iload_n 3 dX10_ill_50 rfl rfl ?_
          refine ev_ialdc 16 dX10_ill_51 (by decide) rfl rfl (by decide) c6 ?_
          refine ev_i2l dX10_ill_52 ?_
          obtain ⟨q8, e9, h⟩ := bd_c h
          refine ev_callSi (av := [.long ((x2).toInt64), .long ((A 84 (x3).toNatClampNeg).toInt64), .long ((A 85 (x3).toNatClampNeg).toInt64)]) dX10_ill_53 (c_X10_in n ((x2).toInt64) ((A 84 (x3).toNatClampNeg).toInt64) ((A 85 (x3).toNatClampNeg).toInt64)  A q8 e9) mk_X10_in lk_X10_121 is_X10_in rfl (by decide) (by decide) (Nat.le_of_ble_eq_true rfl) rfl ?_
          refine ev_if_eq (tgt := 76) dX10_ill_56 (by decide) (fun c10 => ?_) (fun c10 => ?_)
          · have h := if_t c10 h
            refine ev_iinc (v := x3 + 1) (ls' := [(3, .int (x3 + 1)), (0, .ref 80), (1, .int x1), (2, .int x2)]) 3 dX10_ill_76 rfl rfl (by decide) rfl ?_
            refine ev_goto (tgt := 20) dX10_ill_79 (by decide) ?_
            refine ev_pick [1, 2, 3, 0] (ls' := [(0, .ref 80), (1, .int x1), (2, .int x2), (3, .int (x3 + 1))]) rfl ?_
            exact ih.2 x1 x2 (x3 + 1) _ q h
          · have h := if_f c10 h
            refine ev_aload_n 0 dX10_ill_59 rfl rfl ?_
            refine ev_iload_n 1 dX10_ill_60 rfl rfl ?_
            refine ev_aload_n 0 dX10_ill_61 rfl rfl ?_
            refine ev_getR (r := 82) dX10_ill_62 fl_X10_13 (by decide) rfl (by decide) (by decide) rfl ?_
            refine ev_iload_n 3 dX10_ill_65 rfl rfl ?_
            refine ev_ialdc 16 dX10_ill_66 (by decide) rfl rfl (by decide) c6 ?_
            refine ev_iload_n 2 dX10_ill_67 rfl rfl ?_
            obtain ⟨q11, e12, h⟩ := bd_c h
            refine ev_callVi (av := [.int x1, .int (q8.2 82 (x3).toNatClampNeg), .int x2]) dX10_ill_68 (c_X10_sawPlace n x1 (q8.2 82 (x3).toNatClampNeg) x2  q8.2 q11 e12) mk_X10_sawPlace lk_X10_247 iv_X10_sawPlace (Or.inl ⟨10, _, by decide, rfl, by decide, rfl, rfl⟩) rfl (by decide) (by decide) (Nat.le_of_ble_eq_true rfl) rfl ?_
            refine ev_if_eq (tgt := 76) dX10_ill_71 (by decide) (fun c13 => ?_) (fun c13 => ?_)
            · have h := if_t c13 h
              refine ev_iinc (v := x3 + 1) (ls' := [(3, .int (x3 + 1)), (0, .ref 80), (1, .int x1), (2, .int x2)]) 3 dX10_ill_76 rfl rfl (by decide) rfl ?_
              refine ev_goto (tgt := 20) dX10_ill_79 (by decide) ?_
              refine ev_pick [1, 2, 3, 0] (ls' := [(0, .ref 80), (1, .int x1), (2, .int x2), (3, .int (x3 + 1))]) rfl ?_
              exact ih.2 x1 x2 (x3 + 1) _ q h
            · have h := if_f c13 h
              refine ev_iload_n 2 dX10_ill_74 rfl rfl ?_
              cases h
              exact ev_iret dX10_ill_75 rfl rfl ⟨rfl, rfl⟩
def f_X10_ill (n : Nat) (x1 : Int32) (A : Mem) : Option (Int32 × Mem) :=
  (f_X10_isAgent n x1 A).bind fun q1 =>
  if q1.1 = 0 then
    some ((-2 : Int32), q1.2)
  else
    g_X10_ill_12 n  n 0 x1 ((0 : Int32)) 0 q1.2
set_option maxRecDepth 100000 in
set_option maxHeartbeats 4000000 in
theorem c_X10_ill (n : Nat) (x1 : Int32) (A : Mem) (q : Int32 × Mem) (h : f_X10_ill n x1 A = some q) : Ct yX10_ill cX10_ill 4 (some .int) 3 [.ref 80, .int x1] A (RI q) := by
  unfold f_X10_ill at h
  refine ct_of (by decide) (Nat.le_of_ble_eq_true rfl) ?_
  show Ev cX10_ill 4 RX10 (some .int) 3 none 0 [(0, .ref 80), (1, .int x1)] [] A (RI q)
  refine ev_iload_n 1 dX10_ill_0 rfl rfl ?_
  obtain ⟨q1, e2, h⟩ := bd_c h
  refine ev_callSi (av := [.int x1]) dX10_ill_1 (c_X10_isAgent n x1  A q1 e2) mk_X10_isAgent lk_X10_155 is_X10_isAgent rfl (by decide) (by decide) (Nat.le_of_ble_eq_true rfl) rfl ?_
  refine ev_if_ne (tgt := 10) dX10_ill_4 (by decide) (fun c3 => ?_) (fun c3 => ?_)
  · have h := if_f c3 h
    refine ev_iconst (v := 0) dX10_ill_10 (by decide) ?_
    refine ev_istore_n (ls' := [(2, .int ((0 : Int32))), (0, .ref 80), (1, .int x1)]) dX10_ill_11 rfl (by decide) rfl ?_
    refine ev_pick [1, 2, 0] (ls' := [(0, .ref 80), (1, .int x1), (2, .int ((0 : Int32)))]) rfl ?_
    exact (l_X10_ill_12 n   n).1 x1 ((0 : Int32)) 0 _ q h
  · have h := if_t c3 h
    refine ev_bipush (v := -2) dX10_ill_7 (by decide) ?_
    cases h
    exact ev_iret dX10_ill_9 rfl rfl ⟨rfl, rfl⟩
def f_X10_eyes (n : Nat) (x1 : Int32) (x2 : Int32) (x3 : Int32) (x4 : Int32) (A : Mem) : Option (Int32 × Mem) :=
  (f_X10_isReader n x1 A).bind fun q1 =>
  if q1.1 = 0 then
    some ((-2 : Int32), q1.2)
  else
    (f_X10_isPlace n x2 q1.2).bind fun q4 =>
    if q4.1 = 0 then
      some ((-2 : Int32), q4.2)
    else
      (f_X10_isDay n x3 q4.2).bind fun q7 =>
      if q7.1 = 0 then
        some ((-3 : Int32), q7.2)
      else
        (f_X10_in n ((x4).toInt64) ((x3).toInt64) ((60 : Int64)) q7.2).bind fun q10 =>
        if q10.1 = 0 then
          some ((-3 : Int32), q10.2)
        else
          if ¬ x1 < 0 ∧ (x1).toNatClampNeg < 2 then
            if (q10.2 108 (x1).toNatClampNeg) = ((6 : Int32)) then
              some ((-5 : Int32), q10.2)
            else
              if ¬ ((((6 : Int32)) * x1) + (q10.2 108 (x1).toNatClampNeg)) < 0 ∧ ((((6 : Int32)) * x1) + (q10.2 108 (x1).toNatClampNeg)).toNatClampNeg < 12 then
                some ((st2 (st2 (st2 (st2 q10.2 105 ((((6 : Int32)) * x1) + (q10.2 108 (x1).toNatClampNeg)).toNatClampNeg x2) 106 ((((6 : Int32)) * x1) + (q10.2 108 (x1).toNatClampNeg)).toNatClampNeg x3) 107 ((((6 : Int32)) * x1) + (q10.2 108 (x1).toNatClampNeg)).toNatClampNeg x4) 108 (x1).toNatClampNeg (((st2 (st2 (st2 q10.2 105 ((((6 : Int32)) * x1) + (q10.2 108 (x1).toNatClampNeg)).toNatClampNeg x2) 106 ((((6 : Int32)) * x1) + (q10.2 108 (x1).toNatClampNeg)).toNatClampNeg x3) 107 ((((6 : Int32)) * x1) + (q10.2 108 (x1).toNatClampNeg)).toNatClampNeg x4) 108 (x1).toNatClampNeg) + ((1 : Int32)))) 108 (x1).toNatClampNeg, st2 (st2 (st2 (st2 q10.2 105 ((((6 : Int32)) * x1) + (q10.2 108 (x1).toNatClampNeg)).toNatClampNeg x2) 106 ((((6 : Int32)) * x1) + (q10.2 108 (x1).toNatClampNeg)).toNatClampNeg x3) 107 ((((6 : Int32)) * x1) + (q10.2 108 (x1).toNatClampNeg)).toNatClampNeg x4) 108 (x1).toNatClampNeg (((st2 (st2 (st2 q10.2 105 ((((6 : Int32)) * x1) + (q10.2 108 (x1).toNatClampNeg)).toNatClampNeg x2) 106 ((((6 : Int32)) * x1) + (q10.2 108 (x1).toNatClampNeg)).toNatClampNeg x3) 107 ((((6 : Int32)) * x1) + (q10.2 108 (x1).toNatClampNeg)).toNatClampNeg x4) 108 (x1).toNatClampNeg) + ((1 : Int32))))
              else
                none
          else
            none
set_option maxRecDepth 100000 in
set_option maxHeartbeats 4000000 in
theorem c_X10_eyes (n : Nat) (x1 : Int32) (x2 : Int32) (x3 : Int32) (x4 : Int32) (A : Mem) (q : Int32 × Mem) (h : f_X10_eyes n x1 x2 x3 x4 A = some q) : Ct yX10_eyes cX10_eyes 6 (some .int) 2 [.ref 80, .int x1, .int x2, .int x3, .int x4] A (RI q) := by
  unfold f_X10_eyes at h
  refine ct_of (by decide) (Nat.le_of_ble_eq_true rfl) ?_
  show Ev cX10_eyes 6 RX10 (some .int) 2 none 0 [(0, .ref 80), (1, .int x1), (2, .int x2), (3, .int x3), (4, .int x4)] [] A (RI q)
  refine ev_iload_n 1 dX10_eyes_0 rfl rfl ?_
  obtain ⟨q1, e2, h⟩ := bd_c h
  refine ev_callSi (av := [.int x1]) dX10_eyes_1 (c_X10_isReader n x1  A q1 e2) mk_X10_isReader lk_X10_215 is_X10_isReader rfl (by decide) (by decide) (Nat.le_of_ble_eq_true rfl) rfl ?_
  refine ev_if_eq (tgt := 14) dX10_eyes_4 (by decide) (fun c3 => ?_) (fun c3 => ?_)
  · have h := if_t c3 h
    refine ev_bipush (v := -2) dX10_eyes_14 (by decide) ?_
    cases h
    exact ev_iret dX10_eyes_16 rfl rfl ⟨rfl, rfl⟩
  · have h := if_f c3 h
    refine ev_iload_n 2 dX10_eyes_7 rfl rfl ?_
    obtain ⟨q4, e5, h⟩ := bd_c h
    refine ev_callSi (av := [.int x2]) dX10_eyes_8 (c_X10_isPlace n x2  q1.2 q4 e5) mk_X10_isPlace lk_X10_133 is_X10_isPlace rfl (by decide) (by decide) (Nat.le_of_ble_eq_true rfl) rfl ?_
    refine ev_if_ne (tgt := 17) dX10_eyes_11 (by decide) (fun c6 => ?_) (fun c6 => ?_)
    · have h := if_f c6 h
      refine ev_iload_n 3 dX10_eyes_17 rfl rfl ?_
      obtain ⟨q7, e8, h⟩ := bd_c h
      refine ev_callSi (av := [.int x3]) dX10_eyes_18 (c_X10_isDay n x3  q4.2 q7 e8) mk_X10_isDay lk_X10_142 is_X10_isDay rfl (by decide) (by decide) (Nat.le_of_ble_eq_true rfl) rfl ?_
      refine ev_if_eq (tgt := 38) dX10_eyes_21 (by decide) (fun c9 => ?_) (fun c9 => ?_)
      · have h := if_t c9 h
        refine ev_bipush (v := -3) dX10_eyes_38 (by decide) ?_
        cases h
        exact ev_iret dX10_eyes_40 rfl rfl ⟨rfl, rfl⟩
      · have h := if_f c9 h
        refine ev_iload 4 dX10_eyes_24 rfl ?_
        refine ev_i2l dX10_eyes_26 ?_
        refine ev_iload_n 3 dX10_eyes_27 rfl rfl ?_
        refine ev_i2l dX10_eyes_28 ?_
        refine ev_ldc2 dX10_eyes_29 kc_X10_127 ?_
        obtain ⟨q10, e11, h⟩ := bd_c h
        refine ev_callSi (av := [.long ((x4).toInt64), .long ((x3).toInt64), .long ((60 : Int64))]) dX10_eyes_32 (c_X10_in n ((x4).toInt64) ((x3).toInt64) ((60 : Int64))  q7.2 q10 e11) mk_X10_in lk_X10_121 is_X10_in rfl (by decide) (by decide) (Nat.le_of_ble_eq_true rfl) rfl ?_
        refine ev_if_ne (tgt := 41) dX10_eyes_35 (by decide) (fun c12 => ?_) (fun c12 => ?_)
        · have h := if_f c12 h
          refine ev_aload_n 0 dX10_eyes_41 rfl rfl ?_
          refine ev_getR (r := 108) dX10_eyes_42 fl_X10_92 (by decide) rfl (by decide) (by decide) rfl ?_
          refine ev_iload_n 1 dX10_eyes_45 rfl rfl ?_
          obtain ⟨c13, h⟩ := if_c h
          refine ev_ialdc 2 dX10_eyes_46 (by decide) rfl rfl (by decide) c13 ?_
          refine ev_bipush (v := 6) dX10_eyes_47 (by decide) ?_
          refine ev_icmp_ne (tgt := 55) dX10_eyes_49 (by decide) (fun c14 => ?_) (fun c14 => ?_)
          · have h := if_f c14 h
            refine ev_bipush (v := 6) dX10_eyes_55 (by decide) ?_
            refine ev_iload_n 1 dX10_eyes_57 rfl rfl ?_
            refine ev_imul dX10_eyes_58 ?_
            refine ev_aload_n 0 dX10_eyes_59 rfl rfl ?_
            refine ev_getR (r := 108) dX10_eyes_60 fl_X10_92 (by decide) rfl (by decide) (by decide) rfl ?_
            refine ev_iload_n 1 dX10_eyes_63 rfl rfl ?_
            refine ev_ialdc 2 dX10_eyes_64 (by decide) rfl rfl (by decide) c13 ?_
            refine ev_iadd dX10_eyes_65 ?_
            refine ev_istore (ls' := [(5, .int ((((6 : Int32)) * x1) + (q10.2 108 (x1).toNatClampNeg))), (0, .ref 80), (1, .int x1), (2, .int x2), (3, .int x3), (4, .int x4)]) dX10_eyes_66 (by decide) rfl ?_
            refine ev_aload_n 1 dX10_eyes_68 rfl rfl ?_
            refine ev_getR (r := 105) dX10_eyes_69 fl_X10_83 (by decide) rfl (by decide) (by decide) rfl ?_
            refine ev_iload 0 dX10_eyes_72 rfl ?_
            refine ev_iload_n 3 dX10_eyes_74 rfl rfl ?_
            obtain ⟨c15, h⟩ := if_c h
            refine ev_iastc 12 dX10_eyes_75 (by decide) rfl rfl (by decide) c15 ?_
            refine ev_aload_n 1 dX10_eyes_76 rfl rfl ?_
            refine ev_getR (r := 106) dX10_eyes_77 fl_X10_86 (by decide) rfl (by decide) (by decide) rfl ?_
            refine ev_iload 0 dX10_eyes_80 rfl ?_
            refine ev_iload_n 4 dX10_eyes_82 rfl rfl ?_
            refine ev_iastc 12 dX10_eyes_83 (by decide) rfl rfl (by decide) c15 ?_
            refine ev_aload_n 1 dX10_eyes_84 rfl rfl ?_
            refine ev_getR (r := 107) dX10_eyes_85 fl_X10_89 (by decide) rfl (by decide) (by decide) rfl ?_
            refine ev_iload 0 dX10_eyes_88 rfl ?_
            refine ev_iload 5 dX10_eyes_90 rfl ?_
            refine ev_iastc 12 dX10_eyes_92 (by decide) rfl rfl (by decide) c15 ?_
            refine ev_aload_n 1 dX10_eyes_93 rfl rfl ?_
            refine ev_getR (r := 108) dX10_eyes_94 fl_X10_92 (by decide) rfl (by decide) (by decide) rfl ?_
            refine ev_iload_n 2 dX10_eyes_97 rfl rfl ?_
            refine ev_dup2 dX10_eyes_98 rfl rfl ?_
            refine ev_ialdc 2 dX10_eyes_99 (by decide) rfl rfl (by decide) c13 ?_
            refine ev_iconst (v := 1) dX10_eyes_100 (by decide) ?_
            refine ev_iadd dX10_eyes_101 ?_
            refine ev_iastc 2 dX10_eyes_102 (by decide) rfl rfl (by decide) c13 ?_
            refine ev_aload_n 1 dX10_eyes_103 rfl rfl ?_
            refine ev_getR (r := 108) dX10_eyes_104 fl_X10_92 (by decide) rfl (by decide) (by decide) rfl ?_
            refine ev_iload_n 2 dX10_eyes_107 rfl rfl ?_
            refine ev_ialdc 2 dX10_eyes_108 (by decide) rfl rfl (by decide) c13 ?_
            cases h
            exact ev_iret dX10_eyes_109 rfl rfl ⟨rfl, rfl⟩
          · have h := if_t c14 h
            refine ev_bipush (v := -5) dX10_eyes_52 (by decide) ?_
            cases h
            exact ev_iret dX10_eyes_54 rfl rfl ⟨rfl, rfl⟩
        · have h := if_t c12 h
          refine ev_bipush (v := -3) dX10_eyes_38 (by decide) ?_
          cases h
          exact ev_iret dX10_eyes_40 rfl rfl ⟨rfl, rfl⟩
    · have h := if_t c6 h
      refine ev_bipush (v := -2) dX10_eyes_14 (by decide) ?_
      cases h
      exact ev_iret dX10_eyes_16 rfl rfl ⟨rfl, rfl⟩
def f_X10_told (n : Nat) (x1 : Int32) (x2 : Int32) (A : Mem) : Option (Int32 × Mem) :=
  (f_X10_isReader n x1 A).bind fun q1 =>
  if q1.1 = 0 then
    some ((-2 : Int32), q1.2)
  else
    (f_X10_in n ((x2).toInt64) ((0 : Int64)) ((5 : Int64)) q1.2).bind fun q4 =>
    if q4.1 = 0 then
      some ((-3 : Int32), q4.2)
    else
      if ¬ ((((6 : Int32)) * x1) + x2) < 0 ∧ ((((6 : Int32)) * x1) + x2).toNatClampNeg < 18 then
        some (q4.2 94 ((((6 : Int32)) * x1) + x2).toNatClampNeg, q4.2)
      else
        none
set_option maxRecDepth 100000 in
set_option maxHeartbeats 4000000 in
theorem c_X10_told (n : Nat) (x1 : Int32) (x2 : Int32) (A : Mem) (q : Int32 × Mem) (h : f_X10_told n x1 x2 A = some q) : Ct yX10_told cX10_told 3 (some .int) 2 [.ref 80, .int x1, .int x2] A (RI q) := by
  unfold f_X10_told at h
  refine ct_of (by decide) (Nat.le_of_ble_eq_true rfl) ?_
  show Ev cX10_told 3 RX10 (some .int) 2 none 0 [(0, .ref 80), (1, .int x1), (2, .int x2)] [] A (RI q)
  refine ev_iload_n 1 dX10_told_0 rfl rfl ?_
  obtain ⟨q1, e2, h⟩ := bd_c h
  refine ev_callSi (av := [.int x1]) dX10_told_1 (c_X10_isReader n x1  A q1 e2) mk_X10_isReader lk_X10_215 is_X10_isReader rfl (by decide) (by decide) (Nat.le_of_ble_eq_true rfl) rfl ?_
  refine ev_if_ne (tgt := 10) dX10_told_4 (by decide) (fun c3 => ?_) (fun c3 => ?_)
  · have h := if_f c3 h
    refine ev_iload_n 2 dX10_told_10 rfl rfl ?_
    refine ev_i2l dX10_told_11 ?_
    refine ev_lconst (v := 0) dX10_told_12 (by decide) ?_
    refine ev_ldc2 dX10_told_13 kc_X10_129 ?_
    obtain ⟨q4, e5, h⟩ := bd_c h
    refine ev_callSi (av := [.long ((x2).toInt64), .long ((0 : Int64)), .long ((5 : Int64))]) dX10_told_16 (c_X10_in n ((x2).toInt64) ((0 : Int64)) ((5 : Int64))  q1.2 q4 e5) mk_X10_in lk_X10_121 is_X10_in rfl (by decide) (by decide) (Nat.le_of_ble_eq_true rfl) rfl ?_
    refine ev_if_eq (tgt := 36) dX10_told_19 (by decide) (fun c6 => ?_) (fun c6 => ?_)
    · have h := if_t c6 h
      refine ev_bipush (v := -3) dX10_told_36 (by decide) ?_
      cases h
      exact ev_iret dX10_told_38 rfl rfl ⟨rfl, rfl⟩
    · have h := if_f c6 h
      refine ev_aload_n 0 dX10_told_22 rfl rfl ?_
      refine ev_getR (r := 94) dX10_told_23 fl_X10_50 (by decide) rfl (by decide) (by decide) rfl ?_
      refine ev_bipush (v := 6) dX10_told_26 (by decide) ?_
      refine ev_iload_n 1 dX10_told_28 rfl rfl ?_
      refine ev_imul dX10_told_29 ?_
      refine ev_iload_n 2 dX10_told_30 rfl rfl ?_
      refine ev_iadd dX10_told_31 ?_
      obtain ⟨c7, h⟩ := if_c h
      refine ev_ialdc 18 dX10_told_32 (by decide) rfl rfl (by decide) c7 ?_
      refine ev_goto (tgt := 38) dX10_told_33 (by decide) ?_
      cases h
      exact ev_iret dX10_told_38 rfl rfl ⟨rfl, rfl⟩
  · have h := if_t c3 h
    refine ev_bipush (v := -2) dX10_told_7 (by decide) ?_
    cases h
    exact ev_iret dX10_told_9 rfl rfl ⟨rfl, rfl⟩
def f_X10_isSent (n : Nat) (x1 : Int32) (A : Mem) : Option (Int32 × Mem) :=
  if x1 < (A 80 25) then
    some ((1 : Int32), A)
  else
    if x1 < ((24 : Int32)) then
      some ((0 : Int32), A)
    else
      if (((A 80 47) >>> ((x1 - ((24 : Int32))) &&& 31)) &&& ((1 : Int32))) = ((1 : Int32)) then
        some ((1 : Int32), A)
      else
        some ((0 : Int32), A)
set_option maxRecDepth 100000 in
set_option maxHeartbeats 4000000 in
theorem c_X10_isSent (n : Nat) (x1 : Int32) (A : Mem) (q : Int32 × Mem) (h : f_X10_isSent n x1 A = some q) : Ct yX10_isSent cX10_isSent 2 (some .boolean) 0 [.ref 80, .int x1] A (RI q) := by
  unfold f_X10_isSent at h
  refine ct_of (by decide) (Nat.le_of_ble_eq_true rfl) ?_
  show Ev cX10_isSent 2 RX10 (some .boolean) 0 none 0 [(0, .ref 80), (1, .int x1)] [] A (RI q)
  refine ev_iload_n 1 dX10_isSent_0 rfl rfl ?_
  refine ev_aload_n 0 dX10_isSent_1 rfl rfl ?_
  refine ev_getI dX10_isSent_2 fl_X10_231 (by decide) rfl (by decide) (by decide) rfl ?_
  refine ev_icmp_lt (tgt := 29) dX10_isSent_5 (by decide) (fun c1 => ?_) (fun c1 => ?_)
  · have h := if_t c1 h
    refine ev_iconst (v := 1) dX10_isSent_29 (by decide) ?_
    refine ev_goto (tgt := 34) dX10_isSent_30 (by decide) ?_
    cases h
    exact ev_iret dX10_isSent_34 rfl rfl ⟨rfl, rfl⟩
  · have h := if_f c1 h
    refine ev_iload_n 1 dX10_isSent_8 rfl rfl ?_
    refine ev_bipush (v := 24) dX10_isSent_9 (by decide) ?_
    refine ev_icmp_lt (tgt := 33) dX10_isSent_11 (by decide) (fun c2 => ?_) (fun c2 => ?_)
    · have h := if_t c2 h
      refine ev_iconst (v := 0) dX10_isSent_33 (by decide) ?_
      cases h
      exact ev_iret dX10_isSent_34 rfl rfl ⟨rfl, rfl⟩
    · have h := if_f c2 h
      refine ev_aload_n 0 dX10_isSent_14 rfl rfl ?_
      refine ev_getI dX10_isSent_15 fl_X10_260 (by decide) rfl (by decide) (by decide) rfl ?_
      refine ev_iload_n 1 dX10_isSent_18 rfl rfl ?_
      refine ev_bipush (v := 24) dX10_isSent_19 (by decide) ?_
      refine ev_isub dX10_isSent_21 ?_
      refine ev_ishr dX10_isSent_22 ?_
      refine ev_iconst (v := 1) dX10_isSent_23 (by decide) ?_
      refine ev_iand dX10_isSent_24 ?_
      refine ev_iconst (v := 1) dX10_isSent_25 (by decide) ?_
      refine ev_icmp_ne (tgt := 33) dX10_isSent_26 (by decide) (fun c3 => ?_) (fun c3 => ?_)
      · have h := if_f c3 h
        refine ev_iconst (v := 0) dX10_isSent_33 (by decide) ?_
        cases h
        exact ev_iret dX10_isSent_34 rfl rfl ⟨rfl, rfl⟩
      · have h := if_t c3 h
        refine ev_iconst (v := 1) dX10_isSent_29 (by decide) ?_
        refine ev_goto (tgt := 34) dX10_isSent_30 (by decide) ?_
        cases h
        exact ev_iret dX10_isSent_34 rfl rfl ⟨rfl, rfl⟩
def g_X10_knows_9 (n : Nat) : Nat → Int32 → Int32 → Int32 → Int32 → Int32 → Int32 → Mem → Option (Int32 × Mem)
  | 0, _, _, _, _, _, _, _ => none
  | m + 1, x1, x2, x3, x4, x5, x6, A =>
    if ¬ x1 < 0 ∧ (x1).toNatClampNeg < 2 then
      if ((((6 : Int32)) * x1) + (A 108 (x1).toNatClampNeg)) ≤ x6 then
        if x5 = 0 ∨ x5 = 1 then
          some (x5, A)
        else
          none
      else
        if x5 = 0 then
          if ¬ x6 < 0 ∧ (x6).toNatClampNeg < 12 then
            if (A 105 (x6).toNatClampNeg) = x2 then
              (f_X10_in n ((x3).toInt64) ((A 106 (x6).toNatClampNeg).toInt64) ((A 107 (x6).toNatClampNeg).toInt64) A).bind fun q7 =>
              if q7.1 = 0 then
                g_X10_knows_9 n  m x1 x2 x3 x4 ((0 : Int32)) (x6 + 1) q7.2
              else
                if x4 < x3 then
                  g_X10_knows_9 n  m x1 x2 x3 x4 ((0 : Int32)) (x6 + 1) q7.2
                else
                  g_X10_knows_9 n  m x1 x2 x3 x4 ((1 : Int32)) (x6 + 1) q7.2
            else
              g_X10_knows_9 n  m x1 x2 x3 x4 ((0 : Int32)) (x6 + 1) A
          else
            none
        else
          g_X10_knows_9 n  m x1 x2 x3 x4 ((1 : Int32)) (x6 + 1) A
    else
      none
set_option maxRecDepth 100000 in
set_option maxHeartbeats 4000000 in
theorem l_X10_knows_9 (n : Nat) : ∀ (m : Nat) (x1 : Int32) (x2 : Int32) (x3 : Int32) (x4 : Int32) (x5 : Int32) (x6 : Int32) (A : Mem) (q : Int32 × Mem), g_X10_knows_9 n  m x1 x2 x3 x4 x5 x6 A = some q → Ev cX10_knows 7 RX10 (some .boolean) 1 none 9 [(0, .ref 80), (1, .int x1), (2, .int x2), (3, .int x3), (4, .int x4), (5, .int x5), (6, .int x6)] [] A (RI q) := by
  intro m
  induction m with
  | zero => intro x1 x2 x3 x4 x5 x6 A q h; exact absurd h (by simp [g_X10_knows_9])
  | succ m ih =>
    intro x1 x2 x3 x4 x5 x6 A q h
    rw [g_X10_knows_9] at h
    refine ev_iload 6 dX10_knows_9 rfl ?_
    refine ev_bipush (v := 6) dX10_knows_11 (by decide) ?_
    refine ev_iload_n 1 dX10_knows_13 rfl rfl ?_
    refine ev_imul dX10_knows_14 ?_
    refine ev_aload_n 0 dX10_knows_15 rfl rfl ?_
    refine ev_getR (r := 108) dX10_knows_16 fl_X10_92 (by decide) rfl (by decide) (by decide) rfl ?_
    refine ev_iload_n 1 dX10_knows_19 rfl rfl ?_
    obtain ⟨c1, h⟩ := if_c h
    refine ev_ialdc 2 dX10_knows_20 (by decide) rfl rfl (by decide) c1 ?_
    refine ev_iadd dX10_knows_21 ?_
    refine ev_icmp_ge (tgt := 84) dX10_knows_22 (by decide) (fun c2 => ?_) (fun c2 => ?_)
    · have h := if_t c2 h
      refine ev_iload 5 dX10_knows_84 rfl ?_
      obtain ⟨c3, h⟩ := if_c h
      cases h
      exact ev_iret dX10_knows_86 rfl (narB c3) ⟨rfl, rfl⟩
    · have h := if_f c2 h
      refine ev_iload 5 dX10_knows_25 rfl ?_
      refine ev_if_ne (tgt := 71) dX10_knows_27 (by decide) (fun c4 => ?_) (fun c4 => ?_)
      · have h := if_f c4 h
        refine ev_iconst (v := 1) dX10_knows_71 (by decide) ?_
        refine ev_goto (tgt := 76) dX10_knows_72 (by decide) ?_
        refine ev_istore (ls' := [(5, .int ((1 : Int32))), (0, .ref 80), (1, .int x1), (2, .int x2), (3, .int x3), (4, .int x4), (6, .int x6)]) dX10_knows_76 (by decide) rfl ?_
        refine ev_iinc (v := x6 + 1) (ls' := [(6, .int (x6 + 1)), (5, .int ((1 : Int32))), (0, .ref 80), (1, .int x1), (2, .int x2), (3, .int x3), (4, .int x4)]) 6 dX10_knows_78 rfl rfl (by decide) rfl ?_
        refine ev_goto (tgt := 9) dX10_knows_81 (by decide) ?_
        refine ev_pick [2, 3, 4, 5, 6, 1, 0] (ls' := [(0, .ref 80), (1, .int x1), (2, .int x2), (3, .int x3), (4, .int x4), (5, .int ((1 : Int32))), (6, .int (x6 + 1))]) rfl ?_
        exact ih x1 x2 x3 x4 ((1 : Int32)) (x6 + 1) _ q h
      · have h := if_t c4 h
        refine ev_aload_n 0 dX10_knows_30 rfl rfl ?_
        refine ev_getR (r := 105) dX10_knows_31 fl_X10_83 (by decide) rfl (by decide) (by decide) rfl ?_
        refine ev_iload 6 dX10_knows_34 rfl ?_
        obtain ⟨c5, h⟩ := if_c h
        refine ev_ialdc 12 dX10_knows_36 (by decide) rfl rfl (by decide) c5 ?_
        refine ev_iload_n 2 dX10_knows_37 rfl rfl ?_
        refine ev_icmp_ne (tgt := 75) dX10_knows_38 (by decide) (fun c6 => ?_) (fun c6 => ?_)
        · have h := if_f c6 h
          refine ev_iconst (v := 0) dX10_knows_75 (by decide) ?_
          refine ev_istore (ls' := [(5, .int ((0 : Int32))), (0, .ref 80), (1, .int x1), (2, .int x2), (3, .int x3), (4, .int x4), (6, .int x6)]) dX10_knows_76 (by decide) rfl ?_
          refine ev_iinc (v := x6 + 1) (ls' := [(6, .int (x6 + 1)), (5, .int ((0 : Int32))), (0, .ref 80), (1, .int x1), (2, .int x2), (3, .int x3), (4, .int x4)]) 6 dX10_knows_78 rfl rfl (by decide) rfl ?_
          refine ev_goto (tgt := 9) dX10_knows_81 (by decide) ?_
          refine ev_pick [2, 3, 4, 5, 6, 1, 0] (ls' := [(0, .ref 80), (1, .int x1), (2, .int x2), (3, .int x3), (4, .int x4), (5, .int ((0 : Int32))), (6, .int (x6 + 1))]) rfl ?_
          exact ih x1 x2 x3 x4 ((0 : Int32)) (x6 + 1) _ q h
        · have h := if_t c6 h
          refine ev_iload_n 3 dX10_knows_41 rfl rfl ?_
          refine ev_i2l dX10_knows_42 ?_
          refine ev_aload_n 0 dX10_knows_43 rfl rfl ?_
          refine ev_getR (r := 106) dX10_knows_44 fl_X10_86 (by decide) rfl (by decide) (by decide) rfl ?_
          refine ev_iload 6 dX10_knows_47 rfl ?_
          refine ev_ialdc 12 dX10_knows_49 (by decide) rfl rfl (by decide) c5 ?_
          refine ev_i2l dX10_knows_50 ?_
          refine ev_aload_n 0 dX10_knows_51 rfl rfl ?_
          refine ev_getR (r := 107) dX10_knows_52 fl_X10_89 (by decide) rfl (by decide) (by decide) rfl ?_
          refine ev_iload 6 dX10_knows_55 rfl ?_
          refine ev_ialdc 12 dX10_knows_57 (by decide) rfl rfl (by decide) c5 ?_
          refine ev_i2l dX10_knows_58 ?_
          obtain ⟨q7, e8, h⟩ := bd_c h
          refine ev_callSi (av := [.long ((x3).toInt64), .long ((A 106 (x6).toNatClampNeg).toInt64), .long ((A 107 (x6).toNatClampNeg).toInt64)]) dX10_knows_59 (c_X10_in n ((x3).toInt64) ((A 106 (x6).toNatClampNeg).toInt64) ((A 107 (x6).toNatClampNeg).toInt64)  A q7 e8) mk_X10_in lk_X10_121 is_X10_in rfl (by decide) (by decide) (Nat.le_of_ble_eq_true rfl) rfl ?_
          refine ev_if_eq (tgt := 75) dX10_knows_62 (by decide) (fun c9 => ?_) (fun c9 => ?_)
          · have h := if_t c9 h
            refine ev_iconst (v := 0) dX10_knows_75 (by decide) ?_
            refine ev_istore (ls' := [(5, .int ((0 : Int32))), (0, .ref 80), (1, .int x1), (2, .int x2), (3, .int x3), (4, .int x4), (6, .int x6)]) dX10_knows_76 (by decide) rfl ?_
            refine ev_iinc (v := x6 + 1) (ls' := [(6, .int (x6 + 1)), (5, .int ((0 : Int32))), (0, .ref 80), (1, .int x1), (2, .int x2), (3, .int x3), (4, .int x4)]) 6 dX10_knows_78 rfl rfl (by decide) rfl ?_
            refine ev_goto (tgt := 9) dX10_knows_81 (by decide) ?_
            refine ev_pick [2, 3, 4, 5, 6, 1, 0] (ls' := [(0, .ref 80), (1, .int x1), (2, .int x2), (3, .int x3), (4, .int x4), (5, .int ((0 : Int32))), (6, .int (x6 + 1))]) rfl ?_
            exact ih x1 x2 x3 x4 ((0 : Int32)) (x6 + 1) _ q h
          · have h := if_f c9 h
            refine ev_iload_n 3 dX10_knows_65 rfl rfl ?_
            refine ev_iload 4 dX10_knows_66 rfl ?_
            refine ev_icmp_gt (tgt := 75) dX10_knows_68 (by decide) (fun c10 => ?_) (fun c10 => ?_)
            · have h := if_t c10 h
              refine ev_iconst (v := 0) dX10_knows_75 (by decide) ?_
              refine ev_istore (ls' := [(5, .int ((0 : Int32))), (0, .ref 80), (1, .int x1), (2, .int x2), (3, .int x3), (4, .int x4), (6, .int x6)]) dX10_knows_76 (by decide) rfl ?_
              refine ev_iinc (v := x6 + 1) (ls' := [(6, .int (x6 + 1)), (5, .int ((0 : Int32))), (0, .ref 80), (1, .int x1), (2, .int x2), (3, .int x3), (4, .int x4)]) 6 dX10_knows_78 rfl rfl (by decide) rfl ?_
              refine ev_goto (tgt := 9) dX10_knows_81 (by decide) ?_
              refine ev_pick [2, 3, 4, 5, 6, 1, 0] (ls' := [(0, .ref 80), (1, .int x1), (2, .int x2), (3, .int x3), (4, .int x4), (5, .int ((0 : Int32))), (6, .int (x6 + 1))]) rfl ?_
              exact ih x1 x2 x3 x4 ((0 : Int32)) (x6 + 1) _ q h
            · have h := if_f c10 h
              refine ev_iconst (v := 1) dX10_knows_71 (by decide) ?_
              refine ev_goto (tgt := 76) dX10_knows_72 (by decide) ?_
              refine ev_istore (ls' := [(5, .int ((1 : Int32))), (0, .ref 80), (1, .int x1), (2, .int x2), (3, .int x3), (4, .int x4), (6, .int x6)]) dX10_knows_76 (by decide) rfl ?_
              refine ev_iinc (v := x6 + 1) (ls' := [(6, .int (x6 + 1)), (5, .int ((1 : Int32))), (0, .ref 80), (1, .int x1), (2, .int x2), (3, .int x3), (4, .int x4)]) 6 dX10_knows_78 rfl rfl (by decide) rfl ?_
              refine ev_goto (tgt := 9) dX10_knows_81 (by decide) ?_
              refine ev_pick [2, 3, 4, 5, 6, 1, 0] (ls' := [(0, .ref 80), (1, .int x1), (2, .int x2), (3, .int x3), (4, .int x4), (5, .int ((1 : Int32))), (6, .int (x6 + 1))]) rfl ?_
              exact ih x1 x2 x3 x4 ((1 : Int32)) (x6 + 1) _ q h
def f_X10_knows (n : Nat) (x1 : Int32) (x2 : Int32) (x3 : Int32) (x4 : Int32) (A : Mem) : Option (Int32 × Mem) :=
  g_X10_knows_9 n  n x1 x2 x3 x4 ((0 : Int32)) (((6 : Int32)) * x1) A
set_option maxRecDepth 100000 in
set_option maxHeartbeats 4000000 in
theorem c_X10_knows (n : Nat) (x1 : Int32) (x2 : Int32) (x3 : Int32) (x4 : Int32) (A : Mem) (q : Int32 × Mem) (h : f_X10_knows n x1 x2 x3 x4 A = some q) : Ct yX10_knows cX10_knows 7 (some .boolean) 1 [.ref 80, .int x1, .int x2, .int x3, .int x4] A (RI q) := by
  unfold f_X10_knows at h
  refine ct_of (by decide) (Nat.le_of_ble_eq_true rfl) ?_
  show Ev cX10_knows 7 RX10 (some .boolean) 1 none 0 [(0, .ref 80), (1, .int x1), (2, .int x2), (3, .int x3), (4, .int x4)] [] A (RI q)
  refine ev_iconst (v := 0) dX10_knows_0 (by decide) ?_
  refine ev_istore (ls' := [(5, .int ((0 : Int32))), (0, .ref 80), (1, .int x1), (2, .int x2), (3, .int x3), (4, .int x4)]) dX10_knows_1 (by decide) rfl ?_
  refine ev_bipush (v := 6) dX10_knows_3 (by decide) ?_
  refine ev_iload_n 2 dX10_knows_5 rfl rfl ?_
  refine ev_imul dX10_knows_6 ?_
  refine ev_istore (ls' := [(6, .int (((6 : Int32)) * x1)), (5, .int ((0 : Int32))), (0, .ref 80), (1, .int x1), (2, .int x2), (3, .int x3), (4, .int x4)]) dX10_knows_7 (by decide) rfl ?_
  refine ev_pick [2, 3, 4, 5, 6, 1, 0] (ls' := [(0, .ref 80), (1, .int x1), (2, .int x2), (3, .int x3), (4, .int x4), (5, .int ((0 : Int32))), (6, .int (((6 : Int32)) * x1))]) rfl ?_
  exact (l_X10_knows_9 n   n) x1 x2 x3 x4 ((0 : Int32)) (((6 : Int32)) * x1) _ q h
def g_X10_trustOf_16 (n : Nat) : Nat → Int32 → Int32 → Int32 → Int32 → Int32 → Mem → Option (Int32 × Mem)
  | 0, _, _, _, _, _, _ => none
  | m + 1, x1, x2, x3, x4, x5, A =>
    if (((24 : Int32)) + (A 80 26)) ≤ x5 then
      if 0 ≤ x4 then
        if x4 ≤ ((100 : Int32)) then
          some (x4, A)
        else
          some ((100 : Int32), A)
      else
        some ((0 : Int32), A)
    else
      (f_X10_isSent n x5 A).bind fun q5 =>
      if q5.1 = 0 then
        g_X10_trustOf_16 n  m x1 x2 x3 x4 (x5 + 1) q5.2
      else
        if ¬ x5 < 0 ∧ (x5).toNatClampNeg < 34 then
          if (q5.2 96 (x5).toNatClampNeg) = x2 then
            (f_X10_comesOn n x5 q5.2).bind fun q10 =>
            if x3 < q10.1 then
              g_X10_trustOf_16 n  m x1 x2 x3 x4 (x5 + 1) q10.2
            else
              (f_X10_knows n x1 (q10.2 99 (x5).toNatClampNeg) (q10.2 101 (x5).toNatClampNeg) x3 q10.2).bind fun q13 =>
              if q13.1 = 0 then
                g_X10_trustOf_16 n  m x1 x2 x3 x4 (x5 + 1) q13.2
              else
                (f_X10_comesOn n x5 q13.2).bind fun q16 =>
                if ¬ ((((6 : Int32)) * x1) + ((1 : Int32))) < 0 ∧ ((((6 : Int32)) * x1) + ((1 : Int32))).toNatClampNeg < 18 then
                  if ¬ ((((6 : Int32)) * x1) + ((3 : Int32))) < 0 ∧ ((((6 : Int32)) * x1) + ((3 : Int32))).toNatClampNeg < 18 then
                    if 0 ≤ (q16.1 - (q16.2 101 (x5).toNatClampNeg)) then
                      (f_X10_isRight n x5 q16.2).bind fun q21 =>
                      if q21.1 = 0 then
                        if ¬ ((((6 : Int32)) * x1) + ((2 : Int32))) < 0 ∧ ((((6 : Int32)) * x1) + ((2 : Int32))).toNatClampNeg < 18 then
                          g_X10_trustOf_16 n  m x1 x2 x3 (x4 + (-(q21.2 94 ((((6 : Int32)) * x1) + ((2 : Int32))).toNatClampNeg))) (x5 + 1) q21.2
                        else
                          none
                      else
                        if 0 ≤ ((q16.2 94 ((((6 : Int32)) * x1) + ((1 : Int32))).toNatClampNeg) - ((q16.2 94 ((((6 : Int32)) * x1) + ((3 : Int32))).toNatClampNeg) * (q16.1 - (q16.2 101 (x5).toNatClampNeg)))) then
                          g_X10_trustOf_16 n  m x1 x2 x3 (x4 + ((q16.2 94 ((((6 : Int32)) * x1) + ((1 : Int32))).toNatClampNeg) - ((q16.2 94 ((((6 : Int32)) * x1) + ((3 : Int32))).toNatClampNeg) * (q16.1 - (q16.2 101 (x5).toNatClampNeg))))) (x5 + 1) q21.2
                        else
                          g_X10_trustOf_16 n  m x1 x2 x3 (x4 + ((0 : Int32))) (x5 + 1) q21.2
                    else
                      (f_X10_isRight n x5 q16.2).bind fun q26 =>
                      if q26.1 = 0 then
                        if ¬ ((((6 : Int32)) * x1) + ((2 : Int32))) < 0 ∧ ((((6 : Int32)) * x1) + ((2 : Int32))).toNatClampNeg < 18 then
                          g_X10_trustOf_16 n  m x1 x2 x3 (x4 + (-(q26.2 94 ((((6 : Int32)) * x1) + ((2 : Int32))).toNatClampNeg))) (x5 + 1) q26.2
                        else
                          none
                      else
                        if 0 ≤ ((q16.2 94 ((((6 : Int32)) * x1) + ((1 : Int32))).toNatClampNeg) - ((q16.2 94 ((((6 : Int32)) * x1) + ((3 : Int32))).toNatClampNeg) * ((0 : Int32)))) then
                          g_X10_trustOf_16 n  m x1 x2 x3 (x4 + ((q16.2 94 ((((6 : Int32)) * x1) + ((1 : Int32))).toNatClampNeg) - ((q16.2 94 ((((6 : Int32)) * x1) + ((3 : Int32))).toNatClampNeg) * ((0 : Int32))))) (x5 + 1) q26.2
                        else
                          g_X10_trustOf_16 n  m x1 x2 x3 (x4 + ((0 : Int32))) (x5 + 1) q26.2
                  else
                    none
                else
                  none
          else
            g_X10_trustOf_16 n  m x1 x2 x3 x4 (x5 + 1) q5.2
        else
          none
set_option maxRecDepth 100000 in
set_option maxHeartbeats 4000000 in
theorem l_X10_trustOf_16 (n : Nat) : ∀ (m : Nat) (x1 : Int32) (x2 : Int32) (x3 : Int32) (x4 : Int32) (x5 : Int32) (A : Mem) (q : Int32 × Mem), g_X10_trustOf_16 n  m x1 x2 x3 x4 x5 A = some q → Ev cX10_trustOf 8 RX10 (some .int) 3 none 16 [(0, .ref 80), (1, .int x1), (2, .int x2), (3, .int x3), (4, .int x4), (5, .int x5)] [] A (RI q) := by
  intro m
  induction m with
  | zero => intro x1 x2 x3 x4 x5 A q h; exact absurd h (by simp [g_X10_trustOf_16])
  | succ m ih =>
    intro x1 x2 x3 x4 x5 A q h
    rw [g_X10_trustOf_16] at h
    refine ev_iload 5 dX10_trustOf_16 rfl ?_
    refine ev_bipush (v := 24) dX10_trustOf_18 (by decide) ?_
    refine ev_aload_n 0 dX10_trustOf_20 rfl rfl ?_
    refine ev_getI dX10_trustOf_21 fl_X10_263 (by decide) rfl (by decide) (by decide) rfl ?_
    refine ev_iadd dX10_trustOf_24 ?_
    refine ev_icmp_ge (tgt := 180) dX10_trustOf_25 (by decide) (fun c2 => ?_) (fun c2 => ?_)
    · have h := if_t c2 h
      refine ev_iload 4 dX10_trustOf_180 rfl ?_
      refine ev_if_ge (tgt := 189) dX10_trustOf_182 (by decide) (fun c3 => ?_) (fun c3 => ?_)
      · have h := if_t c3 h
        refine ev_iload 4 dX10_trustOf_189 rfl ?_
        refine ev_bipush (v := 100) dX10_trustOf_191 (by decide) ?_
        refine ev_icmp_le (tgt := 201) dX10_trustOf_193 (by decide) (fun c4 => ?_) (fun c4 => ?_)
        · have h := if_t c4 h
          refine ev_iload 4 dX10_trustOf_201 rfl ?_
          cases h
          exact ev_iret dX10_trustOf_203 rfl rfl ⟨rfl, rfl⟩
        · have h := if_f c4 h
          refine ev_bipush (v := 100) dX10_trustOf_196 (by decide) ?_
          refine ev_goto (tgt := 203) dX10_trustOf_198 (by decide) ?_
          cases h
          exact ev_iret dX10_trustOf_203 rfl rfl ⟨rfl, rfl⟩
      · have h := if_f c3 h
        refine ev_iconst (v := 0) dX10_trustOf_185 (by decide) ?_
        refine ev_goto (tgt := 203) dX10_trustOf_186 (by decide) ?_
        cases h
        exact ev_iret dX10_trustOf_203 rfl rfl ⟨rfl, rfl⟩
    · have h := if_f c2 h
      refine ev_aload_n 0 dX10_trustOf_28 rfl rfl ?_
      refine ev_iload 5 dX10_trustOf_29 rfl ?_
      obtain ⟨q5, e6, h⟩ := bd_c h
      refine ev_callVi (av := [.int x5]) dX10_trustOf_31 (c_X10_isSent n x5  A q5 e6) mk_X10_isSent lk_X10_266 iv_X10_isSent (Or.inl ⟨10, _, by decide, rfl, by decide, rfl, rfl⟩) rfl (by decide) (by decide) (Nat.le_of_ble_eq_true rfl) rfl ?_
      refine ev_if_eq (tgt := 174) dX10_trustOf_34 (by decide) (fun c7 => ?_) (fun c7 => ?_)
      · have h := if_t c7 h
        refine ev_iinc (v := x5 + 1) (ls' := [(5, .int (x5 + 1)), (0, .ref 80), (1, .int x1), (2, .int x2), (3, .int x3), (4, .int x4)]) 5 dX10_trustOf_174 rfl rfl (by decide) rfl ?_
        refine ev_goto (tgt := 16) dX10_trustOf_177 (by decide) ?_
        refine ev_pick [1, 2, 3, 4, 5, 0] (ls' := [(0, .ref 80), (1, .int x1), (2, .int x2), (3, .int x3), (4, .int x4), (5, .int (x5 + 1))]) rfl ?_
        exact ih x1 x2 x3 x4 (x5 + 1) _ q h
      · have h := if_f c7 h
        refine ev_aload_n 0 dX10_trustOf_37 rfl rfl ?_
        refine ev_getR (r := 96) dX10_trustOf_38 fl_X10_56 (by decide) rfl (by decide) (by decide) rfl ?_
        refine ev_iload 5 dX10_trustOf_41 rfl ?_
        obtain ⟨c8, h⟩ := if_c h
        refine ev_ialdc 34 dX10_trustOf_43 (by decide) rfl rfl (by decide) c8 ?_
        refine ev_iload_n 2 dX10_trustOf_44 rfl rfl ?_
        refine ev_icmp_ne (tgt := 174) dX10_trustOf_45 (by decide) (fun c9 => ?_) (fun c9 => ?_)
        · have h := if_f c9 h
          refine ev_iinc (v := x5 + 1) (ls' := [(5, .int (x5 + 1)), (0, .ref 80), (1, .int x1), (2, .int x2), (3, .int x3), (4, .int x4)]) 5 dX10_trustOf_174 rfl rfl (by decide) rfl ?_
          refine ev_goto (tgt := 16) dX10_trustOf_177 (by decide) ?_
          refine ev_pick [1, 2, 3, 4, 5, 0] (ls' := [(0, .ref 80), (1, .int x1), (2, .int x2), (3, .int x3), (4, .int x4), (5, .int (x5 + 1))]) rfl ?_
          exact ih x1 x2 x3 x4 (x5 + 1) _ q h
        · have h := if_t c9 h
          refine ev_aload_n 0 dX10_trustOf_48 rfl rfl ?_
          refine ev_iload 5 dX10_trustOf_49 rfl ?_
          obtain ⟨q10, e11, h⟩ := bd_c h
          refine ev_callVi (av := [.int x5]) dX10_trustOf_51 (c_X10_comesOn n x5  q5.2 q10 e11) mk_X10_comesOn lk_X10_244 iv_X10_comesOn (Or.inl ⟨10, _, by decide, rfl, by decide, rfl, rfl⟩) rfl (by decide) (by decide) (Nat.le_of_ble_eq_true rfl) rfl ?_
          refine ev_iload_n 3 dX10_trustOf_54 rfl rfl ?_
          refine ev_icmp_gt (tgt := 174) dX10_trustOf_55 (by decide) (fun c12 => ?_) (fun c12 => ?_)
          · have h := if_t c12 h
            refine ev_iinc (v := x5 + 1) (ls' := [(5, .int (x5 + 1)), (0, .ref 80), (1, .int x1), (2, .int x2), (3, .int x3), (4, .int x4)]) 5 dX10_trustOf_174 rfl rfl (by decide) rfl ?_
            refine ev_goto (tgt := 16) dX10_trustOf_177 (by decide) ?_
            refine ev_pick [1, 2, 3, 4, 5, 0] (ls' := [(0, .ref 80), (1, .int x1), (2, .int x2), (3, .int x3), (4, .int x4), (5, .int (x5 + 1))]) rfl ?_
            exact ih x1 x2 x3 x4 (x5 + 1) _ q h
          · have h := if_f c12 h
            refine ev_aload_n 0 dX10_trustOf_58 rfl rfl ?_
            refine ev_iload_n 1 dX10_trustOf_59 rfl rfl ?_
            refine ev_aload_n 0 dX10_trustOf_60 rfl rfl ?_
            refine ev_getR (r := 99) dX10_trustOf_61 fl_X10_65 (by decide) rfl (by decide) (by decide) rfl ?_
            refine ev_iload 5 dX10_trustOf_64 rfl ?_
            refine ev_ialdc 34 dX10_trustOf_66 (by decide) rfl rfl (by decide) c8 ?_
            refine ev_aload_n 0 dX10_trustOf_67 rfl rfl ?_
            refine ev_getR (r := 101) dX10_trustOf_68 fl_X10_71 (by decide) rfl (by decide) (by decide) rfl ?_
            refine ev_iload 5 dX10_trustOf_71 rfl ?_
            refine ev_ialdc 34 dX10_trustOf_73 (by decide) rfl rfl (by decide) c8 ?_
            refine ev_iload_n 3 dX10_trustOf_74 rfl rfl ?_
            obtain ⟨q13, e14, h⟩ := bd_c h
            refine ev_callVi (av := [.int x1, .int (q10.2 99 (x5).toNatClampNeg), .int (q10.2 101 (x5).toNatClampNeg), .int x3]) dX10_trustOf_75 (c_X10_knows n x1 (q10.2 99 (x5).toNatClampNeg) (q10.2 101 (x5).toNatClampNeg) x3  q10.2 q13 e14) mk_X10_knows lk_X10_269 iv_X10_knows (Or.inl ⟨10, _, by decide, rfl, by decide, rfl, rfl⟩) rfl (by decide) (by decide) (Nat.le_of_ble_eq_true rfl) rfl ?_
            refine ev_if_eq (tgt := 174) dX10_trustOf_78 (by decide) (fun c15 => ?_) (fun c15 => ?_)
            · have h := if_t c15 h
              refine ev_iinc (v := x5 + 1) (ls' := [(5, .int (x5 + 1)), (0, .ref 80), (1, .int x1), (2, .int x2), (3, .int x3), (4, .int x4)]) 5 dX10_trustOf_174 rfl rfl (by decide) rfl ?_
              refine ev_goto (tgt := 16) dX10_trustOf_177 (by decide) ?_
              refine ev_pick [1, 2, 3, 4, 5, 0] (ls' := [(0, .ref 80), (1, .int x1), (2, .int x2), (3, .int x3), (4, .int x4), (5, .int (x5 + 1))]) rfl ?_
              exact ih x1 x2 x3 x4 (x5 + 1) _ q h
            · have h := if_f c15 h
              refine ev_aload_n 0 dX10_trustOf_81 rfl rfl ?_
              refine ev_iload 5 dX10_trustOf_82 rfl ?_
              obtain ⟨q16, e17, h⟩ := bd_c h
              refine ev_callVi (av := [.int x5]) dX10_trustOf_84 (c_X10_comesOn n x5  q13.2 q16 e17) mk_X10_comesOn lk_X10_244 iv_X10_comesOn (Or.inl ⟨10, _, by decide, rfl, by decide, rfl, rfl⟩) rfl (by decide) (by decide) (Nat.le_of_ble_eq_true rfl) rfl ?_
              refine ev_aload_n 0 dX10_trustOf_87 rfl rfl ?_
              refine ev_getR (r := 101) dX10_trustOf_88 fl_X10_71 (by decide) rfl (by decide) (by decide) rfl ?_
              refine ev_iload 5 dX10_trustOf_91 rfl ?_
              refine ev_ialdc 34 dX10_trustOf_93 (by decide) rfl rfl (by decide) c8 ?_
              refine ev_isub dX10_trustOf_94 ?_
              refine ev_istore (ls' := [(6, .int (q16.1 - (q16.2 101 (x5).toNatClampNeg))), (0, .ref 80), (1, .int x1), (2, .int x2), (3, .int x3), (4, .int x4), (5, .int x5)]) dX10_trustOf_95 (by decide) rfl ?_
              refine ev_aload_n 1 dX10_trustOf_97 rfl rfl ?_
              refine ev_getR (r := 94) dX10_trustOf_98 fl_X10_50 (by decide) rfl (by decide) (by decide) rfl ?_
              refine ev_bipush (v := 6) dX10_trustOf_101 (by decide) ?_
              refine ev_iload_n 2 dX10_trustOf_103 rfl rfl ?_
              refine ev_imul dX10_trustOf_104 ?_
              refine ev_iconst (v := 1) dX10_trustOf_105 (by decide) ?_
              refine ev_iadd dX10_trustOf_106 ?_
              obtain ⟨c18, h⟩ := if_c h
              refine ev_ialdc 18 dX10_trustOf_107 (by decide) rfl rfl (by decide) c18 ?_
              refine ev_aload_n 1 dX10_trustOf_108 rfl rfl ?_
              refine ev_getR (r := 94) dX10_trustOf_109 fl_X10_50 (by decide) rfl (by decide) (by decide) rfl ?_
              refine ev_bipush (v := 6) dX10_trustOf_112 (by decide) ?_
              refine ev_iload_n 2 dX10_trustOf_114 rfl rfl ?_
              refine ev_imul dX10_trustOf_115 ?_
              refine ev_iconst (v := 3) dX10_trustOf_116 (by decide) ?_
              refine ev_iadd dX10_trustOf_117 ?_
              obtain ⟨c19, h⟩ := if_c h
              refine ev_ialdc 18 dX10_trustOf_118 (by decide) rfl rfl (by decide) c19 ?_
              refine ev_iload 0 dX10_trustOf_119 rfl ?_
              refine ev_if_ge (tgt := 128) dX10_trustOf_121 (by decide) (fun c20 => ?_) (fun c20 => ?_)
              · have h := if_t c20 h
                refine ev_iload 0 dX10_trustOf_128 rfl ?_
                refine ev_imul dX10_trustOf_130 ?_
                refine ev_isub dX10_trustOf_131 ?_
                refine ev_istore (ls' := [(7, .int ((q16.2 94 ((((6 : Int32)) * x1) + ((1 : Int32))).toNatClampNeg) - ((q16.2 94 ((((6 : Int32)) * x1) + ((3 : Int32))).toNatClampNeg) * (q16.1 - (q16.2 101 (x5).toNatClampNeg))))), (6, .int (q16.1 - (q16.2 101 (x5).toNatClampNeg))), (0, .ref 80), (1, .int x1), (2, .int x2), (3, .int x3), (4, .int x4), (5, .int x5)]) dX10_trustOf_132 (by decide) rfl ?_
                refine ev_iload 6 dX10_trustOf_134 rfl ?_
                refine ev_aload_n 2 dX10_trustOf_136 rfl rfl ?_
                refine ev_iload 7 dX10_trustOf_137 rfl ?_
                obtain ⟨q21, e22, h⟩ := bd_c h
                refine ev_callVi (av := [.int x5]) dX10_trustOf_139 (c_X10_isRight n x5  q16.2 q21 e22) mk_X10_isRight lk_X10_241 iv_X10_isRight (Or.inl ⟨10, _, by decide, rfl, by decide, rfl, rfl⟩) rfl (by decide) (by decide) (Nat.le_of_ble_eq_true rfl) rfl ?_
                refine ev_if_ne (tgt := 160) dX10_trustOf_142 (by decide) (fun c23 => ?_) (fun c23 => ?_)
                · have h := if_f c23 h
                  refine ev_iload 0 dX10_trustOf_160 rfl ?_
                  refine ev_if_ge (tgt := 169) dX10_trustOf_162 (by decide) (fun c24 => ?_) (fun c24 => ?_)
                  · have h := if_t c24 h
                    refine ev_iload 0 dX10_trustOf_169 rfl ?_
                    refine ev_iadd dX10_trustOf_171 ?_
                    refine ev_istore (ls' := [(4, .int (x4 + ((q16.2 94 ((((6 : Int32)) * x1) + ((1 : Int32))).toNatClampNeg) - ((q16.2 94 ((((6 : Int32)) * x1) + ((3 : Int32))).toNatClampNeg) * (q16.1 - (q16.2 101 (x5).toNatClampNeg)))))), (7, .int ((q16.2 94 ((((6 : Int32)) * x1) + ((1 : Int32))).toNatClampNeg) - ((q16.2 94 ((((6 : Int32)) * x1) + ((3 : Int32))).toNatClampNeg) * (q16.1 - (q16.2 101 (x5).toNatClampNeg))))), (6, .int (q16.1 - (q16.2 101 (x5).toNatClampNeg))), (0, .ref 80), (1, .int x1), (2, .int x2), (3, .int x3), (5, .int x5)]) dX10_trustOf_172 (by decide) rfl ?_
                    refine ev_iinc (v := x5 + 1) (ls' := [(5, .int (x5 + 1)), (4, .int (x4 + ((q16.2 94 ((((6 : Int32)) * x1) + ((1 : Int32))).toNatClampNeg) - ((q16.2 94 ((((6 : Int32)) * x1) + ((3 : Int32))).toNatClampNeg) * (q16.1 - (q16.2 101 (x5).toNatClampNeg)))))), (7, .int ((q16.2 94 ((((6 : Int32)) * x1) + ((1 : Int32))).toNatClampNeg) - ((q16.2 94 ((((6 : Int32)) * x1) + ((3 : Int32))).toNatClampNeg) * (q16.1 - (q16.2 101 (x5).toNatClampNeg))))), (6, .int (q16.1 - (q16.2 101 (x5).toNatClampNeg))), (0, .ref 80), (1, .int x1), (2, .int x2), (3, .int x3)]) 7 dX10_trustOf_174 rfl rfl (by decide) rfl ?_
                    refine ev_goto (tgt := 16) dX10_trustOf_177 (by decide) ?_
                    refine ev_pick [4, 5, 6, 7, 1, 0] (ls' := [(0, .ref 80), (1, .int x1), (2, .int x2), (3, .int x3), (4, .int (x4 + ((q16.2 94 ((((6 : Int32)) * x1) + ((1 : Int32))).toNatClampNeg) - ((q16.2 94 ((((6 : Int32)) * x1) + ((3 : Int32))).toNatClampNeg) * (q16.1 - (q16.2 101 (x5).toNatClampNeg)))))), (5, .int (x5 + 1))]) rfl ?_
                    exact ih x1 x2 x3 (x4 + ((q16.2 94 ((((6 : Int32)) * x1) + ((1 : Int32))).toNatClampNeg) - ((q16.2 94 ((((6 : Int32)) * x1) + ((3 : Int32))).toNatClampNeg) * (q16.1 - (q16.2 101 (x5).toNatClampNeg))))) (x5 + 1) _ q h
                  · have h := if_f c24 h
                    refine ev_iconst (v := 0) dX10_trustOf_165 (by decide) ?_
                    refine ev_goto (tgt := 171) dX10_trustOf_166 (by decide) ?_
                    refine ev_iadd dX10_trustOf_171 ?_
                    refine ev_istore (ls' := [(4, .int (x4 + ((0 : Int32)))), (7, .int ((q16.2 94 ((((6 : Int32)) * x1) + ((1 : Int32))).toNatClampNeg) - ((q16.2 94 ((((6 : Int32)) * x1) + ((3 : Int32))).toNatClampNeg) * (q16.1 - (q16.2 101 (x5).toNatClampNeg))))), (6, .int (q16.1 - (q16.2 101 (x5).toNatClampNeg))), (0, .ref 80), (1, .int x1), (2, .int x2), (3, .int x3), (5, .int x5)]) dX10_trustOf_172 (by decide) rfl ?_
                    refine ev_iinc (v := x5 + 1) (ls' := [(5, .int (x5 + 1)), (4, .int (x4 + ((0 : Int32)))), (7, .int ((q16.2 94 ((((6 : Int32)) * x1) + ((1 : Int32))).toNatClampNeg) - ((q16.2 94 ((((6 : Int32)) * x1) + ((3 : Int32))).toNatClampNeg) * (q16.1 - (q16.2 101 (x5).toNatClampNeg))))), (6, .int (q16.1 - (q16.2 101 (x5).toNatClampNeg))), (0, .ref 80), (1, .int x1), (2, .int x2), (3, .int x3)]) 7 dX10_trustOf_174 rfl rfl (by decide) rfl ?_
                    refine ev_goto (tgt := 16) dX10_trustOf_177 (by decide) ?_
                    refine ev_pick [4, 5, 6, 7, 1, 0] (ls' := [(0, .ref 80), (1, .int x1), (2, .int x2), (3, .int x3), (4, .int (x4 + ((0 : Int32)))), (5, .int (x5 + 1))]) rfl ?_
                    exact ih x1 x2 x3 (x4 + ((0 : Int32))) (x5 + 1) _ q h
                · have h := if_t c23 h
                  refine ev_aload_n 2 dX10_trustOf_145 rfl rfl ?_
                  refine ev_getR (r := 94) dX10_trustOf_146 fl_X10_50 (by decide) rfl (by decide) (by decide) rfl ?_
                  refine ev_bipush (v := 6) dX10_trustOf_149 (by decide) ?_
                  refine ev_iload_n 3 dX10_trustOf_151 rfl rfl ?_
                  refine ev_imul dX10_trustOf_152 ?_
                  refine ev_iconst (v := 2) dX10_trustOf_153 (by decide) ?_
                  refine ev_iadd dX10_trustOf_154 ?_
                  obtain ⟨c25, h⟩ := if_c h
                  refine ev_ialdc 18 dX10_trustOf_155 (by decide) rfl rfl (by decide) c25 ?_
                  refine ev_ineg dX10_trustOf_156 ?_
                  refine ev_goto (tgt := 171) dX10_trustOf_157 (by decide) ?_
                  refine ev_iadd dX10_trustOf_171 ?_
                  refine ev_istore (ls' := [(4, .int (x4 + (-(q21.2 94 ((((6 : Int32)) * x1) + ((2 : Int32))).toNatClampNeg)))), (7, .int ((q16.2 94 ((((6 : Int32)) * x1) + ((1 : Int32))).toNatClampNeg) - ((q16.2 94 ((((6 : Int32)) * x1) + ((3 : Int32))).toNatClampNeg) * (q16.1 - (q16.2 101 (x5).toNatClampNeg))))), (6, .int (q16.1 - (q16.2 101 (x5).toNatClampNeg))), (0, .ref 80), (1, .int x1), (2, .int x2), (3, .int x3), (5, .int x5)]) dX10_trustOf_172 (by decide) rfl ?_
                  refine ev_iinc (v := x5 + 1) (ls' := [(5, .int (x5 + 1)), (4, .int (x4 + (-(q21.2 94 ((((6 : Int32)) * x1) + ((2 : Int32))).toNatClampNeg)))), (7, .int ((q16.2 94 ((((6 : Int32)) * x1) + ((1 : Int32))).toNatClampNeg) - ((q16.2 94 ((((6 : Int32)) * x1) + ((3 : Int32))).toNatClampNeg) * (q16.1 - (q16.2 101 (x5).toNatClampNeg))))), (6, .int (q16.1 - (q16.2 101 (x5).toNatClampNeg))), (0, .ref 80), (1, .int x1), (2, .int x2), (3, .int x3)]) 7 dX10_trustOf_174 rfl rfl (by decide) rfl ?_
                  refine ev_goto (tgt := 16) dX10_trustOf_177 (by decide) ?_
                  refine ev_pick [4, 5, 6, 7, 1, 0] (ls' := [(0, .ref 80), (1, .int x1), (2, .int x2), (3, .int x3), (4, .int (x4 + (-(q21.2 94 ((((6 : Int32)) * x1) + ((2 : Int32))).toNatClampNeg)))), (5, .int (x5 + 1))]) rfl ?_
                  exact ih x1 x2 x3 (x4 + (-(q21.2 94 ((((6 : Int32)) * x1) + ((2 : Int32))).toNatClampNeg))) (x5 + 1) _ q h
              · have h := if_f c20 h
                refine ev_iconst (v := 0) dX10_trustOf_124 (by decide) ?_
                refine ev_goto (tgt := 130) dX10_trustOf_125 (by decide) ?_
                refine ev_imul dX10_trustOf_130 ?_
                refine ev_isub dX10_trustOf_131 ?_
                refine ev_istore (ls' := [(7, .int ((q16.2 94 ((((6 : Int32)) * x1) + ((1 : Int32))).toNatClampNeg) - ((q16.2 94 ((((6 : Int32)) * x1) + ((3 : Int32))).toNatClampNeg) * ((0 : Int32))))), (6, .int (q16.1 - (q16.2 101 (x5).toNatClampNeg))), (0, .ref 80), (1, .int x1), (2, .int x2), (3, .int x3), (4, .int x4), (5, .int x5)]) dX10_trustOf_132 (by decide) rfl ?_
                refine ev_iload 6 dX10_trustOf_134 rfl ?_
                refine ev_aload_n 2 dX10_trustOf_136 rfl rfl ?_
                refine ev_iload 7 dX10_trustOf_137 rfl ?_
                obtain ⟨q26, e27, h⟩ := bd_c h
                refine ev_callVi (av := [.int x5]) dX10_trustOf_139 (c_X10_isRight n x5  q16.2 q26 e27) mk_X10_isRight lk_X10_241 iv_X10_isRight (Or.inl ⟨10, _, by decide, rfl, by decide, rfl, rfl⟩) rfl (by decide) (by decide) (Nat.le_of_ble_eq_true rfl) rfl ?_
                refine ev_if_ne (tgt := 160) dX10_trustOf_142 (by decide) (fun c28 => ?_) (fun c28 => ?_)
                · have h := if_f c28 h
                  refine ev_iload 0 dX10_trustOf_160 rfl ?_
                  refine ev_if_ge (tgt := 169) dX10_trustOf_162 (by decide) (fun c29 => ?_) (fun c29 => ?_)
                  · have h := if_t c29 h
                    refine ev_iload 0 dX10_trustOf_169 rfl ?_
                    refine ev_iadd dX10_trustOf_171 ?_
                    refine ev_istore (ls' := [(4, .int (x4 + ((q16.2 94 ((((6 : Int32)) * x1) + ((1 : Int32))).toNatClampNeg) - ((q16.2 94 ((((6 : Int32)) * x1) + ((3 : Int32))).toNatClampNeg) * ((0 : Int32)))))), (7, .int ((q16.2 94 ((((6 : Int32)) * x1) + ((1 : Int32))).toNatClampNeg) - ((q16.2 94 ((((6 : Int32)) * x1) + ((3 : Int32))).toNatClampNeg) * ((0 : Int32))))), (6, .int (q16.1 - (q16.2 101 (x5).toNatClampNeg))), (0, .ref 80), (1, .int x1), (2, .int x2), (3, .int x3), (5, .int x5)]) dX10_trustOf_172 (by decide) rfl ?_
                    refine ev_iinc (v := x5 + 1) (ls' := [(5, .int (x5 + 1)), (4, .int (x4 + ((q16.2 94 ((((6 : Int32)) * x1) + ((1 : Int32))).toNatClampNeg) - ((q16.2 94 ((((6 : Int32)) * x1) + ((3 : Int32))).toNatClampNeg) * ((0 : Int32)))))), (7, .int ((q16.2 94 ((((6 : Int32)) * x1) + ((1 : Int32))).toNatClampNeg) - ((q16.2 94 ((((6 : Int32)) * x1) + ((3 : Int32))).toNatClampNeg) * ((0 : Int32))))), (6, .int (q16.1 - (q16.2 101 (x5).toNatClampNeg))), (0, .ref 80), (1, .int x1), (2, .int x2), (3, .int x3)]) 7 dX10_trustOf_174 rfl rfl (by decide) rfl ?_
                    refine ev_goto (tgt := 16) dX10_trustOf_177 (by decide) ?_
                    refine ev_pick [4, 5, 6, 7, 1, 0] (ls' := [(0, .ref 80), (1, .int x1), (2, .int x2), (3, .int x3), (4, .int (x4 + ((q16.2 94 ((((6 : Int32)) * x1) + ((1 : Int32))).toNatClampNeg) - ((q16.2 94 ((((6 : Int32)) * x1) + ((3 : Int32))).toNatClampNeg) * ((0 : Int32)))))), (5, .int (x5 + 1))]) rfl ?_
                    exact ih x1 x2 x3 (x4 + ((q16.2 94 ((((6 : Int32)) * x1) + ((1 : Int32))).toNatClampNeg) - ((q16.2 94 ((((6 : Int32)) * x1) + ((3 : Int32))).toNatClampNeg) * ((0 : Int32))))) (x5 + 1) _ q h
                  · have h := if_f c29 h
                    refine ev_iconst (v := 0) dX10_trustOf_165 (by decide) ?_
                    refine ev_goto (tgt := 171) dX10_trustOf_166 (by decide) ?_
                    refine ev_iadd dX10_trustOf_171 ?_
                    refine ev_istore (ls' := [(4, .int (x4 + ((0 : Int32)))), (7, .int ((q16.2 94 ((((6 : Int32)) * x1) + ((1 : Int32))).toNatClampNeg) - ((q16.2 94 ((((6 : Int32)) * x1) + ((3 : Int32))).toNatClampNeg) * ((0 : Int32))))), (6, .int (q16.1 - (q16.2 101 (x5).toNatClampNeg))), (0, .ref 80), (1, .int x1), (2, .int x2), (3, .int x3), (5, .int x5)]) dX10_trustOf_172 (by decide) rfl ?_
                    refine ev_iinc (v := x5 + 1) (ls' := [(5, .int (x5 + 1)), (4, .int (x4 + ((0 : Int32)))), (7, .int ((q16.2 94 ((((6 : Int32)) * x1) + ((1 : Int32))).toNatClampNeg) - ((q16.2 94 ((((6 : Int32)) * x1) + ((3 : Int32))).toNatClampNeg) * ((0 : Int32))))), (6, .int (q16.1 - (q16.2 101 (x5).toNatClampNeg))), (0, .ref 80), (1, .int x1), (2, .int x2), (3, .int x3)]) 7 dX10_trustOf_174 rfl rfl (by decide) rfl ?_
                    refine ev_goto (tgt := 16) dX10_trustOf_177 (by decide) ?_
                    refine ev_pick [4, 5, 6, 7, 1, 0] (ls' := [(0, .ref 80), (1, .int x1), (2, .int x2), (3, .int x3), (4, .int (x4 + ((0 : Int32)))), (5, .int (x5 + 1))]) rfl ?_
                    exact ih x1 x2 x3 (x4 + ((0 : Int32))) (x5 + 1) _ q h
                · have h := if_t c28 h
                  refine ev_aload_n 2 dX10_trustOf_145 rfl rfl ?_
                  refine ev_getR (r := 94) dX10_trustOf_146 fl_X10_50 (by decide) rfl (by decide) (by decide) rfl ?_
                  refine ev_bipush (v := 6) dX10_trustOf_149 (by decide) ?_
                  refine ev_iload_n 3 dX10_trustOf_151 rfl rfl ?_
                  refine ev_imul dX10_trustOf_152 ?_
                  refine ev_iconst (v := 2) dX10_trustOf_153 (by decide) ?_
                  refine ev_iadd dX10_trustOf_154 ?_
                  obtain ⟨c30, h⟩ := if_c h
                  refine ev_ialdc 18 dX10_trustOf_155 (by decide) rfl rfl (by decide) c30 ?_
                  refine ev_ineg dX10_trustOf_156 ?_
                  refine ev_goto (tgt := 171) dX10_trustOf_157 (by decide) ?_
                  refine ev_iadd dX10_trustOf_171 ?_
                  refine ev_istore (ls' := [(4, .int (x4 + (-(q26.2 94 ((((6 : Int32)) * x1) + ((2 : Int32))).toNatClampNeg)))), (7, .int ((q16.2 94 ((((6 : Int32)) * x1) + ((1 : Int32))).toNatClampNeg) - ((q16.2 94 ((((6 : Int32)) * x1) + ((3 : Int32))).toNatClampNeg) * ((0 : Int32))))), (6, .int (q16.1 - (q16.2 101 (x5).toNatClampNeg))), (0, .ref 80), (1, .int x1), (2, .int x2), (3, .int x3), (5, .int x5)]) dX10_trustOf_172 (by decide) rfl ?_
                  refine ev_iinc (v := x5 + 1) (ls' := [(5, .int (x5 + 1)), (4, .int (x4 + (-(q26.2 94 ((((6 : Int32)) * x1) + ((2 : Int32))).toNatClampNeg)))), (7, .int ((q16.2 94 ((((6 : Int32)) * x1) + ((1 : Int32))).toNatClampNeg) - ((q16.2 94 ((((6 : Int32)) * x1) + ((3 : Int32))).toNatClampNeg) * ((0 : Int32))))), (6, .int (q16.1 - (q16.2 101 (x5).toNatClampNeg))), (0, .ref 80), (1, .int x1), (2, .int x2), (3, .int x3)]) 7 dX10_trustOf_174 rfl rfl (by decide) rfl ?_
                  refine ev_goto (tgt := 16) dX10_trustOf_177 (by decide) ?_
                  refine ev_pick [4, 5, 6, 7, 1, 0] (ls' := [(0, .ref 80), (1, .int x1), (2, .int x2), (3, .int x3), (4, .int (x4 + (-(q26.2 94 ((((6 : Int32)) * x1) + ((2 : Int32))).toNatClampNeg)))), (5, .int (x5 + 1))]) rfl ?_
                  exact ih x1 x2 x3 (x4 + (-(q26.2 94 ((((6 : Int32)) * x1) + ((2 : Int32))).toNatClampNeg))) (x5 + 1) _ q h
def f_X10_trustOf (n : Nat) (x1 : Int32) (x2 : Int32) (x3 : Int32) (A : Mem) : Option (Int32 × Mem) :=
  if ¬ ((((6 : Int32)) * x1) + ((0 : Int32))) < 0 ∧ ((((6 : Int32)) * x1) + ((0 : Int32))).toNatClampNeg < 18 then
    g_X10_trustOf_16 n  n x1 x2 x3 (A 94 ((((6 : Int32)) * x1) + ((0 : Int32))).toNatClampNeg) ((0 : Int32)) A
  else
    none
set_option maxRecDepth 100000 in
set_option maxHeartbeats 4000000 in
theorem c_X10_trustOf (n : Nat) (x1 : Int32) (x2 : Int32) (x3 : Int32) (A : Mem) (q : Int32 × Mem) (h : f_X10_trustOf n x1 x2 x3 A = some q) : Ct yX10_trustOf cX10_trustOf 8 (some .int) 3 [.ref 80, .int x1, .int x2, .int x3] A (RI q) := by
  unfold f_X10_trustOf at h
  refine ct_of (by decide) (Nat.le_of_ble_eq_true rfl) ?_
  show Ev cX10_trustOf 8 RX10 (some .int) 3 none 0 [(0, .ref 80), (1, .int x1), (2, .int x2), (3, .int x3)] [] A (RI q)
  refine ev_aload_n 0 dX10_trustOf_0 rfl rfl ?_
  refine ev_getR (r := 94) dX10_trustOf_1 fl_X10_50 (by decide) rfl (by decide) (by decide) rfl ?_
  refine ev_bipush (v := 6) dX10_trustOf_4 (by decide) ?_
  refine ev_iload_n 1 dX10_trustOf_6 rfl rfl ?_
  refine ev_imul dX10_trustOf_7 ?_
  refine ev_iconst (v := 0) dX10_trustOf_8 (by decide) ?_
  refine ev_iadd dX10_trustOf_9 ?_
  obtain ⟨c1, h⟩ := if_c h
  refine ev_ialdc 18 dX10_trustOf_10 (by decide) rfl rfl (by decide) c1 ?_
  refine ev_istore (ls' := [(4, .int (A 94 ((((6 : Int32)) * x1) + ((0 : Int32))).toNatClampNeg)), (0, .ref 80), (1, .int x1), (2, .int x2), (3, .int x3)]) dX10_trustOf_11 (by decide) rfl ?_
  refine ev_iconst (v := 0) dX10_trustOf_13 (by decide) ?_
  refine ev_istore (ls' := [(5, .int ((0 : Int32))), (4, .int (A 94 ((((6 : Int32)) * x1) + ((0 : Int32))).toNatClampNeg)), (0, .ref 80), (1, .int x1), (2, .int x2), (3, .int x3)]) dX10_trustOf_14 (by decide) rfl ?_
  refine ev_pick [2, 3, 4, 5, 1, 0] (ls' := [(0, .ref 80), (1, .int x1), (2, .int x2), (3, .int x3), (4, .int (A 94 ((((6 : Int32)) * x1) + ((0 : Int32))).toNatClampNeg)), (5, .int ((0 : Int32)))]) rfl ?_
  exact (l_X10_trustOf_16 n   n) x1 x2 x3 (A 94 ((((6 : Int32)) * x1) + ((0 : Int32))).toNatClampNeg) ((0 : Int32)) _ q h
def f_X10_trust (n : Nat) (x1 : Int32) (x2 : Int32) (x3 : Int32) (A : Mem) : Option (Int32 × Mem) :=
  (f_X10_isReader n x1 A).bind fun q1 =>
  if q1.1 = 0 then
    some ((-2 : Int32), q1.2)
  else
    (f_X10_isAgent n x2 q1.2).bind fun q4 =>
    if q4.1 = 0 then
      some ((-2 : Int32), q4.2)
    else
      (f_X10_isDay n x3 q4.2).bind fun q7 =>
      if q7.1 = 0 then
        some ((-3 : Int32), q7.2)
      else
        (f_X10_trustOf n x1 x2 x3 q7.2).bind fun q10 =>
        some (q10.1, q10.2)
set_option maxRecDepth 100000 in
set_option maxHeartbeats 4000000 in
theorem c_X10_trust (n : Nat) (x1 : Int32) (x2 : Int32) (x3 : Int32) (A : Mem) (q : Int32 × Mem) (h : f_X10_trust n x1 x2 x3 A = some q) : Ct yX10_trust cX10_trust 4 (some .int) 4 [.ref 80, .int x1, .int x2, .int x3] A (RI q) := by
  unfold f_X10_trust at h
  refine ct_of (by decide) (Nat.le_of_ble_eq_true rfl) ?_
  show Ev cX10_trust 4 RX10 (some .int) 4 none 0 [(0, .ref 80), (1, .int x1), (2, .int x2), (3, .int x3)] [] A (RI q)
  refine ev_iload_n 1 dX10_trust_0 rfl rfl ?_
  obtain ⟨q1, e2, h⟩ := bd_c h
  refine ev_callSi (av := [.int x1]) dX10_trust_1 (c_X10_isReader n x1  A q1 e2) mk_X10_isReader lk_X10_215 is_X10_isReader rfl (by decide) (by decide) (Nat.le_of_ble_eq_true rfl) rfl ?_
  refine ev_if_eq (tgt := 14) dX10_trust_4 (by decide) (fun c3 => ?_) (fun c3 => ?_)
  · have h := if_t c3 h
    refine ev_bipush (v := -2) dX10_trust_14 (by decide) ?_
    cases h
    exact ev_iret dX10_trust_16 rfl rfl ⟨rfl, rfl⟩
  · have h := if_f c3 h
    refine ev_iload_n 2 dX10_trust_7 rfl rfl ?_
    obtain ⟨q4, e5, h⟩ := bd_c h
    refine ev_callSi (av := [.int x2]) dX10_trust_8 (c_X10_isAgent n x2  q1.2 q4 e5) mk_X10_isAgent lk_X10_155 is_X10_isAgent rfl (by decide) (by decide) (Nat.le_of_ble_eq_true rfl) rfl ?_
    refine ev_if_ne (tgt := 17) dX10_trust_11 (by decide) (fun c6 => ?_) (fun c6 => ?_)
    · have h := if_f c6 h
      refine ev_iload_n 3 dX10_trust_17 rfl rfl ?_
      obtain ⟨q7, e8, h⟩ := bd_c h
      refine ev_callSi (av := [.int x3]) dX10_trust_18 (c_X10_isDay n x3  q4.2 q7 e8) mk_X10_isDay lk_X10_142 is_X10_isDay rfl (by decide) (by decide) (Nat.le_of_ble_eq_true rfl) rfl ?_
      refine ev_if_eq (tgt := 34) dX10_trust_21 (by decide) (fun c9 => ?_) (fun c9 => ?_)
      · have h := if_t c9 h
        refine ev_bipush (v := -3) dX10_trust_34 (by decide) ?_
        cases h
        exact ev_iret dX10_trust_36 rfl rfl ⟨rfl, rfl⟩
      · have h := if_f c9 h
        refine ev_aload_n 0 dX10_trust_24 rfl rfl ?_
        refine ev_iload_n 1 dX10_trust_25 rfl rfl ?_
        refine ev_iload_n 2 dX10_trust_26 rfl rfl ?_
        refine ev_iload_n 3 dX10_trust_27 rfl rfl ?_
        obtain ⟨q10, e11, h⟩ := bd_c h
        refine ev_callVi (av := [.int x1, .int x2, .int x3]) dX10_trust_28 (c_X10_trustOf n x1 x2 x3  q7.2 q10 e11) mk_X10_trustOf lk_X10_273 iv_X10_trustOf (Or.inl ⟨10, _, by decide, rfl, by decide, rfl, rfl⟩) rfl (by decide) (by decide) (Nat.le_of_ble_eq_true rfl) rfl ?_
        refine ev_goto (tgt := 36) dX10_trust_31 (by decide) ?_
        cases h
        exact ev_iret dX10_trust_36 rfl rfl ⟨rfl, rfl⟩
    · have h := if_t c6 h
      refine ev_bipush (v := -2) dX10_trust_14 (by decide) ?_
      cases h
      exact ev_iret dX10_trust_16 rfl rfl ⟨rfl, rfl⟩
def g_X10_tellers_6 (n : Nat) : Nat → Int32 → Int32 → Int32 → Int32 → Int32 → Int32 → Int32 → Mem → Option (Int32 × Mem)
  | 0, _, _, _, _, _, _, _, _ => none
  | m + 1, x1, x2, x3, x4, x5, x6, x7, A =>
    if (((24 : Int32)) + (A 80 26)) ≤ x7 then
      some (x6, A)
    else
      (f_X10_isSent n x7 A).bind fun q2 =>
      if q2.1 = 0 then
        g_X10_tellers_6 n  m x1 x2 x3 x4 x5 (x6 ||| ((0 : Int32))) (x7 + 1) q2.2
      else
        (f_X10_comesOn n x7 q2.2).bind fun q5 =>
        if x5 < q5.1 then
          g_X10_tellers_6 n  m x1 x2 x3 x4 x5 (x6 ||| ((0 : Int32))) (x7 + 1) q5.2
        else
          if ¬ x7 < 0 ∧ (x7).toNatClampNeg < 34 then
            if (q5.2 99 (x7).toNatClampNeg) = x1 then
              if (q5.2 100 (x7).toNatClampNeg) = x2 then
                if (q5.2 101 (x7).toNatClampNeg) = x3 then
                  if (q5.2 102 (x7).toNatClampNeg) = x4 then
                    g_X10_tellers_6 n  m x1 x2 x3 x4 x5 (x6 ||| (((1 : Int32)) <<< ((q5.2 96 (x7).toNatClampNeg) &&& 31))) (x7 + 1) q5.2
                  else
                    g_X10_tellers_6 n  m x1 x2 x3 x4 x5 (x6 ||| ((0 : Int32))) (x7 + 1) q5.2
                else
                  g_X10_tellers_6 n  m x1 x2 x3 x4 x5 (x6 ||| ((0 : Int32))) (x7 + 1) q5.2
              else
                g_X10_tellers_6 n  m x1 x2 x3 x4 x5 (x6 ||| ((0 : Int32))) (x7 + 1) q5.2
            else
              g_X10_tellers_6 n  m x1 x2 x3 x4 x5 (x6 ||| ((0 : Int32))) (x7 + 1) q5.2
          else
            none
set_option maxRecDepth 100000 in
set_option maxHeartbeats 4000000 in
theorem l_X10_tellers_6 (n : Nat) : ∀ (m : Nat) (x1 : Int32) (x2 : Int32) (x3 : Int32) (x4 : Int32) (x5 : Int32) (x6 : Int32) (x7 : Int32) (A : Mem) (q : Int32 × Mem), g_X10_tellers_6 n  m x1 x2 x3 x4 x5 x6 x7 A = some q → Ev cX10_tellers 9 RX10 (some .int) 1 none 6 [(0, .ref 80), (1, .int x1), (2, .int x2), (3, .int x3), (4, .int x4), (5, .int x5), (6, .int x6), (7, .int x7)] [] A (RI q) := by
  intro m
  induction m with
  | zero => intro x1 x2 x3 x4 x5 x6 x7 A q h; exact absurd h (by simp [g_X10_tellers_6])
  | succ m ih =>
    intro x1 x2 x3 x4 x5 x6 x7 A q h
    rw [g_X10_tellers_6] at h
    refine ev_iload 7 dX10_tellers_6 rfl ?_
    refine ev_bipush (v := 24) dX10_tellers_8 (by decide) ?_
    refine ev_aload_n 0 dX10_tellers_10 rfl rfl ?_
    refine ev_getI dX10_tellers_11 fl_X10_263 (by decide) rfl (by decide) (by decide) rfl ?_
    refine ev_iadd dX10_tellers_14 ?_
    refine ev_icmp_ge (tgt := 119) dX10_tellers_15 (by decide) (fun c1 => ?_) (fun c1 => ?_)
    · have h := if_t c1 h
      refine ev_iload 6 dX10_tellers_119 rfl ?_
      cases h
      exact ev_iret dX10_tellers_121 rfl rfl ⟨rfl, rfl⟩
    · have h := if_f c1 h
      refine ev_aload_n 0 dX10_tellers_18 rfl rfl ?_
      refine ev_iload 7 dX10_tellers_19 rfl ?_
      obtain ⟨q2, e3, h⟩ := bd_c h
      refine ev_callVi (av := [.int x7]) dX10_tellers_21 (c_X10_isSent n x7  A q2 e3) mk_X10_isSent lk_X10_266 iv_X10_isSent (Or.inl ⟨10, _, by decide, rfl, by decide, rfl, rfl⟩) rfl (by decide) (by decide) (Nat.le_of_ble_eq_true rfl) rfl ?_
      refine ev_if_eq (tgt := 87) dX10_tellers_24 (by decide) (fun c4 => ?_) (fun c4 => ?_)
      · have h := if_t c4 h
        refine ev_iconst (v := 0) dX10_tellers_87 (by decide) ?_
        refine ev_istore (ls' := [(8, .int ((0 : Int32))), (0, .ref 80), (1, .int x1), (2, .int x2), (3, .int x3), (4, .int x4), (5, .int x5), (6, .int x6), (7, .int x7)]) dX10_tellers_88 (by decide) rfl ?_
        refine ev_iload 7 dX10_tellers_90 rfl ?_
        refine ev_iload 0 dX10_tellers_92 rfl ?_
        refine ev_if_eq (tgt := 109) dX10_tellers_94 (by decide) (fun _ => ?_) (fun hh => absurd hh (by decide))
        refine ev_iconst (v := 0) dX10_tellers_109 (by decide) ?_
        refine ev_ior dX10_tellers_110 ?_
        refine ev_istore (ls' := [(6, .int (x6 ||| ((0 : Int32)))), (8, .int ((0 : Int32))), (0, .ref 80), (1, .int x1), (2, .int x2), (3, .int x3), (4, .int x4), (5, .int x5), (7, .int x7)]) dX10_tellers_111 (by decide) rfl ?_
        refine ev_iinc (v := x7 + 1) (ls' := [(7, .int (x7 + 1)), (6, .int (x6 ||| ((0 : Int32)))), (8, .int ((0 : Int32))), (0, .ref 80), (1, .int x1), (2, .int x2), (3, .int x3), (4, .int x4), (5, .int x5)]) 8 dX10_tellers_113 rfl rfl (by decide) rfl ?_
        refine ev_goto (tgt := 6) dX10_tellers_116 (by decide) ?_
        refine ev_pick [3, 4, 5, 6, 7, 8, 1, 0] (ls' := [(0, .ref 80), (1, .int x1), (2, .int x2), (3, .int x3), (4, .int x4), (5, .int x5), (6, .int (x6 ||| ((0 : Int32)))), (7, .int (x7 + 1))]) rfl ?_
        exact ih x1 x2 x3 x4 x5 (x6 ||| ((0 : Int32))) (x7 + 1) _ q h
      · have h := if_f c4 h
        refine ev_aload_n 0 dX10_tellers_27 rfl rfl ?_
        refine ev_iload 7 dX10_tellers_28 rfl ?_
        obtain ⟨q5, e6, h⟩ := bd_c h
        refine ev_callVi (av := [.int x7]) dX10_tellers_30 (c_X10_comesOn n x7  q2.2 q5 e6) mk_X10_comesOn lk_X10_244 iv_X10_comesOn (Or.inl ⟨10, _, by decide, rfl, by decide, rfl, rfl⟩) rfl (by decide) (by decide) (Nat.le_of_ble_eq_true rfl) rfl ?_
        refine ev_iload 5 dX10_tellers_33 rfl ?_
        refine ev_icmp_gt (tgt := 87) dX10_tellers_35 (by decide) (fun c7 => ?_) (fun c7 => ?_)
        · have h := if_t c7 h
          refine ev_iconst (v := 0) dX10_tellers_87 (by decide) ?_
          refine ev_istore (ls' := [(8, .int ((0 : Int32))), (0, .ref 80), (1, .int x1), (2, .int x2), (3, .int x3), (4, .int x4), (5, .int x5), (6, .int x6), (7, .int x7)]) dX10_tellers_88 (by decide) rfl ?_
          refine ev_iload 7 dX10_tellers_90 rfl ?_
          refine ev_iload 0 dX10_tellers_92 rfl ?_
          refine ev_if_eq (tgt := 109) dX10_tellers_94 (by decide) (fun _ => ?_) (fun hh => absurd hh (by decide))
          refine ev_iconst (v := 0) dX10_tellers_109 (by decide) ?_
          refine ev_ior dX10_tellers_110 ?_
          refine ev_istore (ls' := [(6, .int (x6 ||| ((0 : Int32)))), (8, .int ((0 : Int32))), (0, .ref 80), (1, .int x1), (2, .int x2), (3, .int x3), (4, .int x4), (5, .int x5), (7, .int x7)]) dX10_tellers_111 (by decide) rfl ?_
          refine ev_iinc (v := x7 + 1) (ls' := [(7, .int (x7 + 1)), (6, .int (x6 ||| ((0 : Int32)))), (8, .int ((0 : Int32))), (0, .ref 80), (1, .int x1), (2, .int x2), (3, .int x3), (4, .int x4), (5, .int x5)]) 8 dX10_tellers_113 rfl rfl (by decide) rfl ?_
          refine ev_goto (tgt := 6) dX10_tellers_116 (by decide) ?_
          refine ev_pick [3, 4, 5, 6, 7, 8, 1, 0] (ls' := [(0, .ref 80), (1, .int x1), (2, .int x2), (3, .int x3), (4, .int x4), (5, .int x5), (6, .int (x6 ||| ((0 : Int32)))), (7, .int (x7 + 1))]) rfl ?_
          exact ih x1 x2 x3 x4 x5 (x6 ||| ((0 : Int32))) (x7 + 1) _ q h
        · have h := if_f c7 h
          refine ev_aload_n 0 dX10_tellers_38 rfl rfl ?_
          refine ev_getR (r := 99) dX10_tellers_39 fl_X10_65 (by decide) rfl (by decide) (by decide) rfl ?_
          refine ev_iload 7 dX10_tellers_42 rfl ?_
          obtain ⟨c8, h⟩ := if_c h
          refine ev_ialdc 34 dX10_tellers_44 (by decide) rfl rfl (by decide) c8 ?_
          refine ev_iload_n 1 dX10_tellers_45 rfl rfl ?_
          refine ev_icmp_ne (tgt := 87) dX10_tellers_46 (by decide) (fun c9 => ?_) (fun c9 => ?_)
          · have h := if_f c9 h
            refine ev_iconst (v := 0) dX10_tellers_87 (by decide) ?_
            refine ev_istore (ls' := [(8, .int ((0 : Int32))), (0, .ref 80), (1, .int x1), (2, .int x2), (3, .int x3), (4, .int x4), (5, .int x5), (6, .int x6), (7, .int x7)]) dX10_tellers_88 (by decide) rfl ?_
            refine ev_iload 7 dX10_tellers_90 rfl ?_
            refine ev_iload 0 dX10_tellers_92 rfl ?_
            refine ev_if_eq (tgt := 109) dX10_tellers_94 (by decide) (fun _ => ?_) (fun hh => absurd hh (by decide))
            refine ev_iconst (v := 0) dX10_tellers_109 (by decide) ?_
            refine ev_ior dX10_tellers_110 ?_
            refine ev_istore (ls' := [(6, .int (x6 ||| ((0 : Int32)))), (8, .int ((0 : Int32))), (0, .ref 80), (1, .int x1), (2, .int x2), (3, .int x3), (4, .int x4), (5, .int x5), (7, .int x7)]) dX10_tellers_111 (by decide) rfl ?_
            refine ev_iinc (v := x7 + 1) (ls' := [(7, .int (x7 + 1)), (6, .int (x6 ||| ((0 : Int32)))), (8, .int ((0 : Int32))), (0, .ref 80), (1, .int x1), (2, .int x2), (3, .int x3), (4, .int x4), (5, .int x5)]) 8 dX10_tellers_113 rfl rfl (by decide) rfl ?_
            refine ev_goto (tgt := 6) dX10_tellers_116 (by decide) ?_
            refine ev_pick [3, 4, 5, 6, 7, 8, 1, 0] (ls' := [(0, .ref 80), (1, .int x1), (2, .int x2), (3, .int x3), (4, .int x4), (5, .int x5), (6, .int (x6 ||| ((0 : Int32)))), (7, .int (x7 + 1))]) rfl ?_
            exact ih x1 x2 x3 x4 x5 (x6 ||| ((0 : Int32))) (x7 + 1) _ q h
          · have h := if_t c9 h
            refine ev_aload_n 0 dX10_tellers_49 rfl rfl ?_
            refine ev_getR (r := 100) dX10_tellers_50 fl_X10_68 (by decide) rfl (by decide) (by decide) rfl ?_
            refine ev_iload 7 dX10_tellers_53 rfl ?_
            refine ev_ialdc 34 dX10_tellers_55 (by decide) rfl rfl (by decide) c8 ?_
            refine ev_iload_n 2 dX10_tellers_56 rfl rfl ?_
            refine ev_icmp_ne (tgt := 87) dX10_tellers_57 (by decide) (fun c10 => ?_) (fun c10 => ?_)
            · have h := if_f c10 h
              refine ev_iconst (v := 0) dX10_tellers_87 (by decide) ?_
              refine ev_istore (ls' := [(8, .int ((0 : Int32))), (0, .ref 80), (1, .int x1), (2, .int x2), (3, .int x3), (4, .int x4), (5, .int x5), (6, .int x6), (7, .int x7)]) dX10_tellers_88 (by decide) rfl ?_
              refine ev_iload 7 dX10_tellers_90 rfl ?_
              refine ev_iload 0 dX10_tellers_92 rfl ?_
              refine ev_if_eq (tgt := 109) dX10_tellers_94 (by decide) (fun _ => ?_) (fun hh => absurd hh (by decide))
              refine ev_iconst (v := 0) dX10_tellers_109 (by decide) ?_
              refine ev_ior dX10_tellers_110 ?_
              refine ev_istore (ls' := [(6, .int (x6 ||| ((0 : Int32)))), (8, .int ((0 : Int32))), (0, .ref 80), (1, .int x1), (2, .int x2), (3, .int x3), (4, .int x4), (5, .int x5), (7, .int x7)]) dX10_tellers_111 (by decide) rfl ?_
              refine ev_iinc (v := x7 + 1) (ls' := [(7, .int (x7 + 1)), (6, .int (x6 ||| ((0 : Int32)))), (8, .int ((0 : Int32))), (0, .ref 80), (1, .int x1), (2, .int x2), (3, .int x3), (4, .int x4), (5, .int x5)]) 8 dX10_tellers_113 rfl rfl (by decide) rfl ?_
              refine ev_goto (tgt := 6) dX10_tellers_116 (by decide) ?_
              refine ev_pick [3, 4, 5, 6, 7, 8, 1, 0] (ls' := [(0, .ref 80), (1, .int x1), (2, .int x2), (3, .int x3), (4, .int x4), (5, .int x5), (6, .int (x6 ||| ((0 : Int32)))), (7, .int (x7 + 1))]) rfl ?_
              exact ih x1 x2 x3 x4 x5 (x6 ||| ((0 : Int32))) (x7 + 1) _ q h
            · have h := if_t c10 h
              refine ev_aload_n 0 dX10_tellers_60 rfl rfl ?_
              refine ev_getR (r := 101) dX10_tellers_61 fl_X10_71 (by decide) rfl (by decide) (by decide) rfl ?_
              refine ev_iload 7 dX10_tellers_64 rfl ?_
              refine ev_ialdc 34 dX10_tellers_66 (by decide) rfl rfl (by decide) c8 ?_
              refine ev_iload_n 3 dX10_tellers_67 rfl rfl ?_
              refine ev_icmp_ne (tgt := 87) dX10_tellers_68 (by decide) (fun c11 => ?_) (fun c11 => ?_)
              · have h := if_f c11 h
                refine ev_iconst (v := 0) dX10_tellers_87 (by decide) ?_
                refine ev_istore (ls' := [(8, .int ((0 : Int32))), (0, .ref 80), (1, .int x1), (2, .int x2), (3, .int x3), (4, .int x4), (5, .int x5), (6, .int x6), (7, .int x7)]) dX10_tellers_88 (by decide) rfl ?_
                refine ev_iload 7 dX10_tellers_90 rfl ?_
                refine ev_iload 0 dX10_tellers_92 rfl ?_
                refine ev_if_eq (tgt := 109) dX10_tellers_94 (by decide) (fun _ => ?_) (fun hh => absurd hh (by decide))
                refine ev_iconst (v := 0) dX10_tellers_109 (by decide) ?_
                refine ev_ior dX10_tellers_110 ?_
                refine ev_istore (ls' := [(6, .int (x6 ||| ((0 : Int32)))), (8, .int ((0 : Int32))), (0, .ref 80), (1, .int x1), (2, .int x2), (3, .int x3), (4, .int x4), (5, .int x5), (7, .int x7)]) dX10_tellers_111 (by decide) rfl ?_
                refine ev_iinc (v := x7 + 1) (ls' := [(7, .int (x7 + 1)), (6, .int (x6 ||| ((0 : Int32)))), (8, .int ((0 : Int32))), (0, .ref 80), (1, .int x1), (2, .int x2), (3, .int x3), (4, .int x4), (5, .int x5)]) 8 dX10_tellers_113 rfl rfl (by decide) rfl ?_
                refine ev_goto (tgt := 6) dX10_tellers_116 (by decide) ?_
                refine ev_pick [3, 4, 5, 6, 7, 8, 1, 0] (ls' := [(0, .ref 80), (1, .int x1), (2, .int x2), (3, .int x3), (4, .int x4), (5, .int x5), (6, .int (x6 ||| ((0 : Int32)))), (7, .int (x7 + 1))]) rfl ?_
                exact ih x1 x2 x3 x4 x5 (x6 ||| ((0 : Int32))) (x7 + 1) _ q h
              · have h := if_t c11 h
                refine ev_aload_n 0 dX10_tellers_71 rfl rfl ?_
                refine ev_getR (r := 102) dX10_tellers_72 fl_X10_74 (by decide) rfl (by decide) (by decide) rfl ?_
                refine ev_iload 7 dX10_tellers_75 rfl ?_
                refine ev_ialdc 34 dX10_tellers_77 (by decide) rfl rfl (by decide) c8 ?_
                refine ev_iload 4 dX10_tellers_78 rfl ?_
                refine ev_icmp_ne (tgt := 87) dX10_tellers_80 (by decide) (fun c12 => ?_) (fun c12 => ?_)
                · have h := if_f c12 h
                  refine ev_iconst (v := 0) dX10_tellers_87 (by decide) ?_
                  refine ev_istore (ls' := [(8, .int ((0 : Int32))), (0, .ref 80), (1, .int x1), (2, .int x2), (3, .int x3), (4, .int x4), (5, .int x5), (6, .int x6), (7, .int x7)]) dX10_tellers_88 (by decide) rfl ?_
                  refine ev_iload 7 dX10_tellers_90 rfl ?_
                  refine ev_iload 0 dX10_tellers_92 rfl ?_
                  refine ev_if_eq (tgt := 109) dX10_tellers_94 (by decide) (fun _ => ?_) (fun hh => absurd hh (by decide))
                  refine ev_iconst (v := 0) dX10_tellers_109 (by decide) ?_
                  refine ev_ior dX10_tellers_110 ?_
                  refine ev_istore (ls' := [(6, .int (x6 ||| ((0 : Int32)))), (8, .int ((0 : Int32))), (0, .ref 80), (1, .int x1), (2, .int x2), (3, .int x3), (4, .int x4), (5, .int x5), (7, .int x7)]) dX10_tellers_111 (by decide) rfl ?_
                  refine ev_iinc (v := x7 + 1) (ls' := [(7, .int (x7 + 1)), (6, .int (x6 ||| ((0 : Int32)))), (8, .int ((0 : Int32))), (0, .ref 80), (1, .int x1), (2, .int x2), (3, .int x3), (4, .int x4), (5, .int x5)]) 8 dX10_tellers_113 rfl rfl (by decide) rfl ?_
                  refine ev_goto (tgt := 6) dX10_tellers_116 (by decide) ?_
                  refine ev_pick [3, 4, 5, 6, 7, 8, 1, 0] (ls' := [(0, .ref 80), (1, .int x1), (2, .int x2), (3, .int x3), (4, .int x4), (5, .int x5), (6, .int (x6 ||| ((0 : Int32)))), (7, .int (x7 + 1))]) rfl ?_
                  exact ih x1 x2 x3 x4 x5 (x6 ||| ((0 : Int32))) (x7 + 1) _ q h
                · have h := if_t c12 h
                  refine ev_iconst (v := 1) dX10_tellers_83 (by decide) ?_
                  refine ev_goto (tgt := 88) dX10_tellers_84 (by decide) ?_
                  refine ev_istore (ls' := [(8, .int ((1 : Int32))), (0, .ref 80), (1, .int x1), (2, .int x2), (3, .int x3), (4, .int x4), (5, .int x5), (6, .int x6), (7, .int x7)]) dX10_tellers_88 (by decide) rfl ?_
                  refine ev_iload 7 dX10_tellers_90 rfl ?_
                  refine ev_iload 0 dX10_tellers_92 rfl ?_
                  refine ev_if_eq (tgt := 109) dX10_tellers_94 (by decide) (fun hh => absurd hh (by decide)) (fun _ => ?_)
                  refine ev_iconst (v := 1) dX10_tellers_97 (by decide) ?_
                  refine ev_aload_n 1 dX10_tellers_98 rfl rfl ?_
                  refine ev_getR (r := 96) dX10_tellers_99 fl_X10_56 (by decide) rfl (by decide) (by decide) rfl ?_
                  refine ev_iload 8 dX10_tellers_102 rfl ?_
                  refine ev_ialdc 34 dX10_tellers_104 (by decide) rfl rfl (by decide) c8 ?_
                  refine ev_ishl dX10_tellers_105 ?_
                  refine ev_goto (tgt := 110) dX10_tellers_106 (by decide) ?_
                  refine ev_ior dX10_tellers_110 ?_
                  refine ev_istore (ls' := [(6, .int (x6 ||| (((1 : Int32)) <<< ((q5.2 96 (x7).toNatClampNeg) &&& 31)))), (8, .int ((1 : Int32))), (0, .ref 80), (1, .int x1), (2, .int x2), (3, .int x3), (4, .int x4), (5, .int x5), (7, .int x7)]) dX10_tellers_111 (by decide) rfl ?_
                  refine ev_iinc (v := x7 + 1) (ls' := [(7, .int (x7 + 1)), (6, .int (x6 ||| (((1 : Int32)) <<< ((q5.2 96 (x7).toNatClampNeg) &&& 31)))), (8, .int ((1 : Int32))), (0, .ref 80), (1, .int x1), (2, .int x2), (3, .int x3), (4, .int x4), (5, .int x5)]) 8 dX10_tellers_113 rfl rfl (by decide) rfl ?_
                  refine ev_goto (tgt := 6) dX10_tellers_116 (by decide) ?_
                  refine ev_pick [3, 4, 5, 6, 7, 8, 1, 0] (ls' := [(0, .ref 80), (1, .int x1), (2, .int x2), (3, .int x3), (4, .int x4), (5, .int x5), (6, .int (x6 ||| (((1 : Int32)) <<< ((q5.2 96 (x7).toNatClampNeg) &&& 31)))), (7, .int (x7 + 1))]) rfl ?_
                  exact ih x1 x2 x3 x4 x5 (x6 ||| (((1 : Int32)) <<< ((q5.2 96 (x7).toNatClampNeg) &&& 31))) (x7 + 1) _ q h
def f_X10_tellers (n : Nat) (x1 : Int32) (x2 : Int32) (x3 : Int32) (x4 : Int32) (x5 : Int32) (A : Mem) : Option (Int32 × Mem) :=
  g_X10_tellers_6 n  n x1 x2 x3 x4 x5 ((0 : Int32)) ((0 : Int32)) A
set_option maxRecDepth 100000 in
set_option maxHeartbeats 4000000 in
theorem c_X10_tellers (n : Nat) (x1 : Int32) (x2 : Int32) (x3 : Int32) (x4 : Int32) (x5 : Int32) (A : Mem) (q : Int32 × Mem) (h : f_X10_tellers n x1 x2 x3 x4 x5 A = some q) : Ct yX10_tellers cX10_tellers 9 (some .int) 1 [.ref 80, .int x1, .int x2, .int x3, .int x4, .int x5] A (RI q) := by
  unfold f_X10_tellers at h
  refine ct_of (by decide) (Nat.le_of_ble_eq_true rfl) ?_
  show Ev cX10_tellers 9 RX10 (some .int) 1 none 0 [(0, .ref 80), (1, .int x1), (2, .int x2), (3, .int x3), (4, .int x4), (5, .int x5)] [] A (RI q)
  refine ev_iconst (v := 0) dX10_tellers_0 (by decide) ?_
  refine ev_istore (ls' := [(6, .int ((0 : Int32))), (0, .ref 80), (1, .int x1), (2, .int x2), (3, .int x3), (4, .int x4), (5, .int x5)]) dX10_tellers_1 (by decide) rfl ?_
  refine ev_iconst (v := 0) dX10_tellers_3 (by decide) ?_
  refine ev_istore (ls' := [(7, .int ((0 : Int32))), (6, .int ((0 : Int32))), (0, .ref 80), (1, .int x1), (2, .int x2), (3, .int x3), (4, .int x4), (5, .int x5)]) dX10_tellers_4 (by decide) rfl ?_
  refine ev_pick [2, 3, 4, 5, 6, 7, 1, 0] (ls' := [(0, .ref 80), (1, .int x1), (2, .int x2), (3, .int x3), (4, .int x4), (5, .int x5), (6, .int ((0 : Int32))), (7, .int ((0 : Int32)))]) rfl ?_
  exact (l_X10_tellers_6 n   n) x1 x2 x3 x4 x5 ((0 : Int32)) ((0 : Int32)) _ q h
def g_X10_weightOf_9 (n : Nat) : Nat → Int32 → Int32 → Int32 → Int32 → Int32 → Int32 → Mem → Option (Int32 × Mem)
  | 0, _, _, _, _, _, _, _ => none
  | m + 1, x1, x2, x3, x4, x5, x6, A =>
    if ((6 : Int32)) ≤ x6 then
      some (x4, A)
    else
      if ((x2 >>> (x6 &&& 31)) &&& ((1 : Int32))) = ((1 : Int32)) then
        (f_X10_trustOf n x1 x6 x3 A).bind fun q3 =>
        if x5 ≤ 0 then
          g_X10_weightOf_9 n  m x1 x2 x3 (x4 + (q3.1 + ((0 : Int32)))) (x5 + 1) (x6 + 1) q3.2
        else
          if ¬ ((((6 : Int32)) * x1) + ((4 : Int32))) < 0 ∧ ((((6 : Int32)) * x1) + ((4 : Int32))).toNatClampNeg < 18 then
            g_X10_weightOf_9 n  m x1 x2 x3 (x4 + (q3.1 + (q3.2 94 ((((6 : Int32)) * x1) + ((4 : Int32))).toNatClampNeg))) (x5 + 1) (x6 + 1) q3.2
          else
            none
      else
        g_X10_weightOf_9 n  m x1 x2 x3 x4 x5 (x6 + 1) A
set_option maxRecDepth 100000 in
set_option maxHeartbeats 4000000 in
theorem l_X10_weightOf_9 (n : Nat) : ∀ (m : Nat) (x1 : Int32) (x2 : Int32) (x3 : Int32) (x4 : Int32) (x5 : Int32) (x6 : Int32) (A : Mem) (q : Int32 × Mem), g_X10_weightOf_9 n  m x1 x2 x3 x4 x5 x6 A = some q → Ev cX10_weightOf 7 RX10 (some .int) 4 none 9 [(0, .ref 80), (1, .int x1), (2, .int x2), (3, .int x3), (4, .int x4), (5, .int x5), (6, .int x6)] [] A (RI q) := by
  intro m
  induction m with
  | zero => intro x1 x2 x3 x4 x5 x6 A q h; exact absurd h (by simp [g_X10_weightOf_9])
  | succ m ih =>
    intro x1 x2 x3 x4 x5 x6 A q h
    rw [g_X10_weightOf_9] at h
    refine ev_iload 6 dX10_weightOf_9 rfl ?_
    refine ev_bipush (v := 6) dX10_weightOf_11 (by decide) ?_
    refine ev_icmp_ge (tgt := 69) dX10_weightOf_13 (by decide) (fun c1 => ?_) (fun c1 => ?_)
    · have h := if_t c1 h
      refine ev_iload 4 dX10_weightOf_69 rfl ?_
      cases h
      exact ev_iret dX10_weightOf_71 rfl rfl ⟨rfl, rfl⟩
    · have h := if_f c1 h
      refine ev_iload_n 2 dX10_weightOf_16 rfl rfl ?_
      refine ev_iload 6 dX10_weightOf_17 rfl ?_
      refine ev_ishr dX10_weightOf_19 ?_
      refine ev_iconst (v := 1) dX10_weightOf_20 (by decide) ?_
      refine ev_iand dX10_weightOf_21 ?_
      refine ev_iconst (v := 1) dX10_weightOf_22 (by decide) ?_
      refine ev_icmp_ne (tgt := 63) dX10_weightOf_23 (by decide) (fun c2 => ?_) (fun c2 => ?_)
      · have h := if_f c2 h
        refine ev_iinc (v := x6 + 1) (ls' := [(6, .int (x6 + 1)), (0, .ref 80), (1, .int x1), (2, .int x2), (3, .int x3), (4, .int x4), (5, .int x5)]) 6 dX10_weightOf_63 rfl rfl (by decide) rfl ?_
        refine ev_goto (tgt := 9) dX10_weightOf_66 (by decide) ?_
        refine ev_pick [1, 2, 3, 4, 5, 6, 0] (ls' := [(0, .ref 80), (1, .int x1), (2, .int x2), (3, .int x3), (4, .int x4), (5, .int x5), (6, .int (x6 + 1))]) rfl ?_
        exact ih x1 x2 x3 x4 x5 (x6 + 1) _ q h
      · have h := if_t c2 h
        refine ev_iload 4 dX10_weightOf_26 rfl ?_
        refine ev_aload_n 0 dX10_weightOf_28 rfl rfl ?_
        refine ev_iload_n 1 dX10_weightOf_29 rfl rfl ?_
        refine ev_iload 6 dX10_weightOf_30 rfl ?_
        refine ev_iload_n 3 dX10_weightOf_32 rfl rfl ?_
        obtain ⟨q3, e4, h⟩ := bd_c h
        refine ev_callVi (av := [.int x1, .int x6, .int x3]) dX10_weightOf_33 (c_X10_trustOf n x1 x6 x3  A q3 e4) mk_X10_trustOf lk_X10_273 iv_X10_trustOf (Or.inl ⟨10, _, by decide, rfl, by decide, rfl, rfl⟩) rfl (by decide) (by decide) (Nat.le_of_ble_eq_true rfl) rfl ?_
        refine ev_iload 5 dX10_weightOf_36 rfl ?_
        refine ev_if_le (tgt := 55) dX10_weightOf_38 (by decide) (fun c5 => ?_) (fun c5 => ?_)
        · have h := if_t c5 h
          refine ev_iconst (v := 0) dX10_weightOf_55 (by decide) ?_
          refine ev_iadd dX10_weightOf_56 ?_
          refine ev_iadd dX10_weightOf_57 ?_
          refine ev_istore (ls' := [(4, .int (x4 + (q3.1 + ((0 : Int32))))), (0, .ref 80), (1, .int x1), (2, .int x2), (3, .int x3), (5, .int x5), (6, .int x6)]) dX10_weightOf_58 (by decide) rfl ?_
          refine ev_iinc (v := x5 + 1) (ls' := [(5, .int (x5 + 1)), (4, .int (x4 + (q3.1 + ((0 : Int32))))), (0, .ref 80), (1, .int x1), (2, .int x2), (3, .int x3), (6, .int x6)]) 5 dX10_weightOf_60 rfl rfl (by decide) rfl ?_
          refine ev_iinc (v := x6 + 1) (ls' := [(6, .int (x6 + 1)), (5, .int (x5 + 1)), (4, .int (x4 + (q3.1 + ((0 : Int32))))), (0, .ref 80), (1, .int x1), (2, .int x2), (3, .int x3)]) 6 dX10_weightOf_63 rfl rfl (by decide) rfl ?_
          refine ev_goto (tgt := 9) dX10_weightOf_66 (by decide) ?_
          refine ev_pick [3, 4, 5, 6, 2, 1, 0] (ls' := [(0, .ref 80), (1, .int x1), (2, .int x2), (3, .int x3), (4, .int (x4 + (q3.1 + ((0 : Int32))))), (5, .int (x5 + 1)), (6, .int (x6 + 1))]) rfl ?_
          exact ih x1 x2 x3 (x4 + (q3.1 + ((0 : Int32)))) (x5 + 1) (x6 + 1) _ q h
        · have h := if_f c5 h
          refine ev_aload_n 0 dX10_weightOf_41 rfl rfl ?_
          refine ev_getR (r := 94) dX10_weightOf_42 fl_X10_50 (by decide) rfl (by decide) (by decide) rfl ?_
          refine ev_bipush (v := 6) dX10_weightOf_45 (by decide) ?_
          refine ev_iload_n 1 dX10_weightOf_47 rfl rfl ?_
          refine ev_imul dX10_weightOf_48 ?_
          refine ev_iconst (v := 4) dX10_weightOf_49 (by decide) ?_
          refine ev_iadd dX10_weightOf_50 ?_
          obtain ⟨c6, h⟩ := if_c h
          refine ev_ialdc 18 dX10_weightOf_51 (by decide) rfl rfl (by decide) c6 ?_
          refine ev_goto (tgt := 56) dX10_weightOf_52 (by decide) ?_
          refine ev_iadd dX10_weightOf_56 ?_
          refine ev_iadd dX10_weightOf_57 ?_
          refine ev_istore (ls' := [(4, .int (x4 + (q3.1 + (q3.2 94 ((((6 : Int32)) * x1) + ((4 : Int32))).toNatClampNeg)))), (0, .ref 80), (1, .int x1), (2, .int x2), (3, .int x3), (5, .int x5), (6, .int x6)]) dX10_weightOf_58 (by decide) rfl ?_
          refine ev_iinc (v := x5 + 1) (ls' := [(5, .int (x5 + 1)), (4, .int (x4 + (q3.1 + (q3.2 94 ((((6 : Int32)) * x1) + ((4 : Int32))).toNatClampNeg)))), (0, .ref 80), (1, .int x1), (2, .int x2), (3, .int x3), (6, .int x6)]) 5 dX10_weightOf_60 rfl rfl (by decide) rfl ?_
          refine ev_iinc (v := x6 + 1) (ls' := [(6, .int (x6 + 1)), (5, .int (x5 + 1)), (4, .int (x4 + (q3.1 + (q3.2 94 ((((6 : Int32)) * x1) + ((4 : Int32))).toNatClampNeg)))), (0, .ref 80), (1, .int x1), (2, .int x2), (3, .int x3)]) 6 dX10_weightOf_63 rfl rfl (by decide) rfl ?_
          refine ev_goto (tgt := 9) dX10_weightOf_66 (by decide) ?_
          refine ev_pick [3, 4, 5, 6, 2, 1, 0] (ls' := [(0, .ref 80), (1, .int x1), (2, .int x2), (3, .int x3), (4, .int (x4 + (q3.1 + (q3.2 94 ((((6 : Int32)) * x1) + ((4 : Int32))).toNatClampNeg)))), (5, .int (x5 + 1)), (6, .int (x6 + 1))]) rfl ?_
          exact ih x1 x2 x3 (x4 + (q3.1 + (q3.2 94 ((((6 : Int32)) * x1) + ((4 : Int32))).toNatClampNeg))) (x5 + 1) (x6 + 1) _ q h
def f_X10_weightOf (n : Nat) (x1 : Int32) (x2 : Int32) (x3 : Int32) (A : Mem) : Option (Int32 × Mem) :=
  g_X10_weightOf_9 n  n x1 x2 x3 ((0 : Int32)) ((0 : Int32)) ((0 : Int32)) A
set_option maxRecDepth 100000 in
set_option maxHeartbeats 4000000 in
theorem c_X10_weightOf (n : Nat) (x1 : Int32) (x2 : Int32) (x3 : Int32) (A : Mem) (q : Int32 × Mem) (h : f_X10_weightOf n x1 x2 x3 A = some q) : Ct yX10_weightOf cX10_weightOf 7 (some .int) 4 [.ref 80, .int x1, .int x2, .int x3] A (RI q) := by
  unfold f_X10_weightOf at h
  refine ct_of (by decide) (Nat.le_of_ble_eq_true rfl) ?_
  show Ev cX10_weightOf 7 RX10 (some .int) 4 none 0 [(0, .ref 80), (1, .int x1), (2, .int x2), (3, .int x3)] [] A (RI q)
  refine ev_iconst (v := 0) dX10_weightOf_0 (by decide) ?_
  refine ev_istore (ls' := [(4, .int ((0 : Int32))), (0, .ref 80), (1, .int x1), (2, .int x2), (3, .int x3)]) dX10_weightOf_1 (by decide) rfl ?_
  refine ev_iconst (v := 0) dX10_weightOf_3 (by decide) ?_
  refine ev_istore (ls' := [(5, .int ((0 : Int32))), (4, .int ((0 : Int32))), (0, .ref 80), (1, .int x1), (2, .int x2), (3, .int x3)]) dX10_weightOf_4 (by decide) rfl ?_
  refine ev_iconst (v := 0) dX10_weightOf_6 (by decide) ?_
  refine ev_istore (ls' := [(6, .int ((0 : Int32))), (5, .int ((0 : Int32))), (4, .int ((0 : Int32))), (0, .ref 80), (1, .int x1), (2, .int x2), (3, .int x3)]) dX10_weightOf_7 (by decide) rfl ?_
  refine ev_pick [3, 4, 5, 6, 2, 1, 0] (ls' := [(0, .ref 80), (1, .int x1), (2, .int x2), (3, .int x3), (4, .int ((0 : Int32))), (5, .int ((0 : Int32))), (6, .int ((0 : Int32)))]) rfl ?_
  exact (l_X10_weightOf_9 n   n) x1 x2 x3 ((0 : Int32)) ((0 : Int32)) ((0 : Int32)) _ q h
def g_X10_concludes_31 (n : Nat) : Nat → Int32 → Int32 → Int32 → Int32 → Int32 → Int32 → Int32 → Int32 → Mem → Option (Int32 × Mem)
  | 0, _, _, _, _, _, _, _, _, _ => none
  | m + 1, x1, x2, x3, x4, x5, x6, x7, x8, A =>
    if ((10 : Int32)) ≤ x8 then
      if x6 = ((-1 : Int32)) then
        some ((-1 : Int32), A)
      else
        if ¬ ((((6 : Int32)) * x1) + ((5 : Int32))) < 0 ∧ ((((6 : Int32)) * x1) + ((5 : Int32))).toNatClampNeg < 18 then
          if x7 < (A 94 ((((6 : Int32)) * x1) + ((5 : Int32))).toNatClampNeg) then
            some ((-1 : Int32), A)
          else
            some (x6, A)
        else
          none
    else
      (f_X10_tellers n x2 x3 x4 x8 x5 A).bind fun q10 =>
      if q10.1 = 0 then
        if ((-1 : Int32)) ≤ x7 then
          g_X10_concludes_31 n  m x1 x2 x3 x4 x5 x6 x7 (x8 + 1) q10.2
        else
          g_X10_concludes_31 n  m x1 x2 x3 x4 x5 x8 ((-1 : Int32)) (x8 + 1) q10.2
      else
        (f_X10_weightOf n x1 q10.1 x5 q10.2).bind fun q13 =>
        if q13.1 ≤ x7 then
          g_X10_concludes_31 n  m x1 x2 x3 x4 x5 x6 x7 (x8 + 1) q13.2
        else
          g_X10_concludes_31 n  m x1 x2 x3 x4 x5 x8 q13.1 (x8 + 1) q13.2
set_option maxRecDepth 100000 in
set_option maxHeartbeats 4000000 in
theorem l_X10_concludes_31 (n : Nat) : ∀ (m : Nat) (x1 : Int32) (x2 : Int32) (x3 : Int32) (x4 : Int32) (x5 : Int32) (x6 : Int32) (x7 : Int32) (x8 : Int32) (A : Mem) (q : Int32 × Mem), g_X10_concludes_31 n  m x1 x2 x3 x4 x5 x6 x7 x8 A = some q → Ev cX10_concludes 11 RX10 (some .int) 5 none 31 [(0, .ref 80), (1, .int x1), (2, .int x2), (3, .int x3), (4, .int x4), (5, .int x5), (6, .int x6), (7, .int x7), (8, .int x8)] [] A (RI q) := by
  intro m
  induction m with
  | zero => intro x1 x2 x3 x4 x5 x6 x7 x8 A q h; exact absurd h (by simp [g_X10_concludes_31])
  | succ m ih =>
    intro x1 x2 x3 x4 x5 x6 x7 x8 A q h
    rw [g_X10_concludes_31] at h
    refine ev_iload 8 dX10_concludes_31 rfl ?_
    refine ev_bipush (v := 10) dX10_concludes_33 (by decide) ?_
    refine ev_icmp_ge (tgt := 110) dX10_concludes_35 (by decide) (fun c6 => ?_) (fun c6 => ?_)
    · have h := if_t c6 h
      refine ev_iload 6 dX10_concludes_110 rfl ?_
      refine ev_iconst (v := -1) dX10_concludes_112 (by decide) ?_
      refine ev_icmp_eq (tgt := 137) dX10_concludes_113 (by decide) (fun c7 => ?_) (fun c7 => ?_)
      · have h := if_t c7 h
        refine ev_iconst (v := -1) dX10_concludes_137 (by decide) ?_
        cases h
        exact ev_iret dX10_concludes_138 rfl rfl ⟨rfl, rfl⟩
      · have h := if_f c7 h
        refine ev_iload 7 dX10_concludes_116 rfl ?_
        refine ev_aload_n 0 dX10_concludes_118 rfl rfl ?_
        refine ev_getR (r := 94) dX10_concludes_119 fl_X10_50 (by decide) rfl (by decide) (by decide) rfl ?_
        refine ev_bipush (v := 6) dX10_concludes_122 (by decide) ?_
        refine ev_iload_n 1 dX10_concludes_124 rfl rfl ?_
        refine ev_imul dX10_concludes_125 ?_
        refine ev_iconst (v := 5) dX10_concludes_126 (by decide) ?_
        refine ev_iadd dX10_concludes_127 ?_
        obtain ⟨c8, h⟩ := if_c h
        refine ev_ialdc 18 dX10_concludes_128 (by decide) rfl rfl (by decide) c8 ?_
        refine ev_icmp_lt (tgt := 137) dX10_concludes_129 (by decide) (fun c9 => ?_) (fun c9 => ?_)
        · have h := if_t c9 h
          refine ev_iconst (v := -1) dX10_concludes_137 (by decide) ?_
          cases h
          exact ev_iret dX10_concludes_138 rfl rfl ⟨rfl, rfl⟩
        · have h := if_f c9 h
          refine ev_iload 6 dX10_concludes_132 rfl ?_
          refine ev_goto (tgt := 138) dX10_concludes_134 (by decide) ?_
          cases h
          exact ev_iret dX10_concludes_138 rfl rfl ⟨rfl, rfl⟩
    · have h := if_f c6 h
      refine ev_aload_n 0 dX10_concludes_38 rfl rfl ?_
      refine ev_iload_n 2 dX10_concludes_39 rfl rfl ?_
      refine ev_iload_n 3 dX10_concludes_40 rfl rfl ?_
      refine ev_iload 4 dX10_concludes_41 rfl ?_
      refine ev_iload 8 dX10_concludes_43 rfl ?_
      refine ev_iload 5 dX10_concludes_45 rfl ?_
      obtain ⟨q10, e11, h⟩ := bd_c h
      refine ev_callVi (av := [.int x2, .int x3, .int x4, .int x8, .int x5]) dX10_concludes_47 (c_X10_tellers n x2 x3 x4 x8 x5  A q10 e11) mk_X10_tellers lk_X10_276 iv_X10_tellers (Or.inl ⟨10, _, by decide, rfl, by decide, rfl, rfl⟩) rfl (by decide) (by decide) (Nat.le_of_ble_eq_true rfl) rfl ?_
      refine ev_istore (ls' := [(9, .int q10.1), (0, .ref 80), (1, .int x1), (2, .int x2), (3, .int x3), (4, .int x4), (5, .int x5), (6, .int x6), (7, .int x7), (8, .int x8)]) dX10_concludes_50 (by decide) rfl ?_
      refine ev_iload 0 dX10_concludes_52 rfl ?_
      refine ev_if_ne (tgt := 61) dX10_concludes_54 (by decide) (fun c12 => ?_) (fun c12 => ?_)
      · have h := if_f c12 h
        refine ev_aload_n 1 dX10_concludes_61 rfl rfl ?_
        refine ev_iload_n 2 dX10_concludes_62 rfl rfl ?_
        refine ev_iload 0 dX10_concludes_63 rfl ?_
        refine ev_iload 6 dX10_concludes_65 rfl ?_
        obtain ⟨q13, e14, h⟩ := bd_c h
        refine ev_callVi (av := [.int x1, .int q10.1, .int x5]) dX10_concludes_67 (c_X10_weightOf n x1 q10.1 x5  q10.2 q13 e14) mk_X10_weightOf lk_X10_280 iv_X10_weightOf (Or.inl ⟨10, _, by decide, rfl, by decide, rfl, rfl⟩) rfl (by decide) (by decide) (Nat.le_of_ble_eq_true rfl) rfl ?_
        refine ev_istore (ls' := [(10, .int q13.1), (9, .int q10.1), (0, .ref 80), (1, .int x1), (2, .int x2), (3, .int x3), (4, .int x4), (5, .int x5), (6, .int x6), (7, .int x7), (8, .int x8)]) dX10_concludes_70 (by decide) rfl ?_
        refine ev_iload 0 dX10_concludes_72 rfl ?_
        refine ev_iload 9 dX10_concludes_74 rfl ?_
        refine ev_icmp_le (tgt := 84) dX10_concludes_76 (by decide) (fun c15 => ?_) (fun c15 => ?_)
        · have h := if_t c15 h
          refine ev_iload 8 dX10_concludes_84 rfl ?_
          refine ev_istore (ls' := [(6, .int x6), (10, .int q13.1), (9, .int q10.1), (0, .ref 80), (1, .int x1), (2, .int x2), (3, .int x3), (4, .int x4), (5, .int x5), (7, .int x7), (8, .int x8)]) dX10_concludes_86 (by decide) rfl ?_
          refine ev_iload 1 dX10_concludes_88 rfl ?_
          refine ev_iload 9 dX10_concludes_90 rfl ?_
          refine ev_icmp_le (tgt := 100) dX10_concludes_92 (by decide) (fun _ => ?_) (fun hh => absurd c15 hh)
          refine ev_iload 9 dX10_concludes_100 rfl ?_
          refine ev_istore (ls' := [(7, .int x7), (6, .int x6), (10, .int q13.1), (9, .int q10.1), (0, .ref 80), (1, .int x1), (2, .int x2), (3, .int x3), (4, .int x4), (5, .int x5), (8, .int x8)]) dX10_concludes_102 (by decide) rfl ?_
          refine ev_iinc (v := x8 + 1) (ls' := [(8, .int (x8 + 1)), (7, .int x7), (6, .int x6), (10, .int q13.1), (9, .int q10.1), (0, .ref 80), (1, .int x1), (2, .int x2), (3, .int x3), (4, .int x4), (5, .int x5)]) 10 dX10_concludes_104 rfl rfl (by decide) rfl ?_
          refine ev_goto (tgt := 31) dX10_concludes_107 (by decide) ?_
          refine ev_pick [5, 6, 7, 8, 9, 10, 2, 1, 0] (ls' := [(0, .ref 80), (1, .int x1), (2, .int x2), (3, .int x3), (4, .int x4), (5, .int x5), (6, .int x6), (7, .int x7), (8, .int (x8 + 1))]) rfl ?_
          exact ih x1 x2 x3 x4 x5 x6 x7 (x8 + 1) _ q h
        · have h := if_f c15 h
          refine ev_iload 10 dX10_concludes_79 rfl ?_
          refine ev_goto (tgt := 86) dX10_concludes_81 (by decide) ?_
          refine ev_istore (ls' := [(6, .int x8), (10, .int q13.1), (9, .int q10.1), (0, .ref 80), (1, .int x1), (2, .int x2), (3, .int x3), (4, .int x4), (5, .int x5), (7, .int x7), (8, .int x8)]) dX10_concludes_86 (by decide) rfl ?_
          refine ev_iload 1 dX10_concludes_88 rfl ?_
          refine ev_iload 9 dX10_concludes_90 rfl ?_
          refine ev_icmp_le (tgt := 100) dX10_concludes_92 (by decide) (fun hh => absurd hh c15) (fun _ => ?_)
          refine ev_iload 1 dX10_concludes_95 rfl ?_
          refine ev_goto (tgt := 102) dX10_concludes_97 (by decide) ?_
          refine ev_istore (ls' := [(7, .int q13.1), (6, .int x8), (10, .int q13.1), (9, .int q10.1), (0, .ref 80), (1, .int x1), (2, .int x2), (3, .int x3), (4, .int x4), (5, .int x5), (8, .int x8)]) dX10_concludes_102 (by decide) rfl ?_
          refine ev_iinc (v := x8 + 1) (ls' := [(8, .int (x8 + 1)), (7, .int q13.1), (6, .int x8), (10, .int q13.1), (9, .int q10.1), (0, .ref 80), (1, .int x1), (2, .int x2), (3, .int x3), (4, .int x4), (5, .int x5)]) 10 dX10_concludes_104 rfl rfl (by decide) rfl ?_
          refine ev_goto (tgt := 31) dX10_concludes_107 (by decide) ?_
          refine ev_pick [5, 6, 7, 8, 9, 10, 2, 1, 0] (ls' := [(0, .ref 80), (1, .int x1), (2, .int x2), (3, .int x3), (4, .int x4), (5, .int x5), (6, .int x8), (7, .int q13.1), (8, .int (x8 + 1))]) rfl ?_
          exact ih x1 x2 x3 x4 x5 x8 q13.1 (x8 + 1) _ q h
      · have h := if_t c12 h
        refine ev_iconst (v := -1) dX10_concludes_57 (by decide) ?_
        refine ev_goto (tgt := 70) dX10_concludes_58 (by decide) ?_
        refine ev_istore (ls' := [(10, .int ((-1 : Int32))), (9, .int q10.1), (0, .ref 80), (1, .int x1), (2, .int x2), (3, .int x3), (4, .int x4), (5, .int x5), (6, .int x6), (7, .int x7), (8, .int x8)]) dX10_concludes_70 (by decide) rfl ?_
        refine ev_iload 0 dX10_concludes_72 rfl ?_
        refine ev_iload 9 dX10_concludes_74 rfl ?_
        refine ev_icmp_le (tgt := 84) dX10_concludes_76 (by decide) (fun c16 => ?_) (fun c16 => ?_)
        · have h := if_t c16 h
          refine ev_iload 8 dX10_concludes_84 rfl ?_
          refine ev_istore (ls' := [(6, .int x6), (10, .int ((-1 : Int32))), (9, .int q10.1), (0, .ref 80), (1, .int x1), (2, .int x2), (3, .int x3), (4, .int x4), (5, .int x5), (7, .int x7), (8, .int x8)]) dX10_concludes_86 (by decide) rfl ?_
          refine ev_iload 1 dX10_concludes_88 rfl ?_
          refine ev_iload 9 dX10_concludes_90 rfl ?_
          refine ev_icmp_le (tgt := 100) dX10_concludes_92 (by decide) (fun _ => ?_) (fun hh => absurd c16 hh)
          refine ev_iload 9 dX10_concludes_100 rfl ?_
          refine ev_istore (ls' := [(7, .int x7), (6, .int x6), (10, .int ((-1 : Int32))), (9, .int q10.1), (0, .ref 80), (1, .int x1), (2, .int x2), (3, .int x3), (4, .int x4), (5, .int x5), (8, .int x8)]) dX10_concludes_102 (by decide) rfl ?_
          refine ev_iinc (v := x8 + 1) (ls' := [(8, .int (x8 + 1)), (7, .int x7), (6, .int x6), (10, .int ((-1 : Int32))), (9, .int q10.1), (0, .ref 80), (1, .int x1), (2, .int x2), (3, .int x3), (4, .int x4), (5, .int x5)]) 10 dX10_concludes_104 rfl rfl (by decide) rfl ?_
          refine ev_goto (tgt := 31) dX10_concludes_107 (by decide) ?_
          refine ev_pick [5, 6, 7, 8, 9, 10, 2, 1, 0] (ls' := [(0, .ref 80), (1, .int x1), (2, .int x2), (3, .int x3), (4, .int x4), (5, .int x5), (6, .int x6), (7, .int x7), (8, .int (x8 + 1))]) rfl ?_
          exact ih x1 x2 x3 x4 x5 x6 x7 (x8 + 1) _ q h
        · have h := if_f c16 h
          refine ev_iload 10 dX10_concludes_79 rfl ?_
          refine ev_goto (tgt := 86) dX10_concludes_81 (by decide) ?_
          refine ev_istore (ls' := [(6, .int x8), (10, .int ((-1 : Int32))), (9, .int q10.1), (0, .ref 80), (1, .int x1), (2, .int x2), (3, .int x3), (4, .int x4), (5, .int x5), (7, .int x7), (8, .int x8)]) dX10_concludes_86 (by decide) rfl ?_
          refine ev_iload 1 dX10_concludes_88 rfl ?_
          refine ev_iload 9 dX10_concludes_90 rfl ?_
          refine ev_icmp_le (tgt := 100) dX10_concludes_92 (by decide) (fun hh => absurd hh c16) (fun _ => ?_)
          refine ev_iload 1 dX10_concludes_95 rfl ?_
          refine ev_goto (tgt := 102) dX10_concludes_97 (by decide) ?_
          refine ev_istore (ls' := [(7, .int ((-1 : Int32))), (6, .int x8), (10, .int ((-1 : Int32))), (9, .int q10.1), (0, .ref 80), (1, .int x1), (2, .int x2), (3, .int x3), (4, .int x4), (5, .int x5), (8, .int x8)]) dX10_concludes_102 (by decide) rfl ?_
          refine ev_iinc (v := x8 + 1) (ls' := [(8, .int (x8 + 1)), (7, .int ((-1 : Int32))), (6, .int x8), (10, .int ((-1 : Int32))), (9, .int q10.1), (0, .ref 80), (1, .int x1), (2, .int x2), (3, .int x3), (4, .int x4), (5, .int x5)]) 10 dX10_concludes_104 rfl rfl (by decide) rfl ?_
          refine ev_goto (tgt := 31) dX10_concludes_107 (by decide) ?_
          refine ev_pick [5, 6, 7, 8, 9, 10, 2, 1, 0] (ls' := [(0, .ref 80), (1, .int x1), (2, .int x2), (3, .int x3), (4, .int x4), (5, .int x5), (6, .int x8), (7, .int ((-1 : Int32))), (8, .int (x8 + 1))]) rfl ?_
          exact ih x1 x2 x3 x4 x5 x8 ((-1 : Int32)) (x8 + 1) _ q h
def f_X10_concludes (n : Nat) (x1 : Int32) (x2 : Int32) (x3 : Int32) (x4 : Int32) (x5 : Int32) (A : Mem) : Option (Int32 × Mem) :=
  (f_X10_knows n x1 x2 x4 x5 A).bind fun q1 =>
  if q1.1 = 0 then
    g_X10_concludes_31 n  n x1 x2 x3 x4 x5 ((-1 : Int32)) ((-1 : Int32)) ((0 : Int32)) q1.2
  else
    (f_X10_worldOf n x2 x3 x4 q1.2).bind fun q4 =>
    some (q4.1, q4.2)
set_option maxRecDepth 100000 in
set_option maxHeartbeats 4000000 in
theorem c_X10_concludes (n : Nat) (x1 : Int32) (x2 : Int32) (x3 : Int32) (x4 : Int32) (x5 : Int32) (A : Mem) (q : Int32 × Mem) (h : f_X10_concludes n x1 x2 x3 x4 x5 A = some q) : Ct yX10_concludes cX10_concludes 11 (some .int) 5 [.ref 80, .int x1, .int x2, .int x3, .int x4, .int x5] A (RI q) := by
  unfold f_X10_concludes at h
  refine ct_of (by decide) (Nat.le_of_ble_eq_true rfl) ?_
  show Ev cX10_concludes 11 RX10 (some .int) 5 none 0 [(0, .ref 80), (1, .int x1), (2, .int x2), (3, .int x3), (4, .int x4), (5, .int x5)] [] A (RI q)
  refine ev_aload_n 0 dX10_concludes_0 rfl rfl ?_
  refine ev_iload_n 1 dX10_concludes_1 rfl rfl ?_
  refine ev_iload_n 2 dX10_concludes_2 rfl rfl ?_
  refine ev_iload 4 dX10_concludes_3 rfl ?_
  refine ev_iload 5 dX10_concludes_5 rfl ?_
  obtain ⟨q1, e2, h⟩ := bd_c h
  refine ev_callVi (av := [.int x1, .int x2, .int x4, .int x5]) dX10_concludes_7 (c_X10_knows n x1 x2 x4 x5  A q1 e2) mk_X10_knows lk_X10_269 iv_X10_knows (Or.inl ⟨10, _, by decide, rfl, by decide, rfl, rfl⟩) rfl (by decide) (by decide) (Nat.le_of_ble_eq_true rfl) rfl ?_
  refine ev_if_eq (tgt := 22) dX10_concludes_10 (by decide) (fun c3 => ?_) (fun c3 => ?_)
  · have h := if_t c3 h
    refine ev_iconst (v := -1) dX10_concludes_22 (by decide) ?_
    refine ev_istore (ls' := [(6, .int ((-1 : Int32))), (0, .ref 80), (1, .int x1), (2, .int x2), (3, .int x3), (4, .int x4), (5, .int x5)]) dX10_concludes_23 (by decide) rfl ?_
    refine ev_iconst (v := -1) dX10_concludes_25 (by decide) ?_
    refine ev_istore (ls' := [(7, .int ((-1 : Int32))), (6, .int ((-1 : Int32))), (0, .ref 80), (1, .int x1), (2, .int x2), (3, .int x3), (4, .int x4), (5, .int x5)]) dX10_concludes_26 (by decide) rfl ?_
    refine ev_iconst (v := 0) dX10_concludes_28 (by decide) ?_
    refine ev_istore (ls' := [(8, .int ((0 : Int32))), (7, .int ((-1 : Int32))), (6, .int ((-1 : Int32))), (0, .ref 80), (1, .int x1), (2, .int x2), (3, .int x3), (4, .int x4), (5, .int x5)]) dX10_concludes_29 (by decide) rfl ?_
    refine ev_pick [3, 4, 5, 6, 7, 8, 2, 1, 0] (ls' := [(0, .ref 80), (1, .int x1), (2, .int x2), (3, .int x3), (4, .int x4), (5, .int x5), (6, .int ((-1 : Int32))), (7, .int ((-1 : Int32))), (8, .int ((0 : Int32)))]) rfl ?_
    exact (l_X10_concludes_31 n   n) x1 x2 x3 x4 x5 ((-1 : Int32)) ((-1 : Int32)) ((0 : Int32)) _ q h
  · have h := if_f c3 h
    refine ev_aload_n 0 dX10_concludes_13 rfl rfl ?_
    refine ev_iload_n 2 dX10_concludes_14 rfl rfl ?_
    refine ev_iload_n 3 dX10_concludes_15 rfl rfl ?_
    refine ev_iload 4 dX10_concludes_16 rfl ?_
    obtain ⟨q4, e5, h⟩ := bd_c h
    refine ev_callVi (av := [.int x2, .int x3, .int x4]) dX10_concludes_18 (c_X10_worldOf n x2 x3 x4  q1.2 q4 e5) mk_X10_worldOf lk_X10_151 iv_X10_worldOf (Or.inl ⟨10, _, by decide, rfl, by decide, rfl, rfl⟩) rfl (by decide) (by decide) (Nat.le_of_ble_eq_true rfl) rfl ?_
    cases h
    exact ev_iret dX10_concludes_21 rfl rfl ⟨rfl, rfl⟩
