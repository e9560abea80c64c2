def f_X10_concluded (n : Nat) (x1 : Int32) (x2 : Int32) (x3 : Int32) (x4 : Int32) (x5 : Int32) (A : Mem) : Option (Int32 × Mem) :=
  (f_X10_isReader n x1 A).bind fun q1 =>
  if q1.1 = 0 then
    some ((-2 : Int32), q1.2)
  else
    (f_X10_isPlace n x2 q1.2).bind fun q4 =>
    if q4.1 = 0 then
      some ((-2 : Int32), q4.2)
    else
      (f_X10_isKind n x3 q4.2).bind fun q7 =>
      if q7.1 = 0 then
        some ((-2 : Int32), q7.2)
      else
        (f_X10_isDay n x4 q7.2).bind fun q10 =>
        if q10.1 = 0 then
          some ((-3 : Int32), q10.2)
        else
          (f_X10_isDay n x5 q10.2).bind fun q13 =>
          if q13.1 = 0 then
            some ((-3 : Int32), q13.2)
          else
            (f_X10_concludes n x1 x2 x3 x4 x5 q13.2).bind fun q16 =>
            some (q16.1, q16.2)
set_option maxRecDepth 100000 in
set_option maxHeartbeats 4000000 in
theorem c_X10_concluded (n : Nat) (x1 : Int32) (x2 : Int32) (x3 : Int32) (x4 : Int32) (x5 : Int32) (A : Mem) (q : Int32 × Mem) (h : f_X10_concluded n x1 x2 x3 x4 x5 A = some q) : Ct yX10_concluded cX10_concluded 6 (some .int) 6 [.ref 80, .int x1, .int x2, .int x3, .int x4, .int x5] A (RI q) := by
  unfold f_X10_concluded at h
  refine ct_of (by decide) (Nat.le_of_ble_eq_true rfl) ?_
  show Ev cX10_concluded 6 RX10 (some .int) 6 none 0 [(0, .ref 80), (1, .int x1), (2, .int x2), (3, .int x3), (4, .int x4), (5, .int x5)] [] A (RI q)
  refine ev_iload_n 1 dX10_concluded_0 rfl rfl ?_
  obtain ⟨q1, e2, h⟩ := bd_c h
  refine ev_callSi (av := [.int x1]) dX10_concluded_1 (c_X10_isReader n x1  A q1 e2) mk_X10_isReader lk_X10_215 is_X10_isReader rfl (by decide) (by decide) (Nat.le_of_ble_eq_true rfl) rfl ?_
  refine ev_if_eq (tgt := 21) dX10_concluded_4 (by decide) (fun c3 => ?_) (fun c3 => ?_)
  · have h := if_t c3 h
    refine ev_bipush (v := -2) dX10_concluded_21 (by decide) ?_
    cases h
    exact ev_iret dX10_concluded_23 rfl rfl ⟨rfl, rfl⟩
  · have h := if_f c3 h
    refine ev_iload_n 2 dX10_concluded_7 rfl rfl ?_
    obtain ⟨q4, e5, h⟩ := bd_c h
    refine ev_callSi (av := [.int x2]) dX10_concluded_8 (c_X10_isPlace n x2  q1.2 q4 e5) mk_X10_isPlace lk_X10_133 is_X10_isPlace rfl (by decide) (by decide) (Nat.le_of_ble_eq_true rfl) rfl ?_
    refine ev_if_eq (tgt := 21) dX10_concluded_11 (by decide) (fun c6 => ?_) (fun c6 => ?_)
    · have h := if_t c6 h
      refine ev_bipush (v := -2) dX10_concluded_21 (by decide) ?_
      cases h
      exact ev_iret dX10_concluded_23 rfl rfl ⟨rfl, rfl⟩
    · have h := if_f c6 h
      refine ev_iload_n 3 dX10_concluded_14 rfl rfl ?_
      obtain ⟨q7, e8, h⟩ := bd_c h
      refine ev_callSi (av := [.int x3]) dX10_concluded_15 (c_X10_isKind n x3  q4.2 q7 e8) mk_X10_isKind lk_X10_139 is_X10_isKind rfl (by decide) (by decide) (Nat.le_of_ble_eq_true rfl) rfl ?_
      refine ev_if_ne (tgt := 24) dX10_concluded_18 (by decide) (fun c9 => ?_) (fun c9 => ?_)
      · have h := if_f c9 h
        refine ev_iload 4 dX10_concluded_24 rfl ?_
        obtain ⟨q10, e11, h⟩ := bd_c h
        refine ev_callSi (av := [.int x4]) dX10_concluded_26 (c_X10_isDay n x4  q7.2 q10 e11) mk_X10_isDay lk_X10_142 is_X10_isDay rfl (by decide) (by decide) (Nat.le_of_ble_eq_true rfl) rfl ?_
        refine ev_if_eq (tgt := 54) dX10_concluded_29 (by decide) (fun c12 => ?_) (fun c12 => ?_)
        · have h := if_t c12 h
          refine ev_bipush (v := -3) dX10_concluded_54 (by decide) ?_
          cases h
          exact ev_iret dX10_concluded_56 rfl rfl ⟨rfl, rfl⟩
        · have h := if_f c12 h
          refine ev_iload 5 dX10_concluded_32 rfl ?_
          obtain ⟨q13, e14, h⟩ := bd_c h
          refine ev_callSi (av := [.int x5]) dX10_concluded_34 (c_X10_isDay n x5  q10.2 q13 e14) mk_X10_isDay lk_X10_142 is_X10_isDay rfl (by decide) (by decide) (Nat.le_of_ble_eq_true rfl) rfl ?_
          refine ev_if_eq (tgt := 54) dX10_concluded_37 (by decide) (fun c15 => ?_) (fun c15 => ?_)
          · have h := if_t c15 h
            refine ev_bipush (v := -3) dX10_concluded_54 (by decide) ?_
            cases h
            exact ev_iret dX10_concluded_56 rfl rfl ⟨rfl, rfl⟩
          · have h := if_f c15 h
            refine ev_aload_n 0 dX10_concluded_40 rfl rfl ?_
            refine ev_iload_n 1 dX10_concluded_41 rfl rfl ?_
            refine ev_iload_n 2 dX10_concluded_42 rfl rfl ?_
            refine ev_iload_n 3 dX10_concluded_43 rfl rfl ?_
            refine ev_iload 4 dX10_concluded_44 rfl ?_
            refine ev_iload 5 dX10_concluded_46 rfl ?_
            obtain ⟨q16, e17, h⟩ := bd_c h
            refine ev_callVi (av := [.int x1, .int x2, .int x3, .int x4, .int x5]) dX10_concluded_48 (c_X10_concludes n x1 x2 x3 x4 x5  q13.2 q16 e17) mk_X10_concludes lk_X10_283 iv_X10_concludes (Or.inl ⟨10, _, by decide, rfl, by decide, rfl, rfl⟩) rfl (by decide) (by decide) (Nat.le_of_ble_eq_true rfl) rfl ?_
            refine ev_goto (tgt := 56) dX10_concluded_51 (by decide) ?_
            cases h
            exact ev_iret dX10_concluded_56 rfl rfl ⟨rfl, rfl⟩
      · have h := if_t c9 h
        refine ev_bipush (v := -2) dX10_concluded_21 (by decide) ?_
        cases h
        exact ev_iret dX10_concluded_23 rfl rfl ⟨rfl, rfl⟩
def f_X10_weight (n : Nat) (x1 : Int32) (x2 : Int32) (x3 : Int32) (x4 : Int32) (x5 : Int32) (x6 : Int32) (A : Mem) : Option (Int32 × Mem) :=
  (f_X10_isReader n x1 A).bind fun q1 =>
  if q1.1 = 0 then
    some ((-2 : Int32), q1.2)
  else
    (f_X10_isPlace n x2 q1.2).bind fun q4 =>
    if q4.1 = 0 then
      some ((-2 : Int32), q4.2)
    else
      (f_X10_isKind n x3 q4.2).bind fun q7 =>
      if q7.1 = 0 then
        some ((-2 : Int32), q7.2)
      else
        (f_X10_isDay n x4 q7.2).bind fun q10 =>
        if q10.1 = 0 then
          some ((-3 : Int32), q10.2)
        else
          (f_X10_in n ((x5).toInt64) ((0 : Int64)) ((9 : Int64)) q10.2).bind fun q13 =>
          if q13.1 = 0 then
            some ((-3 : Int32), q13.2)
          else
            (f_X10_isDay n x6 q13.2).bind fun q16 =>
            if q16.1 = 0 then
              some ((-3 : Int32), q16.2)
            else
              (f_X10_tellers n x2 x3 x4 x5 x6 q16.2).bind fun q19 =>
              (f_X10_weightOf n x1 q19.1 x6 q19.2).bind fun q21 =>
              some (q21.1, q21.2)
set_option maxRecDepth 100000 in
set_option maxHeartbeats 4000000 in
theorem c_X10_weight (n : Nat) (x1 : Int32) (x2 : Int32) (x3 : Int32) (x4 : Int32) (x5 : Int32) (x6 : Int32) (A : Mem) (q : Int32 × Mem) (h : f_X10_weight n x1 x2 x3 x4 x5 x6 A = some q) : Ct yX10_weight cX10_weight 7 (some .int) 5 [.ref 80, .int x1, .int x2, .int x3, .int x4, .int x5, .int x6] A (RI q) := by
  unfold f_X10_weight at h
  refine ct_of (by decide) (Nat.le_of_ble_eq_true rfl) ?_
  show Ev cX10_weight 7 RX10 (some .int) 5 none 0 [(0, .ref 80), (1, .int x1), (2, .int x2), (3, .int x3), (4, .int x4), (5, .int x5), (6, .int x6)] [] A (RI q)
  refine ev_iload_n 1 dX10_weight_0 rfl rfl ?_
  obtain ⟨q1, e2, h⟩ := bd_c h
  refine ev_callSi (av := [.int x1]) dX10_weight_1 (c_X10_isReader n x1  A q1 e2) mk_X10_isReader lk_X10_215 is_X10_isReader rfl (by decide) (by decide) (Nat.le_of_ble_eq_true rfl) rfl ?_
  refine ev_if_eq (tgt := 21) dX10_weight_4 (by decide) (fun c3 => ?_) (fun c3 => ?_)
  · have h := if_t c3 h
    refine ev_bipush (v := -2) dX10_weight_21 (by decide) ?_
    cases h
    exact ev_iret dX10_weight_23 rfl rfl ⟨rfl, rfl⟩
  · have h := if_f c3 h
    refine ev_iload_n 2 dX10_weight_7 rfl rfl ?_
    obtain ⟨q4, e5, h⟩ := bd_c h
    refine ev_callSi (av := [.int x2]) dX10_weight_8 (c_X10_isPlace n x2  q1.2 q4 e5) mk_X10_isPlace lk_X10_133 is_X10_isPlace rfl (by decide) (by decide) (Nat.le_of_ble_eq_true rfl) rfl ?_
    refine ev_if_eq (tgt := 21) dX10_weight_11 (by decide) (fun c6 => ?_) (fun c6 => ?_)
    · have h := if_t c6 h
      refine ev_bipush (v := -2) dX10_weight_21 (by decide) ?_
      cases h
      exact ev_iret dX10_weight_23 rfl rfl ⟨rfl, rfl⟩
    · have h := if_f c6 h
      refine ev_iload_n 3 dX10_weight_14 rfl rfl ?_
      obtain ⟨q7, e8, h⟩ := bd_c h
      refine ev_callSi (av := [.int x3]) dX10_weight_15 (c_X10_isKind n x3  q4.2 q7 e8) mk_X10_isKind lk_X10_139 is_X10_isKind rfl (by decide) (by decide) (Nat.le_of_ble_eq_true rfl) rfl ?_
      refine ev_if_ne (tgt := 24) dX10_weight_18 (by decide) (fun c9 => ?_) (fun c9 => ?_)
      · have h := if_f c9 h
        refine ev_iload 4 dX10_weight_24 rfl ?_
        obtain ⟨q10, e11, h⟩ := bd_c h
        refine ev_callSi (av := [.int x4]) dX10_weight_26 (c_X10_isDay n x4  q7.2 q10 e11) mk_X10_isDay lk_X10_142 is_X10_isDay rfl (by decide) (by decide) (Nat.le_of_ble_eq_true rfl) rfl ?_
        refine ev_if_eq (tgt := 75) dX10_weight_29 (by decide) (fun c12 => ?_) (fun c12 => ?_)
        · have h := if_t c12 h
          refine ev_bipush (v := -3) dX10_weight_75 (by decide) ?_
          cases h
          exact ev_iret dX10_weight_77 rfl rfl ⟨rfl, rfl⟩
        · have h := if_f c12 h
          refine ev_iload 5 dX10_weight_32 rfl ?_
          refine ev_i2l dX10_weight_34 ?_
          refine ev_lconst (v := 0) dX10_weight_35 (by decide) ?_
          refine ev_ldc2 dX10_weight_36 kc_X10_145 ?_
          obtain ⟨q13, e14, h⟩ := bd_c h
          refine ev_callSi (av := [.long ((x5).toInt64), .long ((0 : Int64)), .long ((9 : Int64))]) dX10_weight_39 (c_X10_in n ((x5).toInt64) ((0 : Int64)) ((9 : Int64))  q10.2 q13 e14) mk_X10_in lk_X10_121 is_X10_in rfl (by decide) (by decide) (Nat.le_of_ble_eq_true rfl) rfl ?_
          refine ev_if_eq (tgt := 75) dX10_weight_42 (by decide) (fun c15 => ?_) (fun c15 => ?_)
          · have h := if_t c15 h
            refine ev_bipush (v := -3) dX10_weight_75 (by decide) ?_
            cases h
            exact ev_iret dX10_weight_77 rfl rfl ⟨rfl, rfl⟩
          · have h := if_f c15 h
            refine ev_iload 6 dX10_weight_45 rfl ?_
            obtain ⟨q16, e17, h⟩ := bd_c h
            refine ev_callSi (av := [.int x6]) dX10_weight_47 (c_X10_isDay n x6  q13.2 q16 e17) mk_X10_isDay lk_X10_142 is_X10_isDay rfl (by decide) (by decide) (Nat.le_of_ble_eq_true rfl) rfl ?_
            refine ev_if_eq (tgt := 75) dX10_weight_50 (by decide) (fun c18 => ?_) (fun c18 => ?_)
            · have h := if_t c18 h
              refine ev_bipush (v := -3) dX10_weight_75 (by decide) ?_
              cases h
              exact ev_iret dX10_weight_77 rfl rfl ⟨rfl, rfl⟩
            · have h := if_f c18 h
              refine ev_aload_n 0 dX10_weight_53 rfl rfl ?_
              refine ev_iload_n 1 dX10_weight_54 rfl rfl ?_
              refine ev_aload_n 0 dX10_weight_55 rfl rfl ?_
              refine ev_iload_n 2 dX10_weight_56 rfl rfl ?_
              refine ev_iload_n 3 dX10_weight_57 rfl rfl ?_
              refine ev_iload 4 dX10_weight_58 rfl ?_
              refine ev_iload 5 dX10_weight_60 rfl ?_
              refine ev_iload 6 dX10_weight_62 rfl ?_
              obtain ⟨q19, e20, h⟩ := bd_c h
              refine ev_callVi (av := [.int x2, .int x3, .int x4, .int x5, .int x6]) dX10_weight_64 (c_X10_tellers n x2 x3 x4 x5 x6  q16.2 q19 e20) mk_X10_tellers lk_X10_276 iv_X10_tellers (Or.inl ⟨10, _, by decide, rfl, by decide, rfl, rfl⟩) rfl (by decide) (by decide) (Nat.le_of_ble_eq_true rfl) rfl ?_
              refine ev_iload 6 dX10_weight_67 rfl ?_
              obtain ⟨q21, e22, h⟩ := bd_c h
              refine ev_callVi (av := [.int x1, .int q19.1, .int x6]) dX10_weight_69 (c_X10_weightOf n x1 q19.1 x6  q19.2 q21 e22) mk_X10_weightOf lk_X10_280 iv_X10_weightOf (Or.inl ⟨10, _, by decide, rfl, by decide, rfl, rfl⟩) rfl (by decide) (by decide) (Nat.le_of_ble_eq_true rfl) rfl ?_
              refine ev_goto (tgt := 77) dX10_weight_72 (by decide) ?_
              cases h
              exact ev_iret dX10_weight_77 rfl rfl ⟨rfl, rfl⟩
      · have h := if_t c9 h
        refine ev_bipush (v := -2) dX10_weight_21 (by decide) ?_
        cases h
        exact ev_iret dX10_weight_23 rfl rfl ⟨rfl, rfl⟩
def f_X10_story (n : Nat) (x1 : Int32) (x2 : Int32) (x3 : Int32) (x4 : Int32) (A : Mem) : Option (Int32 × Mem) :=
  (f_X10_isPlace n x1 A).bind fun q1 =>
  if q1.1 = 0 then
    some ((-2 : Int32), q1.2)
  else
    (f_X10_isKind n x2 q1.2).bind fun q4 =>
    if q4.1 = 0 then
      some ((-2 : Int32), q4.2)
    else
      (f_X10_isDay n x3 q4.2).bind fun q7 =>
      if q7.1 = 0 then
        some ((-3 : Int32), q7.2)
      else
        (f_X10_in n ((x4).toInt64) ((0 : Int64)) ((9 : Int64)) q7.2).bind fun q10 =>
        if q10.1 = 0 then
          some ((-3 : Int32), q10.2)
        else
          if (q10.2 80 37) = ((4 : Int32)) then
            some ((-5 : Int32), q10.2)
          else
            if ¬ (q10.2 80 37) < 0 ∧ (q10.2 80 37).toNatClampNeg < 4 then
              if ¬ ((st2 q10.2 109 (q10.2 80 37).toNatClampNeg x1) 80 37) < 0 ∧ ((st2 q10.2 109 (q10.2 80 37).toNatClampNeg x1) 80 37).toNatClampNeg < 4 then
                if ¬ ((st2 (st2 q10.2 109 (q10.2 80 37).toNatClampNeg x1) 110 ((st2 q10.2 109 (q10.2 80 37).toNatClampNeg x1) 80 37).toNatClampNeg x2) 80 37) < 0 ∧ ((st2 (st2 q10.2 109 (q10.2 80 37).toNatClampNeg x1) 110 ((st2 q10.2 109 (q10.2 80 37).toNatClampNeg x1) 80 37).toNatClampNeg x2) 80 37).toNatClampNeg < 4 then
                  if ¬ ((st2 (st2 (st2 q10.2 109 (q10.2 80 37).toNatClampNeg x1) 110 ((st2 q10.2 109 (q10.2 80 37).toNatClampNeg x1) 80 37).toNatClampNeg x2) 111 ((st2 (st2 q10.2 109 (q10.2 80 37).toNatClampNeg x1) 110 ((st2 q10.2 109 (q10.2 80 37).toNatClampNeg x1) 80 37).toNatClampNeg x2) 80 37).toNatClampNeg x3) 80 37) < 0 ∧ ((st2 (st2 (st2 q10.2 109 (q10.2 80 37).toNatClampNeg x1) 110 ((st2 q10.2 109 (q10.2 80 37).toNatClampNeg x1) 80 37).toNatClampNeg x2) 111 ((st2 (st2 q10.2 109 (q10.2 80 37).toNatClampNeg x1) 110 ((st2 q10.2 109 (q10.2 80 37).toNatClampNeg x1) 80 37).toNatClampNeg x2) 80 37).toNatClampNeg x3) 80 37).toNatClampNeg < 4 then
                    some ((st2 (st2 (st2 (st2 (st2 q10.2 109 (q10.2 80 37).toNatClampNeg x1) 110 ((st2 q10.2 109 (q10.2 80 37).toNatClampNeg x1) 80 37).toNatClampNeg x2) 111 ((st2 (st2 q10.2 109 (q10.2 80 37).toNatClampNeg x1) 110 ((st2 q10.2 109 (q10.2 80 37).toNatClampNeg x1) 80 37).toNatClampNeg x2) 80 37).toNatClampNeg x3) 112 ((st2 (st2 (st2 q10.2 109 (q10.2 80 37).toNatClampNeg x1) 110 ((st2 q10.2 109 (q10.2 80 37).toNatClampNeg x1) 80 37).toNatClampNeg x2) 111 ((st2 (st2 q10.2 109 (q10.2 80 37).toNatClampNeg x1) 110 ((st2 q10.2 109 (q10.2 80 37).toNatClampNeg x1) 80 37).toNatClampNeg x2) 80 37).toNatClampNeg x3) 80 37).toNatClampNeg x4) 80 37 (((st2 (st2 (st2 (st2 q10.2 109 (q10.2 80 37).toNatClampNeg x1) 110 ((st2 q10.2 109 (q10.2 80 37).toNatClampNeg x1) 80 37).toNatClampNeg x2) 111 ((st2 (st2 q10.2 109 (q10.2 80 37).toNatClampNeg x1) 110 ((st2 q10.2 109 (q10.2 80 37).toNatClampNeg x1) 80 37).toNatClampNeg x2) 80 37).toNatClampNeg x3) 112 ((st2 (st2 (st2 q10.2 109 (q10.2 80 37).toNatClampNeg x1) 110 ((st2 q10.2 109 (q10.2 80 37).toNatClampNeg x1) 80 37).toNatClampNeg x2) 111 ((st2 (st2 q10.2 109 (q10.2 80 37).toNatClampNeg x1) 110 ((st2 q10.2 109 (q10.2 80 37).toNatClampNeg x1) 80 37).toNatClampNeg x2) 80 37).toNatClampNeg x3) 80 37).toNatClampNeg x4) 80 37) + ((1 : Int32)))) 80 37, st2 (st2 (st2 (st2 (st2 q10.2 109 (q10.2 80 37).toNatClampNeg x1) 110 ((st2 q10.2 109 (q10.2 80 37).toNatClampNeg x1) 80 37).toNatClampNeg x2) 111 ((st2 (st2 q10.2 109 (q10.2 80 37).toNatClampNeg x1) 110 ((st2 q10.2 109 (q10.2 80 37).toNatClampNeg x1) 80 37).toNatClampNeg x2) 80 37).toNatClampNeg x3) 112 ((st2 (st2 (st2 q10.2 109 (q10.2 80 37).toNatClampNeg x1) 110 ((st2 q10.2 109 (q10.2 80 37).toNatClampNeg x1) 80 37).toNatClampNeg x2) 111 ((st2 (st2 q10.2 109 (q10.2 80 37).toNatClampNeg x1) 110 ((st2 q10.2 109 (q10.2 80 37).toNatClampNeg x1) 80 37).toNatClampNeg x2) 80 37).toNatClampNeg x3) 80 37).toNatClampNeg x4) 80 37 (((st2 (st2 (st2 (st2 q10.2 109 (q10.2 80 37).toNatClampNeg x1) 110 ((st2 q10.2 109 (q10.2 80 37).toNatClampNeg x1) 80 37).toNatClampNeg x2) 111 ((st2 (st2 q10.2 109 (q10.2 80 37).toNatClampNeg x1) 110 ((st2 q10.2 109 (q10.2 80 37).toNatClampNeg x1) 80 37).toNatClampNeg x2) 80 37).toNatClampNeg x3) 112 ((st2 (st2 (st2 q10.2 109 (q10.2 80 37).toNatClampNeg x1) 110 ((st2 q10.2 109 (q10.2 80 37).toNatClampNeg x1) 80 37).toNatClampNeg x2) 111 ((st2 (st2 q10.2 109 (q10.2 80 37).toNatClampNeg x1) 110 ((st2 q10.2 109 (q10.2 80 37).toNatClampNeg x1) 80 37).toNatClampNeg x2) 80 37).toNatClampNeg x3) 80 37).toNatClampNeg x4) 80 37) + ((1 : Int32))))
                  else
                    none
                else
                  none
              else
                none
            else
              none
set_option maxRecDepth 100000 in
set_option maxHeartbeats 4000000 in
theorem c_X10_story (n : Nat) (x1 : Int32) (x2 : Int32) (x3 : Int32) (x4 : Int32) (A : Mem) (q : Int32 × Mem) (h : f_X10_story n x1 x2 x3 x4 A = some q) : Ct yX10_story cX10_story 5 (some .int) 2 [.ref 80, .int x1, .int x2, .int x3, .int x4] A (RI q) := by
  unfold f_X10_story at h
  refine ct_of (by decide) (Nat.le_of_ble_eq_true rfl) ?_
  show Ev cX10_story 5 RX10 (some .int) 2 none 0 [(0, .ref 80), (1, .int x1), (2, .int x2), (3, .int x3), (4, .int x4)] [] A (RI q)
  refine ev_iload_n 1 dX10_story_0 rfl rfl ?_
  obtain ⟨q1, e2, h⟩ := bd_c h
  refine ev_callSi (av := [.int x1]) dX10_story_1 (c_X10_isPlace n x1  A q1 e2) mk_X10_isPlace lk_X10_133 is_X10_isPlace rfl (by decide) (by decide) (Nat.le_of_ble_eq_true rfl) rfl ?_
  refine ev_if_eq (tgt := 14) dX10_story_4 (by decide) (fun c3 => ?_) (fun c3 => ?_)
  · have h := if_t c3 h
    refine ev_bipush (v := -2) dX10_story_14 (by decide) ?_
    cases h
    exact ev_iret dX10_story_16 rfl rfl ⟨rfl, rfl⟩
  · have h := if_f c3 h
    refine ev_iload_n 2 dX10_story_7 rfl rfl ?_
    obtain ⟨q4, e5, h⟩ := bd_c h
    refine ev_callSi (av := [.int x2]) dX10_story_8 (c_X10_isKind n x2  q1.2 q4 e5) mk_X10_isKind lk_X10_139 is_X10_isKind rfl (by decide) (by decide) (Nat.le_of_ble_eq_true rfl) rfl ?_
    refine ev_if_ne (tgt := 17) dX10_story_11 (by decide) (fun c6 => ?_) (fun c6 => ?_)
    · have h := if_f c6 h
      refine ev_iload_n 3 dX10_story_17 rfl rfl ?_
      obtain ⟨q7, e8, h⟩ := bd_c h
      refine ev_callSi (av := [.int x3]) dX10_story_18 (c_X10_isDay n x3  q4.2 q7 e8) mk_X10_isDay lk_X10_142 is_X10_isDay rfl (by decide) (by decide) (Nat.le_of_ble_eq_true rfl) rfl ?_
      refine ev_if_eq (tgt := 37) dX10_story_21 (by decide) (fun c9 => ?_) (fun c9 => ?_)
      · have h := if_t c9 h
        refine ev_bipush (v := -3) dX10_story_37 (by decide) ?_
        cases h
        exact ev_iret dX10_story_39 rfl rfl ⟨rfl, rfl⟩
      · have h := if_f c9 h
        refine ev_iload 4 dX10_story_24 rfl ?_
        refine ev_i2l dX10_story_26 ?_
        refine ev_lconst (v := 0) dX10_story_27 (by decide) ?_
        refine ev_ldc2 dX10_story_28 kc_X10_145 ?_
        obtain ⟨q10, e11, h⟩ := bd_c h
        refine ev_callSi (av := [.long ((x4).toInt64), .long ((0 : Int64)), .long ((9 : Int64))]) dX10_story_31 (c_X10_in n ((x4).toInt64) ((0 : Int64)) ((9 : Int64))  q7.2 q10 e11) mk_X10_in lk_X10_121 is_X10_in rfl (by decide) (by decide) (Nat.le_of_ble_eq_true rfl) rfl ?_
        refine ev_if_ne (tgt := 40) dX10_story_34 (by decide) (fun c12 => ?_) (fun c12 => ?_)
        · have h := if_f c12 h
          refine ev_aload_n 0 dX10_story_40 rfl rfl ?_
          refine ev_getI dX10_story_41 fl_X10_286 (by decide) rfl (by decide) (by decide) rfl ?_
          refine ev_iconst (v := 4) dX10_story_44 (by decide) ?_
          refine ev_icmp_ne (tgt := 51) dX10_story_45 (by decide) (fun c13 => ?_) (fun c13 => ?_)
          · have h := if_f c13 h
            refine ev_aload_n 0 dX10_story_51 rfl rfl ?_
            refine ev_getR (r := 109) dX10_story_52 fl_X10_95 (by decide) rfl (by decide) (by decide) rfl ?_
            refine ev_aload_n 0 dX10_story_55 rfl rfl ?_
            refine ev_getI dX10_story_56 fl_X10_286 (by decide) rfl (by decide) (by decide) rfl ?_
            refine ev_iload_n 1 dX10_story_59 rfl rfl ?_
            obtain ⟨c14, h⟩ := if_c h
            refine ev_iastc 4 dX10_story_60 (by decide) rfl rfl (by decide) c14 ?_
            refine ev_aload_n 0 dX10_story_61 rfl rfl ?_
            refine ev_getR (r := 110) dX10_story_62 fl_X10_98 (by decide) rfl (by decide) (by decide) rfl ?_
            refine ev_aload_n 0 dX10_story_65 rfl rfl ?_
            refine ev_getI dX10_story_66 fl_X10_286 (by decide) rfl (by decide) (by decide) rfl ?_
            refine ev_iload_n 2 dX10_story_69 rfl rfl ?_
            obtain ⟨c15, h⟩ := if_c h
            refine ev_iastc 4 dX10_story_70 (by decide) rfl rfl (by decide) c15 ?_
            refine ev_aload_n 0 dX10_story_71 rfl rfl ?_
            refine ev_getR (r := 111) dX10_story_72 fl_X10_101 (by decide) rfl (by decide) (by decide) rfl ?_
            refine ev_aload_n 0 dX10_story_75 rfl rfl ?_
            refine ev_getI dX10_story_76 fl_X10_286 (by decide) rfl (by decide) (by decide) rfl ?_
            refine ev_iload_n 3 dX10_story_79 rfl rfl ?_
            obtain ⟨c16, h⟩ := if_c h
            refine ev_iastc 4 dX10_story_80 (by decide) rfl rfl (by decide) c16 ?_
            refine ev_aload_n 0 dX10_story_81 rfl rfl ?_
            refine ev_getR (r := 112) dX10_story_82 fl_X10_104 (by decide) rfl (by decide) (by decide) rfl ?_
            refine ev_aload_n 0 dX10_story_85 rfl rfl ?_
            refine ev_getI dX10_story_86 fl_X10_286 (by decide) rfl (by decide) (by decide) rfl ?_
            refine ev_iload 4 dX10_story_89 rfl ?_
            obtain ⟨c17, h⟩ := if_c h
            refine ev_iastc 4 dX10_story_91 (by decide) rfl rfl (by decide) c17 ?_
            refine ev_aload_n 0 dX10_story_92 rfl rfl ?_
            refine ev_dup dX10_story_93 rfl ?_
            refine ev_getI dX10_story_94 fl_X10_286 (by decide) rfl (by decide) (by decide) rfl ?_
            refine ev_iconst (v := 1) dX10_story_97 (by decide) ?_
            refine ev_iadd dX10_story_98 ?_
            refine ev_put2 dX10_story_99 fl_X10_286 pk_10_37 (by decide) rfl (by decide) (by decide) rfl ?_
            refine ev_aload_n 0 dX10_story_102 rfl rfl ?_
            refine ev_getI dX10_story_103 fl_X10_286 (by decide) rfl (by decide) (by decide) rfl ?_
            cases h
            exact ev_iret dX10_story_106 rfl rfl ⟨rfl, rfl⟩
          · have h := if_t c13 h
            refine ev_bipush (v := -5) dX10_story_48 (by decide) ?_
            cases h
            exact ev_iret dX10_story_50 rfl rfl ⟨rfl, rfl⟩
        · have h := if_t c12 h
          refine ev_bipush (v := -3) dX10_story_37 (by decide) ?_
          cases h
          exact ev_iret dX10_story_39 rfl rfl ⟨rfl, rfl⟩
    · have h := if_t c6 h
      refine ev_bipush (v := -2) dX10_story_14 (by decide) ?_
      cases h
      exact ev_iret dX10_story_16 rfl rfl ⟨rfl, rfl⟩
def g_X10_heldOn_5 (n : Nat) : Nat → Int32 → Int32 → Int32 → Int32 → Mem → Option (Int32 × Mem)
  | 0, _, _, _, _, _ => none
  | m + 1, x1, x2, x3, x4, A =>
    if (A 80 37) ≤ x4 then
      some (x3, A)
    else
      if ¬ x4 < 0 ∧ (x4).toNatClampNeg < 4 then
        (f_X10_concludes n x1 (A 109 (x4).toNatClampNeg) (A 110 (x4).toNatClampNeg) (A 111 (x4).toNatClampNeg) x2 A).bind fun q3 =>
        if q3.1 = (q3.2 112 (x4).toNatClampNeg) then
          g_X10_heldOn_5 n  m x1 x2 (x3 ||| (((1 : Int32)) <<< (x4 &&& 31))) (x4 + 1) q3.2
        else
          g_X10_heldOn_5 n  m x1 x2 (x3 ||| ((0 : Int32))) (x4 + 1) q3.2
      else
        none
set_option maxRecDepth 100000 in
set_option maxHeartbeats 4000000 in
theorem l_X10_heldOn_5 (n : Nat) : ∀ (m : Nat) (x1 : Int32) (x2 : Int32) (x3 : Int32) (x4 : Int32) (A : Mem) (q : Int32 × Mem), g_X10_heldOn_5 n  m x1 x2 x3 x4 A = some q → Ev cX10_heldOn 5 RX10 (some .int) 6 none 5 [(0, .ref 80), (1, .int x1), (2, .int x2), (3, .int x3), (4, .int x4)] [] A (RI q) := by
  intro m
  induction m with
  | zero => intro x1 x2 x3 x4 A q h; exact absurd h (by simp [g_X10_heldOn_5])
  | succ m ih =>
    intro x1 x2 x3 x4 A q h
    rw [g_X10_heldOn_5] at h
    refine ev_iload 4 dX10_heldOn_5 rfl ?_
    refine ev_aload_n 0 dX10_heldOn_7 rfl rfl ?_
    refine ev_getI dX10_heldOn_8 fl_X10_286 (by decide) rfl (by decide) (by decide) rfl ?_
    refine ev_icmp_ge (tgt := 68) dX10_heldOn_11 (by decide) (fun c1 => ?_) (fun c1 => ?_)
    · have h := if_t c1 h
      refine ev_iload_n 3 dX10_heldOn_68 rfl rfl ?_
      cases h
      exact ev_iret dX10_heldOn_69 rfl rfl ⟨rfl, rfl⟩
    · have h := if_f c1 h
      refine ev_iload_n 3 dX10_heldOn_14 rfl rfl ?_
      refine ev_aload_n 0 dX10_heldOn_15 rfl rfl ?_
      refine ev_iload_n 1 dX10_heldOn_16 rfl rfl ?_
      refine ev_aload_n 0 dX10_heldOn_17 rfl rfl ?_
      refine ev_getR (r := 109) dX10_heldOn_18 fl_X10_95 (by decide) rfl (by decide) (by decide) rfl ?_
      refine ev_iload 4 dX10_heldOn_21 rfl ?_
      obtain ⟨c2, h⟩ := if_c h
      refine ev_ialdc 4 dX10_heldOn_23 (by decide) rfl rfl (by decide) c2 ?_
      refine ev_aload_n 0 dX10_heldOn_24 rfl rfl ?_
      refine ev_getR (r := 110) dX10_heldOn_25 fl_X10_98 (by decide) rfl (by decide) (by decide) rfl ?_
      refine ev_iload 4 dX10_heldOn_28 rfl ?_
      refine ev_ialdc 4 dX10_heldOn_30 (by decide) rfl rfl (by decide) c2 ?_
      refine ev_aload_n 0 dX10_heldOn_31 rfl rfl ?_
      refine ev_getR (r := 111) dX10_heldOn_32 fl_X10_101 (by decide) rfl (by decide) (by decide) rfl ?_
      refine ev_iload 4 dX10_heldOn_35 rfl ?_
      refine ev_ialdc 4 dX10_heldOn_37 (by decide) rfl rfl (by decide) c2 ?_
      refine ev_iload_n 2 dX10_heldOn_38 rfl rfl ?_
      obtain ⟨q3, e4, h⟩ := bd_c h
      refine ev_callVi (av := [.int x1, .int (A 109 (x4).toNatClampNeg), .int (A 110 (x4).toNatClampNeg), .int (A 111 (x4).toNatClampNeg), .int x2]) dX10_heldOn_39 (c_X10_concludes n x1 (A 109 (x4).toNatClampNeg) (A 110 (x4).toNatClampNeg) (A 111 (x4).toNatClampNeg) x2  A q3 e4) mk_X10_concludes lk_X10_283 iv_X10_concludes (Or.inl ⟨10, _, by decide, rfl, by decide, rfl, rfl⟩) rfl (by decide) (by decide) (Nat.le_of_ble_eq_true rfl) rfl ?_
      refine ev_aload_n 0 dX10_heldOn_42 rfl rfl ?_
      refine ev_getR (r := 112) dX10_heldOn_43 fl_X10_104 (by decide) rfl (by decide) (by decide) rfl ?_
      refine ev_iload 4 dX10_heldOn_46 rfl ?_
      refine ev_ialdc 4 dX10_heldOn_48 (by decide) rfl rfl (by decide) c2 ?_
      refine ev_icmp_ne (tgt := 59) dX10_heldOn_49 (by decide) (fun c5 => ?_) (fun c5 => ?_)
      · have h := if_f c5 h
        refine ev_iconst (v := 0) dX10_heldOn_59 (by decide) ?_
        refine ev_ior dX10_heldOn_60 ?_
        refine ev_istore_n (ls' := [(3, .int (x3 ||| ((0 : Int32)))), (0, .ref 80), (1, .int x1), (2, .int x2), (4, .int x4)]) dX10_heldOn_61 rfl (by decide) rfl ?_
        refine ev_iinc (v := x4 + 1) (ls' := [(4, .int (x4 + 1)), (3, .int (x3 ||| ((0 : Int32)))), (0, .ref 80), (1, .int x1), (2, .int x2)]) 4 dX10_heldOn_62 rfl rfl (by decide) rfl ?_
        refine ev_goto (tgt := 5) dX10_heldOn_65 (by decide) ?_
        refine ev_pick [2, 3, 4, 1, 0] (ls' := [(0, .ref 80), (1, .int x1), (2, .int x2), (3, .int (x3 ||| ((0 : Int32)))), (4, .int (x4 + 1))]) rfl ?_
        exact ih x1 x2 (x3 ||| ((0 : Int32))) (x4 + 1) _ q h
      · have h := if_t c5 h
        refine ev_iconst (v := 1) dX10_heldOn_52 (by decide) ?_
        refine ev_iload 4 dX10_heldOn_53 rfl ?_
        refine ev_ishl dX10_heldOn_55 ?_
        refine ev_goto (tgt := 60) dX10_heldOn_56 (by decide) ?_
        refine ev_ior dX10_heldOn_60 ?_
        refine ev_istore_n (ls' := [(3, .int (x3 ||| (((1 : Int32)) <<< (x4 &&& 31)))), (0, .ref 80), (1, .int x1), (2, .int x2), (4, .int x4)]) dX10_heldOn_61 rfl (by decide) rfl ?_
        refine ev_iinc (v := x4 + 1) (ls' := [(4, .int (x4 + 1)), (3, .int (x3 ||| (((1 : Int32)) <<< (x4 &&& 31)))), (0, .ref 80), (1, .int x1), (2, .int x2)]) 4 dX10_heldOn_62 rfl rfl (by decide) rfl ?_
        refine ev_goto (tgt := 5) dX10_heldOn_65 (by decide) ?_
        refine ev_pick [2, 3, 4, 1, 0] (ls' := [(0, .ref 80), (1, .int x1), (2, .int x2), (3, .int (x3 ||| (((1 : Int32)) <<< (x4 &&& 31)))), (4, .int (x4 + 1))]) rfl ?_
        exact ih x1 x2 (x3 ||| (((1 : Int32)) <<< (x4 &&& 31))) (x4 + 1) _ q h
def f_X10_heldOn (n : Nat) (x1 : Int32) (x2 : Int32) (A : Mem) : Option (Int32 × Mem) :=
  g_X10_heldOn_5 n  n x1 x2 ((0 : Int32)) ((0 : Int32)) A
set_option maxRecDepth 100000 in
set_option maxHeartbeats 4000000 in
theorem c_X10_heldOn (n : Nat) (x1 : Int32) (x2 : Int32) (A : Mem) (q : Int32 × Mem) (h : f_X10_heldOn n x1 x2 A = some q) : Ct yX10_heldOn cX10_heldOn 5 (some .int) 6 [.ref 80, .int x1, .int x2] A (RI q) := by
  unfold f_X10_heldOn at h
  refine ct_of (by decide) (Nat.le_of_ble_eq_true rfl) ?_
  show Ev cX10_heldOn 5 RX10 (some .int) 6 none 0 [(0, .ref 80), (1, .int x1), (2, .int x2)] [] A (RI q)
  refine ev_iconst (v := 0) dX10_heldOn_0 (by decide) ?_
  refine ev_istore_n (ls' := [(3, .int ((0 : Int32))), (0, .ref 80), (1, .int x1), (2, .int x2)]) dX10_heldOn_1 rfl (by decide) rfl ?_
  refine ev_iconst (v := 0) dX10_heldOn_2 (by decide) ?_
  refine ev_istore (ls' := [(4, .int ((0 : Int32))), (3, .int ((0 : Int32))), (0, .ref 80), (1, .int x1), (2, .int x2)]) dX10_heldOn_3 (by decide) rfl ?_
  refine ev_pick [2, 3, 4, 1, 0] (ls' := [(0, .ref 80), (1, .int x1), (2, .int x2), (3, .int ((0 : Int32))), (4, .int ((0 : Int32)))]) rfl ?_
  exact (l_X10_heldOn_5 n   n) x1 x2 ((0 : Int32)) ((0 : Int32)) _ q h
def f_X10_holds (n : Nat) (x1 : Int32) (x2 : Int32) (A : Mem) : Option (Int32 × Mem) :=
  (f_X10_isReader n x1 A).bind fun q1 =>
  if q1.1 = 0 then
    some ((-2 : Int32), q1.2)
  else
    (f_X10_isDay n x2 q1.2).bind fun q4 =>
    if q4.1 = 0 then
      some ((-3 : Int32), q4.2)
    else
      (f_X10_heldOn n x1 x2 q4.2).bind fun q7 =>
      some (q7.1, q7.2)
set_option maxRecDepth 100000 in
set_option maxHeartbeats 4000000 in
theorem c_X10_holds (n : Nat) (x1 : Int32) (x2 : Int32) (A : Mem) (q : Int32 × Mem) (h : f_X10_holds n x1 x2 A = some q) : Ct yX10_holds cX10_holds 3 (some .int) 7 [.ref 80, .int x1, .int x2] A (RI q) := by
  unfold f_X10_holds at h
  refine ct_of (by decide) (Nat.le_of_ble_eq_true rfl) ?_
  show Ev cX10_holds 3 RX10 (some .int) 7 none 0 [(0, .ref 80), (1, .int x1), (2, .int x2)] [] A (RI q)
  refine ev_iload_n 1 dX10_holds_0 rfl rfl ?_
  obtain ⟨q1, e2, h⟩ := bd_c h
  refine ev_callSi (av := [.int x1]) dX10_holds_1 (c_X10_isReader n x1  A q1 e2) mk_X10_isReader lk_X10_215 is_X10_isReader rfl (by decide) (by decide) (Nat.le_of_ble_eq_true rfl) rfl ?_
  refine ev_if_ne (tgt := 10) dX10_holds_4 (by decide) (fun c3 => ?_) (fun c3 => ?_)
  · have h := if_f c3 h
    refine ev_iload_n 2 dX10_holds_10 rfl rfl ?_
    obtain ⟨q4, e5, h⟩ := bd_c h
    refine ev_callSi (av := [.int x2]) dX10_holds_11 (c_X10_isDay n x2  q1.2 q4 e5) mk_X10_isDay lk_X10_142 is_X10_isDay rfl (by decide) (by decide) (Nat.le_of_ble_eq_true rfl) rfl ?_
    refine ev_if_eq (tgt := 26) dX10_holds_14 (by decide) (fun c6 => ?_) (fun c6 => ?_)
    · have h := if_t c6 h
      refine ev_bipush (v := -3) dX10_holds_26 (by decide) ?_
      cases h
      exact ev_iret dX10_holds_28 rfl rfl ⟨rfl, rfl⟩
    · have h := if_f c6 h
      refine ev_aload_n 0 dX10_holds_17 rfl rfl ?_
      refine ev_iload_n 1 dX10_holds_18 rfl rfl ?_
      refine ev_iload_n 2 dX10_holds_19 rfl rfl ?_
      obtain ⟨q7, e8, h⟩ := bd_c h
      refine ev_callVi (av := [.int x1, .int x2]) dX10_holds_20 (c_X10_heldOn n x1 x2  q4.2 q7 e8) mk_X10_heldOn lk_X10_289 iv_X10_heldOn (Or.inl ⟨10, _, by decide, rfl, by decide, rfl, rfl⟩) rfl (by decide) (by decide) (Nat.le_of_ble_eq_true rfl) rfl ?_
      refine ev_goto (tgt := 28) dX10_holds_23 (by decide) ?_
      cases h
      exact ev_iret dX10_holds_28 rfl rfl ⟨rfl, rfl⟩
  · have h := if_t c3 h
    refine ev_bipush (v := -2) dX10_holds_7 (by decide) ?_
    cases h
    exact ev_iret dX10_holds_9 rfl rfl ⟨rfl, rfl⟩
def f_X10_isHeld (n : Nat) (x1 : Int32) (x2 : Int32) (A : Mem) : Option (Int32 × Mem) :=
  (f_X10_heldOn n x1 x2 A).bind fun q1 =>
  if q1.1 = ((((1 : Int32)) <<< ((q1.2 80 37) &&& 31)) - ((1 : Int32))) then
    some ((1 : Int32), q1.2)
  else
    some ((0 : Int32), q1.2)
set_option maxRecDepth 100000 in
set_option maxHeartbeats 4000000 in
theorem c_X10_isHeld (n : Nat) (x1 : Int32) (x2 : Int32) (A : Mem) (q : Int32 × Mem) (h : f_X10_isHeld n x1 x2 A = some q) : Ct yX10_isHeld cX10_isHeld 3 (some .boolean) 7 [.ref 80, .int x1, .int x2] A (RI q) := by
  unfold f_X10_isHeld at h
  refine ct_of (by decide) (Nat.le_of_ble_eq_true rfl) ?_
  show Ev cX10_isHeld 3 RX10 (some .boolean) 7 none 0 [(0, .ref 80), (1, .int x1), (2, .int x2)] [] A (RI q)
  refine ev_aload_n 0 dX10_isHeld_0 rfl rfl ?_
  refine ev_iload_n 1 dX10_isHeld_1 rfl rfl ?_
  refine ev_iload_n 2 dX10_isHeld_2 rfl rfl ?_
  obtain ⟨q1, e2, h⟩ := bd_c h
  refine ev_callVi (av := [.int x1, .int x2]) dX10_isHeld_3 (c_X10_heldOn n x1 x2  A q1 e2) mk_X10_heldOn lk_X10_289 iv_X10_heldOn (Or.inl ⟨10, _, by decide, rfl, by decide, rfl, rfl⟩) rfl (by decide) (by decide) (Nat.le_of_ble_eq_true rfl) rfl ?_
  refine ev_iconst (v := 1) dX10_isHeld_6 (by decide) ?_
  refine ev_aload_n 0 dX10_isHeld_7 rfl rfl ?_
  refine ev_getI dX10_isHeld_8 fl_X10_286 (by decide) rfl (by decide) (by decide) rfl ?_
  refine ev_ishl dX10_isHeld_11 ?_
  refine ev_iconst (v := 1) dX10_isHeld_12 (by decide) ?_
  refine ev_isub dX10_isHeld_13 ?_
  refine ev_icmp_ne (tgt := 21) dX10_isHeld_14 (by decide) (fun c3 => ?_) (fun c3 => ?_)
  · have h := if_f c3 h
    refine ev_iconst (v := 0) dX10_isHeld_21 (by decide) ?_
    cases h
    exact ev_iret dX10_isHeld_22 rfl rfl ⟨rfl, rfl⟩
  · have h := if_t c3 h
    refine ev_iconst (v := 1) dX10_isHeld_17 (by decide) ?_
    refine ev_goto (tgt := 22) dX10_isHeld_18 (by decide) ?_
    cases h
    exact ev_iret dX10_isHeld_22 rfl rfl ⟨rfl, rfl⟩
def g_X10_keeps_22 (n : Nat) : Nat → Int32 → Int32 → Int32 → Mem → Option (Int32 × Mem)
  | 0, _, _, _, _ => none
  | m + 1, x1, x2, x3, A =>
    if ((60 : Int32)) < (x2 + x3) then
      some (x3, A)
    else
      (f_X10_isHeld n x1 (x2 + x3) A).bind fun q8 =>
      if q8.1 = 0 then
        some (x3, q8.2)
      else
        g_X10_keeps_22 n  m x1 x2 (x3 + 1) q8.2
set_option maxRecDepth 100000 in
set_option maxHeartbeats 4000000 in
theorem l_X10_keeps_22 (n : Nat) : ∀ (m : Nat) (x1 : Int32) (x2 : Int32) (x3 : Int32) (A : Mem) (q : Int32 × Mem), g_X10_keeps_22 n  m x1 x2 x3 A = some q → Ev cX10_keeps 4 RX10 (some .int) 8 none 22 [(0, .ref 80), (1, .int x1), (2, .int x2), (3, .int x3)] [] A (RI q) := by
  intro m
  induction m with
  | zero => intro x1 x2 x3 A q h; exact absurd h (by simp [g_X10_keeps_22])
  | succ m ih =>
    intro x1 x2 x3 A q h
    rw [g_X10_keeps_22] at h
    refine ev_iload_n 2 dX10_keeps_22 rfl rfl ?_
    refine ev_iload_n 3 dX10_keeps_23 rfl rfl ?_
    refine ev_iadd dX10_keeps_24 ?_
    refine ev_bipush (v := 60) dX10_keeps_25 (by decide) ?_
    refine ev_icmp_gt (tgt := 47) dX10_keeps_27 (by decide) (fun c7 => ?_) (fun c7 => ?_)
    · have h := if_t c7 h
      refine ev_iload_n 3 dX10_keeps_47 rfl rfl ?_
      cases h
      exact ev_iret dX10_keeps_48 rfl rfl ⟨rfl, rfl⟩
    · have h := if_f c7 h
      refine ev_aload_n 0 dX10_keeps_30 rfl rfl ?_
      refine ev_iload_n 1 dX10_keeps_31 rfl rfl ?_
      refine ev_iload_n 2 dX10_keeps_32 rfl rfl ?_
      refine ev_iload_n 3 dX10_keeps_33 rfl rfl ?_
      refine ev_iadd dX10_keeps_34 ?_
      obtain ⟨q8, e9, h⟩ := bd_c h
      refine ev_callVi (av := [.int x1, .int (x2 + x3)]) dX10_keeps_35 (c_X10_isHeld n x1 (x2 + x3)  A q8 e9) mk_X10_isHeld lk_X10_292 iv_X10_isHeld (Or.inl ⟨10, _, by decide, rfl, by decide, rfl, rfl⟩) rfl (by decide) (by decide) (Nat.le_of_ble_eq_true rfl) rfl ?_
      refine ev_if_eq (tgt := 47) dX10_keeps_38 (by decide) (fun c10 => ?_) (fun c10 => ?_)
      · have h := if_t c10 h
        refine ev_iload_n 3 dX10_keeps_47 rfl rfl ?_
        cases h
        exact ev_iret dX10_keeps_48 rfl rfl ⟨rfl, rfl⟩
      · have h := if_f c10 h
        refine ev_iinc (v := x3 + 1) (ls' := [(3, .int (x3 + 1)), (0, .ref 80), (1, .int x1), (2, .int x2)]) 3 dX10_keeps_41 rfl rfl (by decide) rfl ?_
        refine ev_goto (tgt := 22) dX10_keeps_44 (by decide) ?_
        refine ev_pick [1, 2, 3, 0] (ls' := [(0, .ref 80), (1, .int x1), (2, .int x2), (3, .int (x3 + 1))]) rfl ?_
        exact ih x1 x2 (x3 + 1) _ q h
def f_X10_keeps (n : Nat) (x1 : Int32) (x2 : Int32) (A : Mem) : Option (Int32 × Mem) :=
  (f_X10_isReader n x1 A).bind fun q1 =>
  if q1.1 = 0 then
    some ((-2 : Int32), q1.2)
  else
    (f_X10_isDay n x2 q1.2).bind fun q4 =>
    if q4.1 = 0 then
      some ((-3 : Int32), q4.2)
    else
      g_X10_keeps_22 n  n x1 x2 ((0 : Int32)) q4.2
set_option maxRecDepth 100000 in
set_option maxHeartbeats 4000000 in
theorem c_X10_keeps (n : Nat) (x1 : Int32) (x2 : Int32) (A : Mem) (q : Int32 × Mem) (h : f_X10_keeps n x1 x2 A = some q) : Ct yX10_keeps cX10_keeps 4 (some .int) 8 [.ref 80, .int x1, .int x2] A (RI q) := by
  unfold f_X10_keeps at h
  refine ct_of (by decide) (Nat.le_of_ble_eq_true rfl) ?_
  show Ev cX10_keeps 4 RX10 (some .int) 8 none 0 [(0, .ref 80), (1, .int x1), (2, .int x2)] [] A (RI q)
  refine ev_iload_n 1 dX10_keeps_0 rfl rfl ?_
  obtain ⟨q1, e2, h⟩ := bd_c h
  refine ev_callSi (av := [.int x1]) dX10_keeps_1 (c_X10_isReader n x1  A q1 e2) mk_X10_isReader lk_X10_215 is_X10_isReader rfl (by decide) (by decide) (Nat.le_of_ble_eq_true rfl) rfl ?_
  refine ev_if_ne (tgt := 10) dX10_keeps_4 (by decide) (fun c3 => ?_) (fun c3 => ?_)
  · have h := if_f c3 h
    refine ev_iload_n 2 dX10_keeps_10 rfl rfl ?_
    obtain ⟨q4, e5, h⟩ := bd_c h
    refine ev_callSi (av := [.int x2]) dX10_keeps_11 (c_X10_isDay n x2  q1.2 q4 e5) mk_X10_isDay lk_X10_142 is_X10_isDay rfl (by decide) (by decide) (Nat.le_of_ble_eq_true rfl) rfl ?_
    refine ev_if_ne (tgt := 20) dX10_keeps_14 (by decide) (fun c6 => ?_) (fun c6 => ?_)
    · have h := if_f c6 h
      refine ev_iconst (v := 0) dX10_keeps_20 (by decide) ?_
      refine ev_istore_n (ls' := [(3, .int ((0 : Int32))), (0, .ref 80), (1, .int x1), (2, .int x2)]) dX10_keeps_21 rfl (by decide) rfl ?_
      refine ev_pick [1, 2, 3, 0] (ls' := [(0, .ref 80), (1, .int x1), (2, .int x2), (3, .int ((0 : Int32)))]) rfl ?_
      exact (l_X10_keeps_22 n   n) x1 x2 ((0 : Int32)) _ q h
    · have h := if_t c6 h
      refine ev_bipush (v := -3) dX10_keeps_17 (by decide) ?_
      cases h
      exact ev_iret dX10_keeps_19 rfl rfl ⟨rfl, rfl⟩
  · have h := if_t c3 h
    refine ev_bipush (v := -2) dX10_keeps_7 (by decide) ?_
    cases h
    exact ev_iret dX10_keeps_9 rfl rfl ⟨rfl, rfl⟩
def f_X10_draft (n : Nat) (x1 : Int32) (x2 : Int32) (x3 : Int32) (x4 : Int32) (x5 : Int32) (x6 : Int32) (x7 : Int32) (A : Mem) : Option (Int32 × Mem) :=
  (f_X10_refuses n x1 x2 x3 x4 x5 x6 x7 A).bind fun q1 =>
  if q1.1 = 0 then
    if (q1.2 80 26) = ((10 : Int32)) then
      some ((-5 : Int32), q1.2)
    else
      (f_X10_lay n (((24 : Int32)) + (q1.2 80 26)) x1 x2 x3 x4 x5 x6 x7 q1.2).bind fun q5 =>
      some (((st2 q5.2 80 26 ((q5.2 80 26) + ((1 : Int32)))) 80 26) - ((1 : Int32)), st2 q5.2 80 26 ((q5.2 80 26) + ((1 : Int32))))
  else
    some (q1.1, q1.2)
set_option maxRecDepth 100000 in
set_option maxHeartbeats 4000000 in
theorem c_X10_draft (n : Nat) (x1 : Int32) (x2 : Int32) (x3 : Int32) (x4 : Int32) (x5 : Int32) (x6 : Int32) (x7 : Int32) (A : Mem) (q : Int32 × Mem) (h : f_X10_draft n x1 x2 x3 x4 x5 x6 x7 A = some q) : Ct yX10_draft cX10_draft 9 (some .int) 3 [.ref 80, .int x1, .int x2, .int x3, .int x4, .int x5, .int x6, .int x7] A (RI q) := by
  unfold f_X10_draft at h
  refine ct_of (by decide) (Nat.le_of_ble_eq_true rfl) ?_
  show Ev cX10_draft 9 RX10 (some .int) 3 none 0 [(0, .ref 80), (1, .int x1), (2, .int x2), (3, .int x3), (4, .int x4), (5, .int x5), (6, .int x6), (7, .int x7)] [] A (RI q)
  refine ev_aload_n 0 dX10_draft_0 rfl rfl ?_
  refine ev_iload_n 1 dX10_draft_1 rfl rfl ?_
  refine ev_iload_n 2 dX10_draft_2 rfl rfl ?_
  refine ev_iload_n 3 dX10_draft_3 rfl rfl ?_
  refine ev_iload 4 dX10_draft_4 rfl ?_
  refine ev_iload 5 dX10_draft_6 rfl ?_
  refine ev_iload 6 dX10_draft_8 rfl ?_
  refine ev_iload 7 dX10_draft_10 rfl ?_
  obtain ⟨q1, e2, h⟩ := bd_c h
  refine ev_callVi (av := [.int x1, .int x2, .int x3, .int x4, .int x5, .int x6, .int x7]) dX10_draft_12 (c_X10_refuses n x1 x2 x3 x4 x5 x6 x7  A q1 e2) mk_X10_refuses lk_X10_227 iv_X10_refuses (Or.inl ⟨10, _, by decide, rfl, by decide, rfl, rfl⟩) rfl (by decide) (by decide) (Nat.le_of_ble_eq_true rfl) rfl ?_
  refine ev_istore (ls' := [(8, .int q1.1), (0, .ref 80), (1, .int x1), (2, .int x2), (3, .int x3), (4, .int x4), (5, .int x5), (6, .int x6), (7, .int x7)]) dX10_draft_15 (by decide) rfl ?_
  refine ev_iload 0 dX10_draft_17 rfl ?_
  refine ev_if_ne (tgt := 31) dX10_draft_19 (by decide) (fun c3 => ?_) (fun c3 => ?_)
  · have h := if_f c3 h
    refine ev_iload 0 dX10_draft_31 rfl ?_
    refine ev_if_eq (tgt := 41) dX10_draft_33 (by decide) (fun hh => absurd hh c3) (fun _ => ?_)
    refine ev_iload 0 dX10_draft_36 rfl ?_
    refine ev_goto (tgt := 43) dX10_draft_38 (by decide) ?_
    cases h
    exact ev_iret dX10_draft_43 rfl rfl ⟨rfl, rfl⟩
  · have h := if_t c3 h
    refine ev_aload_n 1 dX10_draft_22 rfl rfl ?_
    refine ev_getI dX10_draft_23 fl_X10_263 (by decide) rfl (by decide) (by decide) rfl ?_
    refine ev_bipush (v := 10) dX10_draft_26 (by decide) ?_
    refine ev_icmp_ne (tgt := 44) dX10_draft_28 (by decide) (fun c4 => ?_) (fun c4 => ?_)
    · have h := if_f c4 h
      refine ev_aload_n 1 dX10_draft_44 rfl rfl ?_
      refine ev_bipush (v := 24) dX10_draft_45 (by decide) ?_
      refine ev_aload_n 1 dX10_draft_47 rfl rfl ?_
      refine ev_getI dX10_draft_48 fl_X10_263 (by decide) rfl (by decide) (by decide) rfl ?_
      refine ev_iadd dX10_draft_51 ?_
      refine ev_iload_n 2 dX10_draft_52 rfl rfl ?_
      refine ev_iload_n 3 dX10_draft_53 rfl rfl ?_
      refine ev_iload_n 4 dX10_draft_54 rfl rfl ?_
      refine ev_iload 5 dX10_draft_55 rfl ?_
      refine ev_iload 6 dX10_draft_57 rfl ?_
      refine ev_iload 7 dX10_draft_59 rfl ?_
      refine ev_iload 8 dX10_draft_61 rfl ?_
      obtain ⟨q5, e6, h⟩ := bd_c h
      refine ev_callVv (av := [.int (((24 : Int32)) + (q1.2 80 26)), .int x1, .int x2, .int x3, .int x4, .int x5, .int x6, .int x7]) dX10_draft_63 (c_X10_lay n (((24 : Int32)) + (q1.2 80 26)) x1 x2 x3 x4 x5 x6 x7  q1.2 q5 e6) mk_X10_lay lk_X10_234 iv_X10_lay (Or.inl ⟨10, _, by decide, rfl, by decide, rfl, rfl⟩) rfl (by decide) (by decide) (Nat.le_of_ble_eq_true rfl) rfl ?_
      refine ev_aload_n 1 dX10_draft_66 rfl rfl ?_
      refine ev_dup dX10_draft_67 rfl ?_
      refine ev_getI dX10_draft_68 fl_X10_263 (by decide) rfl (by decide) (by decide) rfl ?_
      refine ev_iconst (v := 1) dX10_draft_71 (by decide) ?_
      refine ev_iadd dX10_draft_72 ?_
      refine ev_put2 dX10_draft_73 fl_X10_263 pk_10_26 (by decide) rfl (by decide) (by decide) rfl ?_
      refine ev_aload_n 1 dX10_draft_76 rfl rfl ?_
      refine ev_getI dX10_draft_77 fl_X10_263 (by decide) rfl (by decide) (by decide) rfl ?_
      refine ev_iconst (v := 1) dX10_draft_80 (by decide) ?_
      refine ev_isub dX10_draft_81 ?_
      cases h
      exact ev_iret dX10_draft_82 rfl rfl ⟨rfl, rfl⟩
    · have h := if_t c4 h
      refine ev_iload 0 dX10_draft_31 rfl ?_
      refine ev_if_eq (tgt := 41) dX10_draft_33 (by decide) (fun _ => ?_) (fun hh => absurd c3 hh)
      refine ev_bipush (v := -5) dX10_draft_41 (by decide) ?_
      cases h
      exact ev_iret dX10_draft_43 rfl rfl ⟨rfl, rfl⟩
def f_X10_mark (n : Nat) (x1 : Int32) (x2 : Int32) (x3 : Int32) (A : Mem) : Option (Int32 × Mem) :=
  (f_X10_in n ((x1).toInt64) ((0 : Int64)) (((A 80 26) - ((1 : Int32))).toInt64) A).bind fun q1 =>
  if q1.1 = 0 then
    some ((-2 : Int32), q1.2)
  else
    (f_X10_in n ((x2).toInt64) ((0 : Int64)) ((1 : Int64)) q1.2).bind fun q4 =>
    if q4.1 = 0 then
      some ((-3 : Int32), q4.2)
    else
      (f_X10_in n ((x3).toInt64) ((0 : Int64)) ((99 : Int64)) q4.2).bind fun q7 =>
      if q7.1 = 0 then
        some ((-3 : Int32), q7.2)
      else
        if x2 = 0 then
          if ¬ x1 < 0 ∧ (x1).toNatClampNeg < 10 then
            if x2 = ((1 : Int32)) then
              some (q7.2 103 (x1).toNatClampNeg, st2 (st2 q7.2 103 (x1).toNatClampNeg x3) 104 (x1).toNatClampNeg x3)
            else
              some (q7.2 103 (x1).toNatClampNeg, st2 (st2 q7.2 103 (x1).toNatClampNeg x3) 104 (x1).toNatClampNeg ((st2 q7.2 103 (x1).toNatClampNeg x3) 104 (x1).toNatClampNeg))
          else
            none
        else
          if ¬ x1 < 0 ∧ (x1).toNatClampNeg < 10 then
            if x2 = ((1 : Int32)) then
              some (q7.2 104 (x1).toNatClampNeg, st2 (st2 q7.2 103 (x1).toNatClampNeg (q7.2 103 (x1).toNatClampNeg)) 104 (x1).toNatClampNeg x3)
            else
              some (q7.2 104 (x1).toNatClampNeg, st2 (st2 q7.2 103 (x1).toNatClampNeg (q7.2 103 (x1).toNatClampNeg)) 104 (x1).toNatClampNeg ((st2 q7.2 103 (x1).toNatClampNeg (q7.2 103 (x1).toNatClampNeg)) 104 (x1).toNatClampNeg))
          else
            none
set_option maxRecDepth 100000 in
set_option maxHeartbeats 4000000 in
theorem c_X10_mark (n : Nat) (x1 : Int32) (x2 : Int32) (x3 : Int32) (A : Mem) (q : Int32 × Mem) (h : f_X10_mark n x1 x2 x3 A = some q) : Ct yX10_mark cX10_mark 5 (some .int) 1 [.ref 80, .int x1, .int x2, .int x3] A (RI q) := by
  unfold f_X10_mark at h
  refine ct_of (by decide) (Nat.le_of_ble_eq_true rfl) ?_
  show Ev cX10_mark 5 RX10 (some .int) 1 none 0 [(0, .ref 80), (1, .int x1), (2, .int x2), (3, .int x3)] [] A (RI q)
  refine ev_iload_n 1 dX10_mark_0 rfl rfl ?_
  refine ev_i2l dX10_mark_1 ?_
  refine ev_lconst (v := 0) dX10_mark_2 (by decide) ?_
  refine ev_aload_n 0 dX10_mark_3 rfl rfl ?_
  refine ev_getI dX10_mark_4 fl_X10_263 (by decide) rfl (by decide) (by decide) rfl ?_
  refine ev_iconst (v := 1) dX10_mark_7 (by decide) ?_
  refine ev_isub dX10_mark_8 ?_
  refine ev_i2l dX10_mark_9 ?_
  obtain ⟨q1, e2, h⟩ := bd_c h
  refine ev_callSi (av := [.long ((x1).toInt64), .long ((0 : Int64)), .long (((A 80 26) - ((1 : Int32))).toInt64)]) dX10_mark_10 (c_X10_in n ((x1).toInt64) ((0 : Int64)) (((A 80 26) - ((1 : Int32))).toInt64)  A q1 e2) mk_X10_in lk_X10_121 is_X10_in rfl (by decide) (by decide) (Nat.le_of_ble_eq_true rfl) rfl ?_
  refine ev_if_ne (tgt := 19) dX10_mark_13 (by decide) (fun c3 => ?_) (fun c3 => ?_)
  · have h := if_f c3 h
    refine ev_iload_n 2 dX10_mark_19 rfl rfl ?_
    refine ev_i2l dX10_mark_20 ?_
    refine ev_lconst (v := 0) dX10_mark_21 (by decide) ?_
    refine ev_lconst (v := 1) dX10_mark_22 (by decide) ?_
    obtain ⟨q4, e5, h⟩ := bd_c h
    refine ev_callSi (av := [.long ((x2).toInt64), .long ((0 : Int64)), .long ((1 : Int64))]) dX10_mark_23 (c_X10_in n ((x2).toInt64) ((0 : Int64)) ((1 : Int64))  q1.2 q4 e5) mk_X10_in lk_X10_121 is_X10_in rfl (by decide) (by decide) (Nat.le_of_ble_eq_true rfl) rfl ?_
    refine ev_if_eq (tgt := 41) dX10_mark_26 (by decide) (fun c6 => ?_) (fun c6 => ?_)
    · have h := if_t c6 h
      refine ev_bipush (v := -3) dX10_mark_41 (by decide) ?_
      cases h
      exact ev_iret dX10_mark_43 rfl rfl ⟨rfl, rfl⟩
    · have h := if_f c6 h
      refine ev_iload_n 3 dX10_mark_29 rfl rfl ?_
      refine ev_i2l dX10_mark_30 ?_
      refine ev_lconst (v := 0) dX10_mark_31 (by decide) ?_
      refine ev_ldc2 dX10_mark_32 kc_X10_295 ?_
      obtain ⟨q7, e8, h⟩ := bd_c h
      refine ev_callSi (av := [.long ((x3).toInt64), .long ((0 : Int64)), .long ((99 : Int64))]) dX10_mark_35 (c_X10_in n ((x3).toInt64) ((0 : Int64)) ((99 : Int64))  q4.2 q7 e8) mk_X10_in lk_X10_121 is_X10_in rfl (by decide) (by decide) (Nat.le_of_ble_eq_true rfl) rfl ?_
      refine ev_if_ne (tgt := 44) dX10_mark_38 (by decide) (fun c9 => ?_) (fun c9 => ?_)
      · have h := if_f c9 h
        refine ev_iload_n 2 dX10_mark_44 rfl rfl ?_
        refine ev_if_ne (tgt := 57) dX10_mark_45 (by decide) (fun c10 => ?_) (fun c10 => ?_)
        · have h := if_f c10 h
          refine ev_aload_n 0 dX10_mark_57 rfl rfl ?_
          refine ev_getR (r := 104) dX10_mark_58 fl_X10_80 (by decide) rfl (by decide) (by decide) rfl ?_
          refine ev_iload_n 1 dX10_mark_61 rfl rfl ?_
          obtain ⟨c11, h⟩ := if_c h
          refine ev_ialdc 10 dX10_mark_62 (by decide) rfl rfl (by decide) c11 ?_
          refine ev_istore (ls' := [(4, .int (q7.2 104 (x1).toNatClampNeg)), (0, .ref 80), (1, .int x1), (2, .int x2), (3, .int x3)]) dX10_mark_63 (by decide) rfl ?_
          refine ev_aload_n 1 dX10_mark_65 rfl rfl ?_
          refine ev_getR (r := 103) dX10_mark_66 fl_X10_77 (by decide) rfl (by decide) (by decide) rfl ?_
          refine ev_iload_n 2 dX10_mark_69 rfl rfl ?_
          refine ev_iload_n 3 dX10_mark_70 rfl rfl ?_
          refine ev_if_ne (tgt := 78) dX10_mark_71 (by decide) (fun _ => ?_) (fun hh => absurd hh c10)
          refine ev_aload_n 1 dX10_mark_78 rfl rfl ?_
          refine ev_getR (r := 103) dX10_mark_79 fl_X10_77 (by decide) rfl (by decide) (by decide) rfl ?_
          refine ev_iload_n 2 dX10_mark_82 rfl rfl ?_
          refine ev_ialdc 10 dX10_mark_83 (by decide) rfl rfl (by decide) c11 ?_
          refine ev_iastc 10 dX10_mark_84 (by decide) rfl rfl (by decide) c11 ?_
          refine ev_aload_n 1 dX10_mark_85 rfl rfl ?_
          refine ev_getR (r := 104) dX10_mark_86 fl_X10_80 (by decide) rfl (by decide) (by decide) rfl ?_
          refine ev_iload_n 2 dX10_mark_89 rfl rfl ?_
          refine ev_iload_n 3 dX10_mark_90 rfl rfl ?_
          refine ev_iconst (v := 1) dX10_mark_91 (by decide) ?_
          refine ev_icmp_ne (tgt := 99) dX10_mark_92 (by decide) (fun c12 => ?_) (fun c12 => ?_)
          · have h := if_f c12 h
            refine ev_aload_n 1 dX10_mark_99 rfl rfl ?_
            refine ev_getR (r := 104) dX10_mark_100 fl_X10_80 (by decide) rfl (by decide) (by decide) rfl ?_
            refine ev_iload_n 2 dX10_mark_103 rfl rfl ?_
            refine ev_ialdc 10 dX10_mark_104 (by decide) rfl rfl (by decide) c11 ?_
            refine ev_iastc 10 dX10_mark_105 (by decide) rfl rfl (by decide) c11 ?_
            refine ev_iload 0 dX10_mark_106 rfl ?_
            cases h
            exact ev_iret dX10_mark_108 rfl rfl ⟨rfl, rfl⟩
          · have h := if_t c12 h
            refine ev_iload_n 4 dX10_mark_95 rfl rfl ?_
            refine ev_goto (tgt := 105) dX10_mark_96 (by decide) ?_
            refine ev_iastc 10 dX10_mark_105 (by decide) rfl rfl (by decide) c11 ?_
            refine ev_iload 0 dX10_mark_106 rfl ?_
            cases h
            exact ev_iret dX10_mark_108 rfl rfl ⟨rfl, rfl⟩
        · have h := if_t c10 h
          refine ev_aload_n 0 dX10_mark_48 rfl rfl ?_
          refine ev_getR (r := 103) dX10_mark_49 fl_X10_77 (by decide) rfl (by decide) (by decide) rfl ?_
          refine ev_iload_n 1 dX10_mark_52 rfl rfl ?_
          obtain ⟨c13, h⟩ := if_c h
          refine ev_ialdc 10 dX10_mark_53 (by decide) rfl rfl (by decide) c13 ?_
          refine ev_goto (tgt := 63) dX10_mark_54 (by decide) ?_
          refine ev_istore (ls' := [(4, .int (q7.2 103 (x1).toNatClampNeg)), (0, .ref 80), (1, .int x1), (2, .int x2), (3, .int x3)]) dX10_mark_63 (by decide) rfl ?_
          refine ev_aload_n 1 dX10_mark_65 rfl rfl ?_
          refine ev_getR (r := 103) dX10_mark_66 fl_X10_77 (by decide) rfl (by decide) (by decide) rfl ?_
          refine ev_iload_n 2 dX10_mark_69 rfl rfl ?_
          refine ev_iload_n 3 dX10_mark_70 rfl rfl ?_
          refine ev_if_ne (tgt := 78) dX10_mark_71 (by decide) (fun hh => absurd c10 hh) (fun _ => ?_)
          refine ev_iload_n 4 dX10_mark_74 rfl rfl ?_
          refine ev_goto (tgt := 84) dX10_mark_75 (by decide) ?_
          refine ev_iastc 10 dX10_mark_84 (by decide) rfl rfl (by decide) c13 ?_
          refine ev_aload_n 1 dX10_mark_85 rfl rfl ?_
          refine ev_getR (r := 104) dX10_mark_86 fl_X10_80 (by decide) rfl (by decide) (by decide) rfl ?_
          refine ev_iload_n 2 dX10_mark_89 rfl rfl ?_
          refine ev_iload_n 3 dX10_mark_90 rfl rfl ?_
          refine ev_iconst (v := 1) dX10_mark_91 (by decide) ?_
          refine ev_icmp_ne (tgt := 99) dX10_mark_92 (by decide) (fun c14 => ?_) (fun c14 => ?_)
          · have h := if_f c14 h
            refine ev_aload_n 1 dX10_mark_99 rfl rfl ?_
            refine ev_getR (r := 104) dX10_mark_100 fl_X10_80 (by decide) rfl (by decide) (by decide) rfl ?_
            refine ev_iload_n 2 dX10_mark_103 rfl rfl ?_
            refine ev_ialdc 10 dX10_mark_104 (by decide) rfl rfl (by decide) c13 ?_
            refine ev_iastc 10 dX10_mark_105 (by decide) rfl rfl (by decide) c13 ?_
            refine ev_iload 0 dX10_mark_106 rfl ?_
            cases h
            exact ev_iret dX10_mark_108 rfl rfl ⟨rfl, rfl⟩
          · have h := if_t c14 h
            refine ev_iload_n 4 dX10_mark_95 rfl rfl ?_
            refine ev_goto (tgt := 105) dX10_mark_96 (by decide) ?_
            refine ev_iastc 10 dX10_mark_105 (by decide) rfl rfl (by decide) c13 ?_
            refine ev_iload 0 dX10_mark_106 rfl ?_
            cases h
            exact ev_iret dX10_mark_108 rfl rfl ⟨rfl, rfl⟩
      · have h := if_t c9 h
        refine ev_bipush (v := -3) dX10_mark_41 (by decide) ?_
        cases h
        exact ev_iret dX10_mark_43 rfl rfl ⟨rfl, rfl⟩
  · have h := if_t c3 h
    refine ev_bipush (v := -2) dX10_mark_16 (by decide) ?_
    cases h
    exact ev_iret dX10_mark_18 rfl rfl ⟨rfl, rfl⟩
def g_X10_riskOf_4 (n : Nat) : Nat → Int32 → Int32 → Int32 → Mem → Option (Int32 × Mem)
  | 0, _, _, _, _ => none
  | m + 1, x1, x2, x3, A =>
    if (A 80 26) ≤ x3 then
      some (x2, A)
    else
      if ((x1 >>> (x3 &&& 31)) &&& ((1 : Int32))) = ((1 : Int32)) then
        if ¬ x3 < 0 ∧ (x3).toNatClampNeg < 10 then
          g_X10_riskOf_4 n  m x1 (x2 + (A 103 (x3).toNatClampNeg)) (x3 + 1) A
        else
          none
      else
        g_X10_riskOf_4 n  m x1 (x2 + ((0 : Int32))) (x3 + 1) A
set_option maxRecDepth 100000 in
set_option maxHeartbeats 4000000 in
theorem l_X10_riskOf_4 (n : Nat) : ∀ (m : Nat) (x1 : Int32) (x2 : Int32) (x3 : Int32) (A : Mem) (q : Int32 × Mem), g_X10_riskOf_4 n  m x1 x2 x3 A = some q → Ev cX10_riskOf 4 RX10 (some .int) 0 none 4 [(0, .ref 80), (1, .int x1), (2, .int x2), (3, .int x3)] [] A (RI q) := by
  intro m
  induction m with
  | zero => intro x1 x2 x3 A q h; exact absurd h (by simp [g_X10_riskOf_4])
  | succ m ih =>
    intro x1 x2 x3 A q h
    rw [g_X10_riskOf_4] at h
    refine ev_iload_n 3 dX10_riskOf_4 rfl rfl ?_
    refine ev_aload_n 0 dX10_riskOf_5 rfl rfl ?_
    refine ev_getI dX10_riskOf_6 fl_X10_263 (by decide) rfl (by decide) (by decide) rfl ?_
    refine ev_icmp_ge (tgt := 40) dX10_riskOf_9 (by decide) (fun c1 => ?_) (fun c1 => ?_)
    · have h := if_t c1 h
      refine ev_iload_n 2 dX10_riskOf_40 rfl rfl ?_
      cases h
      exact ev_iret dX10_riskOf_41 rfl rfl ⟨rfl, rfl⟩
    · have h := if_f c1 h
      refine ev_iload_n 2 dX10_riskOf_12 rfl rfl ?_
      refine ev_iload_n 1 dX10_riskOf_13 rfl rfl ?_
      refine ev_iload_n 3 dX10_riskOf_14 rfl rfl ?_
      refine ev_ishr dX10_riskOf_15 ?_
      refine ev_iconst (v := 1) dX10_riskOf_16 (by decide) ?_
      refine ev_iand dX10_riskOf_17 ?_
      refine ev_iconst (v := 1) dX10_riskOf_18 (by decide) ?_
      refine ev_icmp_ne (tgt := 31) dX10_riskOf_19 (by decide) (fun c2 => ?_) (fun c2 => ?_)
      · have h := if_f c2 h
        refine ev_iconst (v := 0) dX10_riskOf_31 (by decide) ?_
        refine ev_iadd dX10_riskOf_32 ?_
        refine ev_istore_n (ls' := [(2, .int (x2 + ((0 : Int32)))), (0, .ref 80), (1, .int x1), (3, .int x3)]) dX10_riskOf_33 rfl (by decide) rfl ?_
        refine ev_iinc (v := x3 + 1) (ls' := [(3, .int (x3 + 1)), (2, .int (x2 + ((0 : Int32)))), (0, .ref 80), (1, .int x1)]) 3 dX10_riskOf_34 rfl rfl (by decide) rfl ?_
        refine ev_goto (tgt := 4) dX10_riskOf_37 (by decide) ?_
        refine ev_pick [2, 3, 1, 0] (ls' := [(0, .ref 80), (1, .int x1), (2, .int (x2 + ((0 : Int32)))), (3, .int (x3 + 1))]) rfl ?_
        exact ih x1 (x2 + ((0 : Int32))) (x3 + 1) _ q h
      · have h := if_t c2 h
        refine ev_aload_n 0 dX10_riskOf_22 rfl rfl ?_
        refine ev_getR (r := 103) dX10_riskOf_23 fl_X10_77 (by decide) rfl (by decide) (by decide) rfl ?_
        refine ev_iload_n 3 dX10_riskOf_26 rfl rfl ?_
        obtain ⟨c3, h⟩ := if_c h
        refine ev_ialdc 10 dX10_riskOf_27 (by decide) rfl rfl (by decide) c3 ?_
        refine ev_goto (tgt := 32) dX10_riskOf_28 (by decide) ?_
        refine ev_iadd dX10_riskOf_32 ?_
        refine ev_istore_n (ls' := [(2, .int (x2 + (A 103 (x3).toNatClampNeg))), (0, .ref 80), (1, .int x1), (3, .int x3)]) dX10_riskOf_33 rfl (by decide) rfl ?_
        refine ev_iinc (v := x3 + 1) (ls' := [(3, .int (x3 + 1)), (2, .int (x2 + (A 103 (x3).toNatClampNeg))), (0, .ref 80), (1, .int x1)]) 3 dX10_riskOf_34 rfl rfl (by decide) rfl ?_
        refine ev_goto (tgt := 4) dX10_riskOf_37 (by decide) ?_
        refine ev_pick [2, 3, 1, 0] (ls' := [(0, .ref 80), (1, .int x1), (2, .int (x2 + (A 103 (x3).toNatClampNeg))), (3, .int (x3 + 1))]) rfl ?_
        exact ih x1 (x2 + (A 103 (x3).toNatClampNeg)) (x3 + 1) _ q h
def f_X10_riskOf (n : Nat) (x1 : Int32) (A : Mem) : Option (Int32 × Mem) :=
  g_X10_riskOf_4 n  n x1 ((0 : Int32)) ((0 : Int32)) A
set_option maxRecDepth 100000 in
set_option maxHeartbeats 4000000 in
theorem c_X10_riskOf (n : Nat) (x1 : Int32) (A : Mem) (q : Int32 × Mem) (h : f_X10_riskOf n x1 A = some q) : Ct yX10_riskOf cX10_riskOf 4 (some .int) 0 [.ref 80, .int x1] A (RI q) := by
  unfold f_X10_riskOf at h
  refine ct_of (by decide) (Nat.le_of_ble_eq_true rfl) ?_
  show Ev cX10_riskOf 4 RX10 (some .int) 0 none 0 [(0, .ref 80), (1, .int x1)] [] A (RI q)
  refine ev_iconst (v := 0) dX10_riskOf_0 (by decide) ?_
  refine ev_istore_n (ls' := [(2, .int ((0 : Int32))), (0, .ref 80), (1, .int x1)]) dX10_riskOf_1 rfl (by decide) rfl ?_
  refine ev_iconst (v := 0) dX10_riskOf_2 (by decide) ?_
  refine ev_istore_n (ls' := [(3, .int ((0 : Int32))), (2, .int ((0 : Int32))), (0, .ref 80), (1, .int x1)]) dX10_riskOf_3 rfl (by decide) rfl ?_
  refine ev_pick [2, 3, 1, 0] (ls' := [(0, .ref 80), (1, .int x1), (2, .int ((0 : Int32))), (3, .int ((0 : Int32)))]) rfl ?_
  exact (l_X10_riskOf_4 n   n) x1 ((0 : Int32)) ((0 : Int32)) _ q h
def g_X10_make_19 (n : Nat) : Nat → Int32 → Int32 → Int32 → Int32 → Mem → Option (Int32 × Mem)
  | 0, _, _, _, _, _ => none
  | m + 1, x1, x2, x3, x4, A =>
    if (((1 : Int32)) <<< ((A 80 26) &&& 31)) ≤ x4 then
      some (x2, st2 A 80 47 ((0 : Int32)))
    else
      (f_X10_riskOf n x4 A).bind fun q5 =>
      if x3 ≤ q5.1 then
        g_X10_make_19 n  m x1 x2 x3 (x4 + 1) q5.2
      else
        (f_X10_isHeld n ((0 : Int32)) x1 (st2 q5.2 80 47 x4)).bind fun q8 =>
        if q8.1 = 0 then
          g_X10_make_19 n  m x1 x2 x3 (x4 + 1) q8.2
        else
          (f_X10_riskOf n x4 q8.2).bind fun q11 =>
          g_X10_make_19 n  m x1 x4 q11.1 (x4 + 1) q11.2
set_option maxRecDepth 100000 in
set_option maxHeartbeats 4000000 in
theorem l_X10_make_19 (n : Nat) : ∀ (m : Nat) (x1 : Int32) (x2 : Int32) (x3 : Int32) (x4 : Int32) (A : Mem) (q : Int32 × Mem), g_X10_make_19 n  m x1 x2 x3 x4 A = some q → Ev cX10_make 6 RX10 (some .int) 8 none 19 [(0, .ref 80), (1, .int x1), (2, .int x2), (3, .int x3), (4, .int x4)] [] A (RI q) := by
  intro m
  induction m with
  | zero => intro x1 x2 x3 x4 A q h; exact absurd h (by simp [g_X10_make_19])
  | succ m ih =>
    intro x1 x2 x3 x4 A q h
    rw [g_X10_make_19] at h
    refine ev_iload 4 dX10_make_19 rfl ?_
    refine ev_iconst (v := 1) dX10_make_21 (by decide) ?_
    refine ev_aload_n 0 dX10_make_22 rfl rfl ?_
    refine ev_getI dX10_make_23 fl_X10_263 (by decide) rfl (by decide) (by decide) rfl ?_
    refine ev_ishl dX10_make_26 ?_
    refine ev_icmp_ge (tgt := 88) dX10_make_27 (by decide) (fun c4 => ?_) (fun c4 => ?_)
    · have h := if_t c4 h
      refine ev_aload_n 0 dX10_make_88 rfl rfl ?_
      refine ev_iconst (v := 0) dX10_make_89 (by decide) ?_
      refine ev_put2 dX10_make_90 fl_X10_260 pk_10_47 (by decide) rfl (by decide) (by decide) rfl ?_
      refine ev_iload_n 2 dX10_make_93 rfl rfl ?_
      cases h
      exact ev_iret dX10_make_94 rfl rfl ⟨rfl, rfl⟩
    · have h := if_f c4 h
      refine ev_aload_n 0 dX10_make_30 rfl rfl ?_
      refine ev_iload 4 dX10_make_31 rfl ?_
      obtain ⟨q5, e6, h⟩ := bd_c h
      refine ev_callVi (av := [.int x4]) dX10_make_33 (c_X10_riskOf n x4  A q5 e6) mk_X10_riskOf lk_X10_298 iv_X10_riskOf (Or.inl ⟨10, _, by decide, rfl, by decide, rfl, rfl⟩) rfl (by decide) (by decide) (Nat.le_of_ble_eq_true rfl) rfl ?_
      refine ev_iload_n 3 dX10_make_36 rfl rfl ?_
      refine ev_icmp_ge (tgt := 82) dX10_make_37 (by decide) (fun c7 => ?_) (fun c7 => ?_)
      · have h := if_t c7 h
        refine ev_iinc (v := x4 + 1) (ls' := [(4, .int (x4 + 1)), (0, .ref 80), (1, .int x1), (2, .int x2), (3, .int x3)]) 4 dX10_make_82 rfl rfl (by decide) rfl ?_
        refine ev_goto (tgt := 19) dX10_make_85 (by decide) ?_
        refine ev_pick [1, 2, 3, 4, 0] (ls' := [(0, .ref 80), (1, .int x1), (2, .int x2), (3, .int x3), (4, .int (x4 + 1))]) rfl ?_
        exact ih x1 x2 x3 (x4 + 1) _ q h
      · have h := if_f c7 h
        refine ev_aload_n 0 dX10_make_40 rfl rfl ?_
        refine ev_iload 4 dX10_make_41 rfl ?_
        refine ev_put2 dX10_make_43 fl_X10_260 pk_10_47 (by decide) rfl (by decide) (by decide) rfl ?_
        refine ev_aload_n 0 dX10_make_46 rfl rfl ?_
        refine ev_iconst (v := 0) dX10_make_47 (by decide) ?_
        refine ev_iload_n 1 dX10_make_48 rfl rfl ?_
        obtain ⟨q8, e9, h⟩ := bd_c h
        refine ev_callVi (av := [.int ((0 : Int32)), .int x1]) dX10_make_49 (c_X10_isHeld n ((0 : Int32)) x1  (st2 q5.2 80 47 x4) q8 e9) mk_X10_isHeld lk_X10_292 iv_X10_isHeld (Or.inl ⟨10, _, by decide, rfl, by decide, rfl, rfl⟩) rfl (by decide) (by decide) (Nat.le_of_ble_eq_true rfl) rfl ?_
        refine ev_istore (ls' := [(5, .int q8.1), (0, .ref 80), (1, .int x1), (2, .int x2), (3, .int x3), (4, .int x4)]) dX10_make_52 (by decide) rfl ?_
        refine ev_iload 0 dX10_make_54 rfl ?_
        refine ev_if_eq (tgt := 64) dX10_make_56 (by decide) (fun c10 => ?_) (fun c10 => ?_)
        · have h := if_t c10 h
          refine ev_iload_n 3 dX10_make_64 rfl rfl ?_
          refine ev_istore_n (ls' := [(2, .int x2), (5, .int q8.1), (0, .ref 80), (1, .int x1), (3, .int x3), (4, .int x4)]) dX10_make_65 rfl (by decide) rfl ?_
          refine ev_iload 1 dX10_make_66 rfl ?_
          refine ev_if_eq (tgt := 80) dX10_make_68 (by decide) (fun _ => ?_) (fun hh => absurd c10 hh)
          refine ev_iload_n 4 dX10_make_80 rfl rfl ?_
          refine ev_istore_n (ls' := [(3, .int x3), (2, .int x2), (5, .int q8.1), (0, .ref 80), (1, .int x1), (4, .int x4)]) dX10_make_81 rfl (by decide) rfl ?_
          refine ev_iinc (v := x4 + 1) (ls' := [(4, .int (x4 + 1)), (3, .int x3), (2, .int x2), (5, .int q8.1), (0, .ref 80), (1, .int x1)]) 5 dX10_make_82 rfl rfl (by decide) rfl ?_
          refine ev_goto (tgt := 19) dX10_make_85 (by decide) ?_
          refine ev_pick [4, 5, 2, 1, 0] (ls' := [(0, .ref 80), (1, .int x1), (2, .int x2), (3, .int x3), (4, .int (x4 + 1))]) rfl ?_
          exact ih x1 x2 x3 (x4 + 1) _ q h
        · have h := if_f c10 h
          refine ev_iload 5 dX10_make_59 rfl ?_
          refine ev_goto (tgt := 65) dX10_make_61 (by decide) ?_
          refine ev_istore_n (ls' := [(2, .int x4), (5, .int q8.1), (0, .ref 80), (1, .int x1), (3, .int x3), (4, .int x4)]) dX10_make_65 rfl (by decide) rfl ?_
          refine ev_iload 1 dX10_make_66 rfl ?_
          refine ev_if_eq (tgt := 80) dX10_make_68 (by decide) (fun hh => absurd hh c10) (fun _ => ?_)
          refine ev_aload_n 2 dX10_make_71 rfl rfl ?_
          refine ev_iload 5 dX10_make_72 rfl ?_
          obtain ⟨q11, e12, h⟩ := bd_c h
          refine ev_callVi (av := [.int x4]) dX10_make_74 (c_X10_riskOf n x4  q8.2 q11 e12) mk_X10_riskOf lk_X10_298 iv_X10_riskOf (Or.inl ⟨10, _, by decide, rfl, by decide, rfl, rfl⟩) rfl (by decide) (by decide) (Nat.le_of_ble_eq_true rfl) rfl ?_
          refine ev_goto (tgt := 81) dX10_make_77 (by decide) ?_
          refine ev_istore_n (ls' := [(3, .int q11.1), (2, .int x4), (5, .int q8.1), (0, .ref 80), (1, .int x1), (4, .int x4)]) dX10_make_81 rfl (by decide) rfl ?_
          refine ev_iinc (v := x4 + 1) (ls' := [(4, .int (x4 + 1)), (3, .int q11.1), (2, .int x4), (5, .int q8.1), (0, .ref 80), (1, .int x1)]) 5 dX10_make_82 rfl rfl (by decide) rfl ?_
          refine ev_goto (tgt := 19) dX10_make_85 (by decide) ?_
          refine ev_pick [4, 5, 2, 1, 0] (ls' := [(0, .ref 80), (1, .int x1), (2, .int x4), (3, .int q11.1), (4, .int (x4 + 1))]) rfl ?_
          exact ih x1 x4 q11.1 (x4 + 1) _ q h
def f_X10_make (n : Nat) (x1 : Int32) (A : Mem) : Option (Int32 × Mem) :=
  (f_X10_isDay n x1 A).bind fun q1 =>
  if q1.1 = 0 then
    some ((-3 : Int32), q1.2)
  else
    g_X10_make_19 n  n x1 ((-1 : Int32)) ((268435456 : Int32)) ((0 : Int32)) q1.2
set_option maxRecDepth 100000 in
set_option maxHeartbeats 4000000 in
theorem c_X10_make (n : Nat) (x1 : Int32) (A : Mem) (q : Int32 × Mem) (h : f_X10_make n x1 A = some q) : Ct yX10_make cX10_make 6 (some .int) 8 [.ref 80, .int x1] A (RI q) := by
  unfold f_X10_make at h
  refine ct_of (by decide) (Nat.le_of_ble_eq_true rfl) ?_
  show Ev cX10_make 6 RX10 (some .int) 8 none 0 [(0, .ref 80), (1, .int x1)] [] A (RI q)
  refine ev_iload_n 1 dX10_make_0 rfl rfl ?_
  obtain ⟨q1, e2, h⟩ := bd_c h
  refine ev_callSi (av := [.int x1]) dX10_make_1 (c_X10_isDay n x1  A q1 e2) mk_X10_isDay lk_X10_142 is_X10_isDay rfl (by decide) (by decide) (Nat.le_of_ble_eq_true rfl) rfl ?_
  refine ev_if_ne (tgt := 10) dX10_make_4 (by decide) (fun c3 => ?_) (fun c3 => ?_)
  · have h := if_f c3 h
    refine ev_iconst (v := -1) dX10_make_10 (by decide) ?_
    refine ev_istore_n (ls' := [(2, .int ((-1 : Int32))), (0, .ref 80), (1, .int x1)]) dX10_make_11 rfl (by decide) rfl ?_
    refine ev_ldcw dX10_make_12 kc_X10_297 ?_
    refine ev_istore_n (ls' := [(3, .int ((268435456 : Int32))), (2, .int ((-1 : Int32))), (0, .ref 80), (1, .int x1)]) dX10_make_15 rfl (by decide) rfl ?_
    refine ev_iconst (v := 0) dX10_make_16 (by decide) ?_
    refine ev_istore (ls' := [(4, .int ((0 : Int32))), (3, .int ((268435456 : Int32))), (2, .int ((-1 : Int32))), (0, .ref 80), (1, .int x1)]) dX10_make_17 (by decide) rfl ?_
    refine ev_pick [3, 4, 2, 1, 0] (ls' := [(0, .ref 80), (1, .int x1), (2, .int ((-1 : Int32))), (3, .int ((268435456 : Int32))), (4, .int ((0 : Int32)))]) rfl ?_
    exact (l_X10_make_19 n   n) x1 ((-1 : Int32)) ((268435456 : Int32)) ((0 : Int32)) _ q h
  · have h := if_t c3 h
    refine ev_bipush (v := -3) dX10_make_7 (by decide) ?_
    cases h
    exact ev_iret dX10_make_9 rfl rfl ⟨rfl, rfl⟩
def g_X10_costOf_4 (n : Nat) : Nat → Int32 → Int32 → Int32 → Mem → Option (Int32 × Mem)
  | 0, _, _, _, _ => none
  | m + 1, x1, x2, x3, A =>
    if (A 80 26) ≤ x3 then
      some (x2, A)
    else
      if ((x1 >>> (x3 &&& 31)) &&& ((1 : Int32))) = ((1 : Int32)) then
        if ¬ x3 < 0 ∧ (x3).toNatClampNeg < 10 then
          g_X10_costOf_4 n  m x1 (x2 + (A 104 (x3).toNatClampNeg)) (x3 + 1) A
        else
          none
      else
        g_X10_costOf_4 n  m x1 (x2 + ((0 : Int32))) (x3 + 1) A
set_option maxRecDepth 100000 in
set_option maxHeartbeats 4000000 in
theorem l_X10_costOf_4 (n : Nat) : ∀ (m : Nat) (x1 : Int32) (x2 : Int32) (x3 : Int32) (A : Mem) (q : Int32 × Mem), g_X10_costOf_4 n  m x1 x2 x3 A = some q → Ev cX10_costOf 4 RX10 (some .int) 0 none 4 [(0, .ref 80), (1, .int x1), (2, .int x2), (3, .int x3)] [] A (RI q) := by
  intro m
  induction m with
  | zero => intro x1 x2 x3 A q h; exact absurd h (by simp [g_X10_costOf_4])
  | succ m ih =>
    intro x1 x2 x3 A q h
    rw [g_X10_costOf_4] at h
    refine ev_iload_n 3 dX10_costOf_4 rfl rfl ?_
    refine ev_aload_n 0 dX10_costOf_5 rfl rfl ?_
    refine ev_getI dX10_costOf_6 fl_X10_263 (by decide) rfl (by decide) (by decide) rfl ?_
    refine ev_icmp_ge (tgt := 40) dX10_costOf_9 (by decide) (fun c1 => ?_) (fun c1 => ?_)
    · have h := if_t c1 h
      refine ev_iload_n 2 dX10_costOf_40 rfl rfl ?_
      cases h
      exact ev_iret dX10_costOf_41 rfl rfl ⟨rfl, rfl⟩
    · have h := if_f c1 h
      refine ev_iload_n 2 dX10_costOf_12 rfl rfl ?_
      refine ev_iload_n 1 dX10_costOf_13 rfl rfl ?_
      refine ev_iload_n 3 dX10_costOf_14 rfl rfl ?_
      refine ev_ishr dX10_costOf_15 ?_
      refine ev_iconst (v := 1) dX10_costOf_16 (by decide) ?_
      refine ev_iand dX10_costOf_17 ?_
      refine ev_iconst (v := 1) dX10_costOf_18 (by decide) ?_
      refine ev_icmp_ne (tgt := 31) dX10_costOf_19 (by decide) (fun c2 => ?_) (fun c2 => ?_)
      · have h := if_f c2 h
        refine ev_iconst (v := 0) dX10_costOf_31 (by decide) ?_
        refine ev_iadd dX10_costOf_32 ?_
        refine ev_istore_n (ls' := [(2, .int (x2 + ((0 : Int32)))), (0, .ref 80), (1, .int x1), (3, .int x3)]) dX10_costOf_33 rfl (by decide) rfl ?_
        refine ev_iinc (v := x3 + 1) (ls' := [(3, .int (x3 + 1)), (2, .int (x2 + ((0 : Int32)))), (0, .ref 80), (1, .int x1)]) 3 dX10_costOf_34 rfl rfl (by decide) rfl ?_
        refine ev_goto (tgt := 4) dX10_costOf_37 (by decide) ?_
        refine ev_pick [2, 3, 1, 0] (ls' := [(0, .ref 80), (1, .int x1), (2, .int (x2 + ((0 : Int32)))), (3, .int (x3 + 1))]) rfl ?_
        exact ih x1 (x2 + ((0 : Int32))) (x3 + 1) _ q h
      · have h := if_t c2 h
        refine ev_aload_n 0 dX10_costOf_22 rfl rfl ?_
        refine ev_getR (r := 104) dX10_costOf_23 fl_X10_80 (by decide) rfl (by decide) (by decide) rfl ?_
        refine ev_iload_n 3 dX10_costOf_26 rfl rfl ?_
        obtain ⟨c3, h⟩ := if_c h
        refine ev_ialdc 10 dX10_costOf_27 (by decide) rfl rfl (by decide) c3 ?_
        refine ev_goto (tgt := 32) dX10_costOf_28 (by decide) ?_
        refine ev_iadd dX10_costOf_32 ?_
        refine ev_istore_n (ls' := [(2, .int (x2 + (A 104 (x3).toNatClampNeg))), (0, .ref 80), (1, .int x1), (3, .int x3)]) dX10_costOf_33 rfl (by decide) rfl ?_
        refine ev_iinc (v := x3 + 1) (ls' := [(3, .int (x3 + 1)), (2, .int (x2 + (A 104 (x3).toNatClampNeg))), (0, .ref 80), (1, .int x1)]) 3 dX10_costOf_34 rfl rfl (by decide) rfl ?_
        refine ev_goto (tgt := 4) dX10_costOf_37 (by decide) ?_
        refine ev_pick [2, 3, 1, 0] (ls' := [(0, .ref 80), (1, .int x1), (2, .int (x2 + (A 104 (x3).toNatClampNeg))), (3, .int (x3 + 1))]) rfl ?_
        exact ih x1 (x2 + (A 104 (x3).toNatClampNeg)) (x3 + 1) _ q h
def f_X10_costOf (n : Nat) (x1 : Int32) (A : Mem) : Option (Int32 × Mem) :=
  g_X10_costOf_4 n  n x1 ((0 : Int32)) ((0 : Int32)) A
set_option maxRecDepth 100000 in
set_option maxHeartbeats 4000000 in
theorem c_X10_costOf (n : Nat) (x1 : Int32) (A : Mem) (q : Int32 × Mem) (h : f_X10_costOf n x1 A = some q) : Ct yX10_costOf cX10_costOf 4 (some .int) 0 [.ref 80, .int x1] A (RI q) := by
  unfold f_X10_costOf at h
  refine ct_of (by decide) (Nat.le_of_ble_eq_true rfl) ?_
  show Ev cX10_costOf 4 RX10 (some .int) 0 none 0 [(0, .ref 80), (1, .int x1)] [] A (RI q)
  refine ev_iconst (v := 0) dX10_costOf_0 (by decide) ?_
  refine ev_istore_n (ls' := [(2, .int ((0 : Int32))), (0, .ref 80), (1, .int x1)]) dX10_costOf_1 rfl (by decide) rfl ?_
  refine ev_iconst (v := 0) dX10_costOf_2 (by decide) ?_
  refine ev_istore_n (ls' := [(3, .int ((0 : Int32))), (2, .int ((0 : Int32))), (0, .ref 80), (1, .int x1)]) dX10_costOf_3 rfl (by decide) rfl ?_
  refine ev_pick [2, 3, 1, 0] (ls' := [(0, .ref 80), (1, .int x1), (2, .int ((0 : Int32))), (3, .int ((0 : Int32)))]) rfl ?_
  exact (l_X10_costOf_4 n   n) x1 ((0 : Int32)) ((0 : Int32)) _ q h
def g_X10_buy_89 (n : Nat) : Nat → Int32 → Int32 → Int32 → Int32 → Int32 → Int32 → Int32 → Mem → Option (Int32 × Mem)
  | 0, _, _, _, _, _, _, _, _ => none
  | m + 1, x1, x2, x3, x4, x5, x6, x7, A =>
    if (((1 : Int32)) <<< ((A 80 26) &&& 31)) ≤ x7 then
      some (x5, st2 A 80 47 ((0 : Int32)))
    else
      if (x7 &&& (x4 ^^^ ((-1 : Int32)))) = 0 then
        (f_X10_costOf n x7 A).bind fun q16 =>
        if x6 ≤ q16.1 then
          g_X10_buy_89 n  m x1 x2 x3 x4 x5 x6 (x7 + 1) q16.2
        else
          (f_X10_trustOf n ((0 : Int32)) x1 x2 (st2 q16.2 80 47 x7)).bind fun q19 =>
          if q19.1 < x3 then
            g_X10_buy_89 n  m x1 x2 x3 x4 x5 x6 (x7 + 1) q19.2
          else
            (f_X10_costOf n x7 q19.2).bind fun q22 =>
            g_X10_buy_89 n  m x1 x2 x3 x4 x7 q22.1 (x7 + 1) q22.2
      else
        g_X10_buy_89 n  m x1 x2 x3 x4 x5 x6 (x7 + 1) A
set_option maxRecDepth 100000 in
set_option maxHeartbeats 4000000 in
theorem l_X10_buy_89 (n : Nat) : ∀ (m : Nat) (x1 : Int32) (x2 : Int32) (x3 : Int32) (x4 : Int32) (x5 : Int32) (x6 : Int32) (x7 : Int32) (A : Mem) (q : Int32 × Mem), g_X10_buy_89 n  m x1 x2 x3 x4 x5 x6 x7 A = some q → Ev cX10_buy 9 RX10 (some .int) 4 none 89 [(0, .ref 80), (1, .int x1), (2, .int x2), (3, .int x3), (4, .int x4), (5, .int x5), (6, .int x6), (7, .int x7)] [] A (RI q) := by
  intro m
  induction m with
  | zero => intro x1 x2 x3 x4 x5 x6 x7 A q h; exact absurd h (by simp [g_X10_buy_89])
  | succ m ih =>
    intro x1 x2 x3 x4 x5 x6 x7 A q h
    rw [g_X10_buy_89] at h
    refine ev_iload 7 dX10_buy_89 rfl ?_
    refine ev_iconst (v := 1) dX10_buy_91 (by decide) ?_
    refine ev_aload_n 0 dX10_buy_92 rfl rfl ?_
    refine ev_getI dX10_buy_93 fl_X10_263 (by decide) rfl (by decide) (by decide) rfl ?_
    refine ev_ishl dX10_buy_96 ?_
    refine ev_icmp_ge (tgt := 183) dX10_buy_97 (by decide) (fun c14 => ?_) (fun c14 => ?_)
    · have h := if_t c14 h
      refine ev_aload_n 0 dX10_buy_183 rfl rfl ?_
      refine ev_iconst (v := 0) dX10_buy_184 (by decide) ?_
      refine ev_put2 dX10_buy_185 fl_X10_260 pk_10_47 (by decide) rfl (by decide) (by decide) rfl ?_
      refine ev_iload 5 dX10_buy_188 rfl ?_
      cases h
      exact ev_iret dX10_buy_190 rfl rfl ⟨rfl, rfl⟩
    · have h := if_f c14 h
      refine ev_iload 7 dX10_buy_100 rfl ?_
      refine ev_iload 4 dX10_buy_102 rfl ?_
      refine ev_iconst (v := -1) dX10_buy_104 (by decide) ?_
      refine ev_ixor dX10_buy_105 ?_
      refine ev_iand dX10_buy_106 ?_
      refine ev_if_ne (tgt := 177) dX10_buy_107 (by decide) (fun c15 => ?_) (fun c15 => ?_)
      · have h := if_f c15 h
        refine ev_iinc (v := x7 + 1) (ls' := [(7, .int (x7 + 1)), (0, .ref 80), (1, .int x1), (2, .int x2), (3, .int x3), (4, .int x4), (5, .int x5), (6, .int x6)]) 7 dX10_buy_177 rfl rfl (by decide) rfl ?_
        refine ev_goto (tgt := 89) dX10_buy_180 (by decide) ?_
        refine ev_pick [1, 2, 3, 4, 5, 6, 7, 0] (ls' := [(0, .ref 80), (1, .int x1), (2, .int x2), (3, .int x3), (4, .int x4), (5, .int x5), (6, .int x6), (7, .int (x7 + 1))]) rfl ?_
        exact ih x1 x2 x3 x4 x5 x6 (x7 + 1) _ q h
      · have h := if_t c15 h
        refine ev_aload_n 0 dX10_buy_110 rfl rfl ?_
        refine ev_iload 7 dX10_buy_111 rfl ?_
        obtain ⟨q16, e17, h⟩ := bd_c h
        refine ev_callVi (av := [.int x7]) dX10_buy_113 (c_X10_costOf n x7  A q16 e17) mk_X10_costOf lk_X10_303 iv_X10_costOf (Or.inl ⟨10, _, by decide, rfl, by decide, rfl, rfl⟩) rfl (by decide) (by decide) (Nat.le_of_ble_eq_true rfl) rfl ?_
        refine ev_iload 6 dX10_buy_116 rfl ?_
        refine ev_icmp_ge (tgt := 177) dX10_buy_118 (by decide) (fun c18 => ?_) (fun c18 => ?_)
        · have h := if_t c18 h
          refine ev_iinc (v := x7 + 1) (ls' := [(7, .int (x7 + 1)), (0, .ref 80), (1, .int x1), (2, .int x2), (3, .int x3), (4, .int x4), (5, .int x5), (6, .int x6)]) 7 dX10_buy_177 rfl rfl (by decide) rfl ?_
          refine ev_goto (tgt := 89) dX10_buy_180 (by decide) ?_
          refine ev_pick [1, 2, 3, 4, 5, 6, 7, 0] (ls' := [(0, .ref 80), (1, .int x1), (2, .int x2), (3, .int x3), (4, .int x4), (5, .int x5), (6, .int x6), (7, .int (x7 + 1))]) rfl ?_
          exact ih x1 x2 x3 x4 x5 x6 (x7 + 1) _ q h
        · have h := if_f c18 h
          refine ev_aload_n 0 dX10_buy_121 rfl rfl ?_
          refine ev_iload 7 dX10_buy_122 rfl ?_
          refine ev_put2 dX10_buy_124 fl_X10_260 pk_10_47 (by decide) rfl (by decide) (by decide) rfl ?_
          refine ev_aload_n 0 dX10_buy_127 rfl rfl ?_
          refine ev_iconst (v := 0) dX10_buy_128 (by decide) ?_
          refine ev_iload_n 1 dX10_buy_129 rfl rfl ?_
          refine ev_iload_n 2 dX10_buy_130 rfl rfl ?_
          obtain ⟨q19, e20, h⟩ := bd_c h
          refine ev_callVi (av := [.int ((0 : Int32)), .int x1, .int x2]) dX10_buy_131 (c_X10_trustOf n ((0 : Int32)) x1 x2  (st2 q16.2 80 47 x7) q19 e20) mk_X10_trustOf lk_X10_273 iv_X10_trustOf (Or.inl ⟨10, _, by decide, rfl, by decide, rfl, rfl⟩) rfl (by decide) (by decide) (Nat.le_of_ble_eq_true rfl) rfl ?_
          refine ev_iload_n 3 dX10_buy_134 rfl rfl ?_
          refine ev_icmp_lt (tgt := 142) dX10_buy_135 (by decide) (fun c21 => ?_) (fun c21 => ?_)
          · have h := if_t c21 h
            refine ev_iconst (v := 0) dX10_buy_142 (by decide) ?_
            refine ev_istore (ls' := [(8, .int ((0 : Int32))), (0, .ref 80), (1, .int x1), (2, .int x2), (3, .int x3), (4, .int x4), (5, .int x5), (6, .int x6), (7, .int x7)]) dX10_buy_143 (by decide) rfl ?_
            refine ev_iload 0 dX10_buy_145 rfl ?_
            refine ev_if_eq (tgt := 155) dX10_buy_147 (by decide) (fun _ => ?_) (fun hh => absurd hh (by decide))
            refine ev_iload 6 dX10_buy_155 rfl ?_
            refine ev_istore (ls' := [(5, .int x5), (8, .int ((0 : Int32))), (0, .ref 80), (1, .int x1), (2, .int x2), (3, .int x3), (4, .int x4), (6, .int x6), (7, .int x7)]) dX10_buy_157 (by decide) rfl ?_
            refine ev_iload 1 dX10_buy_159 rfl ?_
            refine ev_if_eq (tgt := 173) dX10_buy_161 (by decide) (fun _ => ?_) (fun hh => absurd hh (by decide))
            refine ev_iload 7 dX10_buy_173 rfl ?_
            refine ev_istore (ls' := [(6, .int x6), (5, .int x5), (8, .int ((0 : Int32))), (0, .ref 80), (1, .int x1), (2, .int x2), (3, .int x3), (4, .int x4), (7, .int x7)]) dX10_buy_175 (by decide) rfl ?_
            refine ev_iinc (v := x7 + 1) (ls' := [(7, .int (x7 + 1)), (6, .int x6), (5, .int x5), (8, .int ((0 : Int32))), (0, .ref 80), (1, .int x1), (2, .int x2), (3, .int x3), (4, .int x4)]) 8 dX10_buy_177 rfl rfl (by decide) rfl ?_
            refine ev_goto (tgt := 89) dX10_buy_180 (by decide) ?_
            refine ev_pick [4, 5, 6, 7, 8, 2, 1, 0] (ls' := [(0, .ref 80), (1, .int x1), (2, .int x2), (3, .int x3), (4, .int x4), (5, .int x5), (6, .int x6), (7, .int (x7 + 1))]) rfl ?_
            exact ih x1 x2 x3 x4 x5 x6 (x7 + 1) _ q h
          · have h := if_f c21 h
            refine ev_iconst (v := 1) dX10_buy_138 (by decide) ?_
            refine ev_goto (tgt := 143) dX10_buy_139 (by decide) ?_
            refine ev_istore (ls' := [(8, .int ((1 : Int32))), (0, .ref 80), (1, .int x1), (2, .int x2), (3, .int x3), (4, .int x4), (5, .int x5), (6, .int x6), (7, .int x7)]) dX10_buy_143 (by decide) rfl ?_
            refine ev_iload 0 dX10_buy_145 rfl ?_
            refine ev_if_eq (tgt := 155) dX10_buy_147 (by decide) (fun hh => absurd hh (by decide)) (fun _ => ?_)
            refine ev_iload 8 dX10_buy_150 rfl ?_
            refine ev_goto (tgt := 157) dX10_buy_152 (by decide) ?_
            refine ev_istore (ls' := [(5, .int x7), (8, .int ((1 : Int32))), (0, .ref 80), (1, .int x1), (2, .int x2), (3, .int x3), (4, .int x4), (6, .int x6), (7, .int x7)]) dX10_buy_157 (by decide) rfl ?_
            refine ev_iload 1 dX10_buy_159 rfl ?_
            refine ev_if_eq (tgt := 173) dX10_buy_161 (by decide) (fun hh => absurd hh (by decide)) (fun _ => ?_)
            refine ev_aload_n 2 dX10_buy_164 rfl rfl ?_
            refine ev_iload 8 dX10_buy_165 rfl ?_
            obtain ⟨q22, e23, h⟩ := bd_c h
            refine ev_callVi (av := [.int x7]) dX10_buy_167 (c_X10_costOf n x7  q19.2 q22 e23) mk_X10_costOf lk_X10_303 iv_X10_costOf (Or.inl ⟨10, _, by decide, rfl, by decide, rfl, rfl⟩) rfl (by decide) (by decide) (Nat.le_of_ble_eq_true rfl) rfl ?_
            refine ev_goto (tgt := 175) dX10_buy_170 (by decide) ?_
            refine ev_istore (ls' := [(6, .int q22.1), (5, .int x7), (8, .int ((1 : Int32))), (0, .ref 80), (1, .int x1), (2, .int x2), (3, .int x3), (4, .int x4), (7, .int x7)]) dX10_buy_175 (by decide) rfl ?_
            refine ev_iinc (v := x7 + 1) (ls' := [(7, .int (x7 + 1)), (6, .int q22.1), (5, .int x7), (8, .int ((1 : Int32))), (0, .ref 80), (1, .int x1), (2, .int x2), (3, .int x3), (4, .int x4)]) 8 dX10_buy_177 rfl rfl (by decide) rfl ?_
            refine ev_goto (tgt := 89) dX10_buy_180 (by decide) ?_
            refine ev_pick [4, 5, 6, 7, 8, 2, 1, 0] (ls' := [(0, .ref 80), (1, .int x1), (2, .int x2), (3, .int x3), (4, .int x4), (5, .int x7), (6, .int q22.1), (7, .int (x7 + 1))]) rfl ?_
            exact ih x1 x2 x3 x4 x7 q22.1 (x7 + 1) _ q h
def g_X10_buy_38 (n : Nat) : Nat → Int32 → Int32 → Int32 → Int32 → Int32 → Mem → Option (Int32 × Mem)
  | 0, _, _, _, _, _, _ => none
  | m + 1, x1, x2, x3, x4, x5, A =>
    if (A 80 26) ≤ x5 then
      g_X10_buy_89 n  n x1 x2 x3 x4 ((-1 : Int32)) ((268435456 : Int32)) ((0 : Int32)) A
    else
      (f_X10_isRight n (((24 : Int32)) + x5) A).bind fun q11 =>
      if q11.1 = 0 then
        g_X10_buy_38 n  m x1 x2 x3 (x4 ||| ((0 : Int32))) (x5 + 1) q11.2
      else
        g_X10_buy_38 n  m x1 x2 x3 (x4 ||| (((1 : Int32)) <<< (x5 &&& 31))) (x5 + 1) q11.2
set_option maxRecDepth 100000 in
set_option maxHeartbeats 4000000 in
theorem l_X10_buy_38 (n : Nat) : ∀ (m : Nat) (x1 : Int32) (x2 : Int32) (x3 : Int32) (x4 : Int32) (x5 : Int32) (A : Mem) (q : Int32 × Mem), g_X10_buy_38 n  m x1 x2 x3 x4 x5 A = some q → Ev cX10_buy 9 RX10 (some .int) 4 none 38 [(0, .ref 80), (1, .int x1), (2, .int x2), (3, .int x3), (4, .int x4), (5, .int x5)] [] A (RI q) := by
  intro m
  induction m with
  | zero => intro x1 x2 x3 x4 x5 A q h; exact absurd h (by simp [g_X10_buy_38])
  | succ m ih =>
    intro x1 x2 x3 x4 x5 A q h
    rw [g_X10_buy_38] at h
    refine ev_iload 5 dX10_buy_38 rfl ?_
    refine ev_aload_n 0 dX10_buy_40 rfl rfl ?_
    refine ev_getI dX10_buy_41 fl_X10_263 (by decide) rfl (by decide) (by decide) rfl ?_
    refine ev_icmp_ge (tgt := 78) dX10_buy_44 (by decide) (fun c10 => ?_) (fun c10 => ?_)
    · have h := if_t c10 h
      refine ev_iconst (v := -1) dX10_buy_78 (by decide) ?_
      refine ev_istore (ls' := [(5, .int ((-1 : Int32))), (0, .ref 80), (1, .int x1), (2, .int x2), (3, .int x3), (4, .int x4)]) dX10_buy_79 (by decide) rfl ?_
      refine ev_ldcw dX10_buy_81 kc_X10_297 ?_
      refine ev_istore (ls' := [(6, .int ((268435456 : Int32))), (5, .int ((-1 : Int32))), (0, .ref 80), (1, .int x1), (2, .int x2), (3, .int x3), (4, .int x4)]) dX10_buy_84 (by decide) rfl ?_
      refine ev_iconst (v := 0) dX10_buy_86 (by decide) ?_
      refine ev_istore (ls' := [(7, .int ((0 : Int32))), (6, .int ((268435456 : Int32))), (5, .int ((-1 : Int32))), (0, .ref 80), (1, .int x1), (2, .int x2), (3, .int x3), (4, .int x4)]) dX10_buy_87 (by decide) rfl ?_
      refine ev_pick [3, 4, 5, 6, 7, 2, 1, 0] (ls' := [(0, .ref 80), (1, .int x1), (2, .int x2), (3, .int x3), (4, .int x4), (5, .int ((-1 : Int32))), (6, .int ((268435456 : Int32))), (7, .int ((0 : Int32)))]) rfl ?_
      exact (l_X10_buy_89 n   n) x1 x2 x3 x4 ((-1 : Int32)) ((268435456 : Int32)) ((0 : Int32)) _ q h
    · have h := if_f c10 h
      refine ev_iload 4 dX10_buy_47 rfl ?_
      refine ev_aload_n 0 dX10_buy_49 rfl rfl ?_
      refine ev_bipush (v := 24) dX10_buy_50 (by decide) ?_
      refine ev_iload 5 dX10_buy_52 rfl ?_
      refine ev_iadd dX10_buy_54 ?_
      obtain ⟨q11, e12, h⟩ := bd_c h
      refine ev_callVi (av := [.int (((24 : Int32)) + x5)]) dX10_buy_55 (c_X10_isRight n (((24 : Int32)) + x5)  A q11 e12) mk_X10_isRight lk_X10_241 iv_X10_isRight (Or.inl ⟨10, _, by decide, rfl, by decide, rfl, rfl⟩) rfl (by decide) (by decide) (Nat.le_of_ble_eq_true rfl) rfl ?_
      refine ev_if_eq (tgt := 68) dX10_buy_58 (by decide) (fun c13 => ?_) (fun c13 => ?_)
      · have h := if_t c13 h
        refine ev_iconst (v := 0) dX10_buy_68 (by decide) ?_
        refine ev_ior dX10_buy_69 ?_
        refine ev_istore (ls' := [(4, .int (x4 ||| ((0 : Int32)))), (0, .ref 80), (1, .int x1), (2, .int x2), (3, .int x3), (5, .int x5)]) dX10_buy_70 (by decide) rfl ?_
        refine ev_iinc (v := x5 + 1) (ls' := [(5, .int (x5 + 1)), (4, .int (x4 ||| ((0 : Int32)))), (0, .ref 80), (1, .int x1), (2, .int x2), (3, .int x3)]) 5 dX10_buy_72 rfl rfl (by decide) rfl ?_
        refine ev_goto (tgt := 38) dX10_buy_75 (by decide) ?_
        refine ev_pick [2, 3, 4, 5, 1, 0] (ls' := [(0, .ref 80), (1, .int x1), (2, .int x2), (3, .int x3), (4, .int (x4 ||| ((0 : Int32)))), (5, .int (x5 + 1))]) rfl ?_
        exact ih x1 x2 x3 (x4 ||| ((0 : Int32))) (x5 + 1) _ q h
      · have h := if_f c13 h
        refine ev_iconst (v := 1) dX10_buy_61 (by decide) ?_
        refine ev_iload 5 dX10_buy_62 rfl ?_
        refine ev_ishl dX10_buy_64 ?_
        refine ev_goto (tgt := 69) dX10_buy_65 (by decide) ?_
        refine ev_ior dX10_buy_69 ?_
        refine ev_istore (ls' := [(4, .int (x4 ||| (((1 : Int32)) <<< (x5 &&& 31)))), (0, .ref 80), (1, .int x1), (2, .int x2), (3, .int x3), (5, .int x5)]) dX10_buy_70 (by decide) rfl ?_
        refine ev_iinc (v := x5 + 1) (ls' := [(5, .int (x5 + 1)), (4, .int (x4 ||| (((1 : Int32)) <<< (x5 &&& 31)))), (0, .ref 80), (1, .int x1), (2, .int x2), (3, .int x3)]) 5 dX10_buy_72 rfl rfl (by decide) rfl ?_
        refine ev_goto (tgt := 38) dX10_buy_75 (by decide) ?_
        refine ev_pick [2, 3, 4, 5, 1, 0] (ls' := [(0, .ref 80), (1, .int x1), (2, .int x2), (3, .int x3), (4, .int (x4 ||| (((1 : Int32)) <<< (x5 &&& 31)))), (5, .int (x5 + 1))]) rfl ?_
        exact ih x1 x2 x3 (x4 ||| (((1 : Int32)) <<< (x5 &&& 31))) (x5 + 1) _ q h
def f_X10_buy (n : Nat) (x1 : Int32) (x2 : Int32) (x3 : Int32) (A : Mem) : Option (Int32 × Mem) :=
  (f_X10_isAgent n x1 A).bind fun q1 =>
  if q1.1 = 0 then
    some ((-2 : Int32), q1.2)
  else
    (f_X10_isDay n x2 q1.2).bind fun q4 =>
    if q4.1 = 0 then
      some ((-3 : Int32), q4.2)
    else
      (f_X10_in n ((x3).toInt64) ((0 : Int64)) ((100 : Int64)) q4.2).bind fun q7 =>
      if q7.1 = 0 then
        some ((-3 : Int32), q7.2)
      else
        g_X10_buy_38 n  n x1 x2 x3 ((0 : Int32)) ((0 : Int32)) q7.2
set_option maxRecDepth 100000 in
set_option maxHeartbeats 4000000 in
theorem c_X10_buy (n : Nat) (x1 : Int32) (x2 : Int32) (x3 : Int32) (A : Mem) (q : Int32 × Mem) (h : f_X10_buy n x1 x2 x3 A = some q) : Ct yX10_buy cX10_buy 9 (some .int) 4 [.ref 80, .int x1, .int x2, .int x3] A (RI q) := by
  unfold f_X10_buy at h
  refine ct_of (by decide) (Nat.le_of_ble_eq_true rfl) ?_
  show Ev cX10_buy 9 RX10 (some .int) 4 none 0 [(0, .ref 80), (1, .int x1), (2, .int x2), (3, .int x3)] [] A (RI q)
  refine ev_iload_n 1 dX10_buy_0 rfl rfl ?_
  obtain ⟨q1, e2, h⟩ := bd_c h
  refine ev_callSi (av := [.int x1]) dX10_buy_1 (c_X10_isAgent n x1  A q1 e2) mk_X10_isAgent lk_X10_155 is_X10_isAgent rfl (by decide) (by decide) (Nat.le_of_ble_eq_true rfl) rfl ?_
  refine ev_if_ne (tgt := 10) dX10_buy_4 (by decide) (fun c3 => ?_) (fun c3 => ?_)
  · have h := if_f c3 h
    refine ev_iload_n 2 dX10_buy_10 rfl rfl ?_
    obtain ⟨q4, e5, h⟩ := bd_c h
    refine ev_callSi (av := [.int x2]) dX10_buy_11 (c_X10_isDay n x2  q1.2 q4 e5) mk_X10_isDay lk_X10_142 is_X10_isDay rfl (by decide) (by decide) (Nat.le_of_ble_eq_true rfl) rfl ?_
    refine ev_if_eq (tgt := 29) dX10_buy_14 (by decide) (fun c6 => ?_) (fun c6 => ?_)
    · have h := if_t c6 h
      refine ev_bipush (v := -3) dX10_buy_29 (by decide) ?_
      cases h
      exact ev_iret dX10_buy_31 rfl rfl ⟨rfl, rfl⟩
    · have h := if_f c6 h
      refine ev_iload_n 3 dX10_buy_17 rfl rfl ?_
      refine ev_i2l dX10_buy_18 ?_
      refine ev_lconst (v := 0) dX10_buy_19 (by decide) ?_
      refine ev_ldc2 dX10_buy_20 kc_X10_301 ?_
      obtain ⟨q7, e8, h⟩ := bd_c h
      refine ev_callSi (av := [.long ((x3).toInt64), .long ((0 : Int64)), .long ((100 : Int64))]) dX10_buy_23 (c_X10_in n ((x3).toInt64) ((0 : Int64)) ((100 : Int64))  q4.2 q7 e8) mk_X10_in lk_X10_121 is_X10_in rfl (by decide) (by decide) (Nat.le_of_ble_eq_true rfl) rfl ?_
      refine ev_if_ne (tgt := 32) dX10_buy_26 (by decide) (fun c9 => ?_) (fun c9 => ?_)
      · have h := if_f c9 h
        refine ev_iconst (v := 0) dX10_buy_32 (by decide) ?_
        refine ev_istore (ls' := [(4, .int ((0 : Int32))), (0, .ref 80), (1, .int x1), (2, .int x2), (3, .int x3)]) dX10_buy_33 (by decide) rfl ?_
        refine ev_iconst (v := 0) dX10_buy_35 (by decide) ?_
        refine ev_istore (ls' := [(5, .int ((0 : Int32))), (4, .int ((0 : Int32))), (0, .ref 80), (1, .int x1), (2, .int x2), (3, .int x3)]) dX10_buy_36 (by decide) rfl ?_
        refine ev_pick [2, 3, 4, 5, 1, 0] (ls' := [(0, .ref 80), (1, .int x1), (2, .int x2), (3, .int x3), (4, .int ((0 : Int32))), (5, .int ((0 : Int32)))]) rfl ?_
        exact (l_X10_buy_38 n   n) x1 x2 x3 ((0 : Int32)) ((0 : Int32)) _ q h
      · have h := if_t c9 h
        refine ev_bipush (v := -3) dX10_buy_29 (by decide) ?_
        cases h
        exact ev_iret dX10_buy_31 rfl rfl ⟨rfl, rfl⟩
  · have h := if_t c3 h
    refine ev_bipush (v := -2) dX10_buy_7 (by decide) ?_
    cases h
    exact ev_iret dX10_buy_9 rfl rfl ⟨rfl, rfl⟩
def f_X10_sign (n : Nat) (x1 : Int32) (x2 : Int32) (x3 : Int32) (x4 : Int32) (A : Mem) : Option (Int32 × Mem) :=
  (f_X10_isDay n x1 A).bind fun q1 =>
  if q1.1 = 0 then
    some ((-3 : Int32), q1.2)
  else
    (f_X10_isDay n x4 q1.2).bind fun q4 =>
    if q4.1 = 0 then
      some ((-3 : Int32), q4.2)
    else
      if (q4.2 80 42) = ((12 : Int32)) then
        some ((-5 : Int32), q4.2)
      else
        if ¬ (q4.2 80 42) < 0 ∧ (q4.2 80 42).toNatClampNeg < 12 then
          if ¬ ((st2 q4.2 113 (q4.2 80 42).toNatClampNeg x1) 80 42) < 0 ∧ ((st2 q4.2 113 (q4.2 80 42).toNatClampNeg x1) 80 42).toNatClampNeg < 12 then
            if ¬ ((st2 (st2 q4.2 113 (q4.2 80 42).toNatClampNeg x1) 114 ((st2 q4.2 113 (q4.2 80 42).toNatClampNeg x1) 80 42).toNatClampNeg x2) 80 42) < 0 ∧ ((st2 (st2 q4.2 113 (q4.2 80 42).toNatClampNeg x1) 114 ((st2 q4.2 113 (q4.2 80 42).toNatClampNeg x1) 80 42).toNatClampNeg x2) 80 42).toNatClampNeg < 12 then
              if ¬ ((st2 (st2 (st2 q4.2 113 (q4.2 80 42).toNatClampNeg x1) 114 ((st2 q4.2 113 (q4.2 80 42).toNatClampNeg x1) 80 42).toNatClampNeg x2) 115 ((st2 (st2 q4.2 113 (q4.2 80 42).toNatClampNeg x1) 114 ((st2 q4.2 113 (q4.2 80 42).toNatClampNeg x1) 80 42).toNatClampNeg x2) 80 42).toNatClampNeg x3) 80 42) < 0 ∧ ((st2 (st2 (st2 q4.2 113 (q4.2 80 42).toNatClampNeg x1) 114 ((st2 q4.2 113 (q4.2 80 42).toNatClampNeg x1) 80 42).toNatClampNeg x2) 115 ((st2 (st2 q4.2 113 (q4.2 80 42).toNatClampNeg x1) 114 ((st2 q4.2 113 (q4.2 80 42).toNatClampNeg x1) 80 42).toNatClampNeg x2) 80 42).toNatClampNeg x3) 80 42).toNatClampNeg < 12 then
                some ((st2 (st2 (st2 (st2 (st2 q4.2 113 (q4.2 80 42).toNatClampNeg x1) 114 ((st2 q4.2 113 (q4.2 80 42).toNatClampNeg x1) 80 42).toNatClampNeg x2) 115 ((st2 (st2 q4.2 113 (q4.2 80 42).toNatClampNeg x1) 114 ((st2 q4.2 113 (q4.2 80 42).toNatClampNeg x1) 80 42).toNatClampNeg x2) 80 42).toNatClampNeg x3) 116 ((st2 (st2 (st2 q4.2 113 (q4.2 80 42).toNatClampNeg x1) 114 ((st2 q4.2 113 (q4.2 80 42).toNatClampNeg x1) 80 42).toNatClampNeg x2) 115 ((st2 (st2 q4.2 113 (q4.2 80 42).toNatClampNeg x1) 114 ((st2 q4.2 113 (q4.2 80 42).toNatClampNeg x1) 80 42).toNatClampNeg x2) 80 42).toNatClampNeg x3) 80 42).toNatClampNeg x4) 80 42 (((st2 (st2 (st2 (st2 q4.2 113 (q4.2 80 42).toNatClampNeg x1) 114 ((st2 q4.2 113 (q4.2 80 42).toNatClampNeg x1) 80 42).toNatClampNeg x2) 115 ((st2 (st2 q4.2 113 (q4.2 80 42).toNatClampNeg x1) 114 ((st2 q4.2 113 (q4.2 80 42).toNatClampNeg x1) 80 42).toNatClampNeg x2) 80 42).toNatClampNeg x3) 116 ((st2 (st2 (st2 q4.2 113 (q4.2 80 42).toNatClampNeg x1) 114 ((st2 q4.2 113 (q4.2 80 42).toNatClampNeg x1) 80 42).toNatClampNeg x2) 115 ((st2 (st2 q4.2 113 (q4.2 80 42).toNatClampNeg x1) 114 ((st2 q4.2 113 (q4.2 80 42).toNatClampNeg x1) 80 42).toNatClampNeg x2) 80 42).toNatClampNeg x3) 80 42).toNatClampNeg x4) 80 42) + ((1 : Int32)))) 80 42, st2 (st2 (st2 (st2 (st2 q4.2 113 (q4.2 80 42).toNatClampNeg x1) 114 ((st2 q4.2 113 (q4.2 80 42).toNatClampNeg x1) 80 42).toNatClampNeg x2) 115 ((st2 (st2 q4.2 113 (q4.2 80 42).toNatClampNeg x1) 114 ((st2 q4.2 113 (q4.2 80 42).toNatClampNeg x1) 80 42).toNatClampNeg x2) 80 42).toNatClampNeg x3) 116 ((st2 (st2 (st2 q4.2 113 (q4.2 80 42).toNatClampNeg x1) 114 ((st2 q4.2 113 (q4.2 80 42).toNatClampNeg x1) 80 42).toNatClampNeg x2) 115 ((st2 (st2 q4.2 113 (q4.2 80 42).toNatClampNeg x1) 114 ((st2 q4.2 113 (q4.2 80 42).toNatClampNeg x1) 80 42).toNatClampNeg x2) 80 42).toNatClampNeg x3) 80 42).toNatClampNeg x4) 80 42 (((st2 (st2 (st2 (st2 q4.2 113 (q4.2 80 42).toNatClampNeg x1) 114 ((st2 q4.2 113 (q4.2 80 42).toNatClampNeg x1) 80 42).toNatClampNeg x2) 115 ((st2 (st2 q4.2 113 (q4.2 80 42).toNatClampNeg x1) 114 ((st2 q4.2 113 (q4.2 80 42).toNatClampNeg x1) 80 42).toNatClampNeg x2) 80 42).toNatClampNeg x3) 116 ((st2 (st2 (st2 q4.2 113 (q4.2 80 42).toNatClampNeg x1) 114 ((st2 q4.2 113 (q4.2 80 42).toNatClampNeg x1) 80 42).toNatClampNeg x2) 115 ((st2 (st2 q4.2 113 (q4.2 80 42).toNatClampNeg x1) 114 ((st2 q4.2 113 (q4.2 80 42).toNatClampNeg x1) 80 42).toNatClampNeg x2) 80 42).toNatClampNeg x3) 80 42).toNatClampNeg x4) 80 42) + ((1 : Int32))))
              else
                none
            else
              none
          else
            none
        else
          none
set_option maxRecDepth 100000 in
set_option maxHeartbeats 4000000 in
theorem c_X10_sign (n : Nat) (x1 : Int32) (x2 : Int32) (x3 : Int32) (x4 : Int32) (A : Mem) (q : Int32 × Mem) (h : f_X10_sign n x1 x2 x3 x4 A = some q) : Ct yX10_sign cX10_sign 5 (some .int) 2 [.ref 80, .int x1, .int x2, .int x3, .int x4] A (RI q) := by
  unfold f_X10_sign at h
  refine ct_of (by decide) (Nat.le_of_ble_eq_true rfl) ?_
  show Ev cX10_sign 5 RX10 (some .int) 2 none 0 [(0, .ref 80), (1, .int x1), (2, .int x2), (3, .int x3), (4, .int x4)] [] A (RI q)
  refine ev_iload_n 1 dX10_sign_0 rfl rfl ?_
  obtain ⟨q1, e2, h⟩ := bd_c h
  refine ev_callSi (av := [.int x1]) dX10_sign_1 (c_X10_isDay n x1  A q1 e2) mk_X10_isDay lk_X10_142 is_X10_isDay rfl (by decide) (by decide) (Nat.le_of_ble_eq_true rfl) rfl ?_
  refine ev_if_eq (tgt := 15) dX10_sign_4 (by decide) (fun c3 => ?_) (fun c3 => ?_)
  · have h := if_t c3 h
    refine ev_bipush (v := -3) dX10_sign_15 (by decide) ?_
    cases h
    exact ev_iret dX10_sign_17 rfl rfl ⟨rfl, rfl⟩
  · have h := if_f c3 h
    refine ev_iload 4 dX10_sign_7 rfl ?_
    obtain ⟨q4, e5, h⟩ := bd_c h
    refine ev_callSi (av := [.int x4]) dX10_sign_9 (c_X10_isDay n x4  q1.2 q4 e5) mk_X10_isDay lk_X10_142 is_X10_isDay rfl (by decide) (by decide) (Nat.le_of_ble_eq_true rfl) rfl ?_
    refine ev_if_ne (tgt := 18) dX10_sign_12 (by decide) (fun c6 => ?_) (fun c6 => ?_)
    · have h := if_f c6 h
      refine ev_aload_n 0 dX10_sign_18 rfl rfl ?_
      refine ev_getI dX10_sign_19 fl_X10_306 (by decide) rfl (by decide) (by decide) rfl ?_
      refine ev_bipush (v := 12) dX10_sign_22 (by decide) ?_
      refine ev_icmp_ne (tgt := 30) dX10_sign_24 (by decide) (fun c7 => ?_) (fun c7 => ?_)
      · have h := if_f c7 h
        refine ev_aload_n 0 dX10_sign_30 rfl rfl ?_
        refine ev_getR (r := 113) dX10_sign_31 fl_X10_107 (by decide) rfl (by decide) (by decide) rfl ?_
        refine ev_aload_n 0 dX10_sign_34 rfl rfl ?_
        refine ev_getI dX10_sign_35 fl_X10_306 (by decide) rfl (by decide) (by decide) rfl ?_
        refine ev_iload_n 1 dX10_sign_38 rfl rfl ?_
        obtain ⟨c8, h⟩ := if_c h
        refine ev_iastc 12 dX10_sign_39 (by decide) rfl rfl (by decide) c8 ?_
        refine ev_aload_n 0 dX10_sign_40 rfl rfl ?_
        refine ev_getR (r := 114) dX10_sign_41 fl_X10_110 (by decide) rfl (by decide) (by decide) rfl ?_
        refine ev_aload_n 0 dX10_sign_44 rfl rfl ?_
        refine ev_getI dX10_sign_45 fl_X10_306 (by decide) rfl (by decide) (by decide) rfl ?_
        refine ev_iload_n 2 dX10_sign_48 rfl rfl ?_
        obtain ⟨c9, h⟩ := if_c h
        refine ev_iastc 12 dX10_sign_49 (by decide) rfl rfl (by decide) c9 ?_
        refine ev_aload_n 0 dX10_sign_50 rfl rfl ?_
        refine ev_getR (r := 115) dX10_sign_51 fl_X10_113 (by decide) rfl (by decide) (by decide) rfl ?_
        refine ev_aload_n 0 dX10_sign_54 rfl rfl ?_
        refine ev_getI dX10_sign_55 fl_X10_306 (by decide) rfl (by decide) (by decide) rfl ?_
        refine ev_iload_n 3 dX10_sign_58 rfl rfl ?_
        obtain ⟨c10, h⟩ := if_c h
        refine ev_iastc 12 dX10_sign_59 (by decide) rfl rfl (by decide) c10 ?_
        refine ev_aload_n 0 dX10_sign_60 rfl rfl ?_
        refine ev_getR (r := 116) dX10_sign_61 fl_X10_116 (by decide) rfl (by decide) (by decide) rfl ?_
        refine ev_aload_n 0 dX10_sign_64 rfl rfl ?_
        refine ev_getI dX10_sign_65 fl_X10_306 (by decide) rfl (by decide) (by decide) rfl ?_
        refine ev_iload 4 dX10_sign_68 rfl ?_
        obtain ⟨c11, h⟩ := if_c h
        refine ev_iastc 12 dX10_sign_70 (by decide) rfl rfl (by decide) c11 ?_
        refine ev_aload_n 0 dX10_sign_71 rfl rfl ?_
        refine ev_dup dX10_sign_72 rfl ?_
        refine ev_getI dX10_sign_73 fl_X10_306 (by decide) rfl (by decide) (by decide) rfl ?_
        refine ev_iconst (v := 1) dX10_sign_76 (by decide) ?_
        refine ev_iadd dX10_sign_77 ?_
        refine ev_put2 dX10_sign_78 fl_X10_306 pk_10_42 (by decide) rfl (by decide) (by decide) rfl ?_
        refine ev_aload_n 0 dX10_sign_81 rfl rfl ?_
        refine ev_getI dX10_sign_82 fl_X10_306 (by decide) rfl (by decide) (by decide) rfl ?_
        cases h
        exact ev_iret dX10_sign_85 rfl rfl ⟨rfl, rfl⟩
      · have h := if_t c7 h
        refine ev_bipush (v := -5) dX10_sign_27 (by decide) ?_
        cases h
        exact ev_iret dX10_sign_29 rfl rfl ⟨rfl, rfl⟩
    · have h := if_t c6 h
      refine ev_bipush (v := -3) dX10_sign_15 (by decide) ?_
      cases h
      exact ev_iret dX10_sign_17 rfl rfl ⟨rfl, rfl⟩
def f_X10_question (n : Nat) (x1 : Int32) (x2 : Int32) (x3 : Int32) (x4 : Int32) (A : Mem) : Option (Int32 × Mem) :=
  (f_X10_isPlace n x2 A).bind fun q1 =>
  if q1.1 = 0 then
    some ((-2 : Int32), q1.2)
  else
    (f_X10_isKind n x3 q1.2).bind fun q4 =>
    if q4.1 = 0 then
      some ((-2 : Int32), q4.2)
    else
      (f_X10_sign n x1 x2 x3 x4 q4.2).bind fun q7 =>
      some (q7.1, q7.2)
set_option maxRecDepth 100000 in
set_option maxHeartbeats 4000000 in
theorem c_X10_question (n : Nat) (x1 : Int32) (x2 : Int32) (x3 : Int32) (x4 : Int32) (A : Mem) (q : Int32 × Mem) (h : f_X10_question n x1 x2 x3 x4 A = some q) : Ct yX10_question cX10_question 5 (some .int) 3 [.ref 80, .int x1, .int x2, .int x3, .int x4] A (RI q) := by
  unfold f_X10_question at h
  refine ct_of (by decide) (Nat.le_of_ble_eq_true rfl) ?_
  show Ev cX10_question 5 RX10 (some .int) 3 none 0 [(0, .ref 80), (1, .int x1), (2, .int x2), (3, .int x3), (4, .int x4)] [] A (RI q)
  refine ev_iload_n 2 dX10_question_0 rfl rfl ?_
  obtain ⟨q1, e2, h⟩ := bd_c h
  refine ev_callSi (av := [.int x2]) dX10_question_1 (c_X10_isPlace n x2  A q1 e2) mk_X10_isPlace lk_X10_133 is_X10_isPlace rfl (by decide) (by decide) (Nat.le_of_ble_eq_true rfl) rfl ?_
  refine ev_if_eq (tgt := 26) dX10_question_4 (by decide) (fun c3 => ?_) (fun c3 => ?_)
  · have h := if_t c3 h
    refine ev_bipush (v := -2) dX10_question_26 (by decide) ?_
    cases h
    exact ev_iret dX10_question_28 rfl rfl ⟨rfl, rfl⟩
  · have h := if_f c3 h
    refine ev_iload_n 3 dX10_question_7 rfl rfl ?_
    obtain ⟨q4, e5, h⟩ := bd_c h
    refine ev_callSi (av := [.int x3]) dX10_question_8 (c_X10_isKind n x3  q1.2 q4 e5) mk_X10_isKind lk_X10_139 is_X10_isKind rfl (by decide) (by decide) (Nat.le_of_ble_eq_true rfl) rfl ?_
    refine ev_if_eq (tgt := 26) dX10_question_11 (by decide) (fun c6 => ?_) (fun c6 => ?_)
    · have h := if_t c6 h
      refine ev_bipush (v := -2) dX10_question_26 (by decide) ?_
      cases h
      exact ev_iret dX10_question_28 rfl rfl ⟨rfl, rfl⟩
    · have h := if_f c6 h
      refine ev_aload_n 0 dX10_question_14 rfl rfl ?_
      refine ev_iload_n 1 dX10_question_15 rfl rfl ?_
      refine ev_iload_n 2 dX10_question_16 rfl rfl ?_
      refine ev_iload_n 3 dX10_question_17 rfl rfl ?_
      refine ev_iload 4 dX10_question_18 rfl ?_
      obtain ⟨q7, e8, h⟩ := bd_c h
      refine ev_callVi (av := [.int x1, .int x2, .int x3, .int x4]) dX10_question_20 (c_X10_sign n x1 x2 x3 x4  q4.2 q7 e8) mk_X10_sign lk_X10_309 iv_X10_sign (Or.inl ⟨10, _, by decide, rfl, by decide, rfl, rfl⟩) rfl (by decide) (by decide) (Nat.le_of_ble_eq_true rfl) rfl ?_
      refine ev_goto (tgt := 28) dX10_question_23 (by decide) ?_
      cases h
      exact ev_iret dX10_question_28 rfl rfl ⟨rfl, rfl⟩
def f_X10_pay (n : Nat) (x1 : Int32) (x2 : Int32) (A : Mem) : Option (Int32 × Mem) :=
  (f_X10_isAgent n x2 A).bind fun q1 =>
  if q1.1 = 0 then
    some ((-2 : Int32), q1.2)
  else
    (f_X10_sign n x1 ((-1 : Int32)) x2 ((0 : Int32)) q1.2).bind fun q4 =>
    some (q4.1, q4.2)
set_option maxRecDepth 100000 in
set_option maxHeartbeats 4000000 in
theorem c_X10_pay (n : Nat) (x1 : Int32) (x2 : Int32) (A : Mem) (q : Int32 × Mem) (h : f_X10_pay n x1 x2 A = some q) : Ct yX10_pay cX10_pay 3 (some .int) 3 [.ref 80, .int x1, .int x2] A (RI q) := by
  unfold f_X10_pay at h
  refine ct_of (by decide) (Nat.le_of_ble_eq_true rfl) ?_
  show Ev cX10_pay 3 RX10 (some .int) 3 none 0 [(0, .ref 80), (1, .int x1), (2, .int x2)] [] A (RI q)
  refine ev_iload_n 2 dX10_pay_0 rfl rfl ?_
  obtain ⟨q1, e2, h⟩ := bd_c h
  refine ev_callSi (av := [.int x2]) dX10_pay_1 (c_X10_isAgent n x2  A q1 e2) mk_X10_isAgent lk_X10_155 is_X10_isAgent rfl (by decide) (by decide) (Nat.le_of_ble_eq_true rfl) rfl ?_
  refine ev_if_eq (tgt := 18) dX10_pay_4 (by decide) (fun c3 => ?_) (fun c3 => ?_)
  · have h := if_t c3 h
    refine ev_bipush (v := -2) dX10_pay_18 (by decide) ?_
    cases h
    exact ev_iret dX10_pay_20 rfl rfl ⟨rfl, rfl⟩
  · have h := if_f c3 h
    refine ev_aload_n 0 dX10_pay_7 rfl rfl ?_
    refine ev_iload_n 1 dX10_pay_8 rfl rfl ?_
    refine ev_iconst (v := -1) dX10_pay_9 (by decide) ?_
    refine ev_iload_n 2 dX10_pay_10 rfl rfl ?_
    refine ev_iconst (v := 0) dX10_pay_11 (by decide) ?_
    obtain ⟨q4, e5, h⟩ := bd_c h
    refine ev_callVi (av := [.int x1, .int ((-1 : Int32)), .int x2, .int ((0 : Int32))]) dX10_pay_12 (c_X10_sign n x1 ((-1 : Int32)) x2 ((0 : Int32))  q1.2 q4 e5) mk_X10_sign lk_X10_309 iv_X10_sign (Or.inl ⟨10, _, by decide, rfl, by decide, rfl, rfl⟩) rfl (by decide) (by decide) (Nat.le_of_ble_eq_true rfl) rfl ?_
    refine ev_goto (tgt := 20) dX10_pay_15 (by decide) ?_
    cases h
    exact ev_iret dX10_pay_20 rfl rfl ⟨rfl, rfl⟩
def g_X10_which_4 (n : Nat) : Nat → Nat → Int32 → Int32 → Int32 → Int32 → Mem → Option (Int32 × Mem)
  | 0, _, _, _, _, _, _ => none
  | m + 1, b, x1, x2, x3, x4, A =>
    if b = 0 then
      if ((2 : Int32)) ≤ x2 then
        some (x1, A)
      else
        g_X10_which_4 n  m 1 x1 x2 ((1 : Int32)) ((0 : Int32)) A
    else
      if (A 80 42) ≤ x4 then
        if x3 = 0 then
          g_X10_which_4 n  m 0 (x1 ||| ((0 : Int32))) (x2 + 1) 0 0 A
        else
          g_X10_which_4 n  m 0 (x1 ||| (((1 : Int32)) <<< (x2 &&& 31))) (x2 + 1) 0 0 A
      else
        if x3 = 0 then
          g_X10_which_4 n  m 1 x1 x2 ((0 : Int32)) (x4 + 1) A
        else
          if ¬ x4 < 0 ∧ (x4).toNatClampNeg < 12 then
            if (A 114 (x4).toNatClampNeg) = ((-1 : Int32)) then
              (f_X10_trustOf n x2 (A 115 (x4).toNatClampNeg) (A 113 (x4).toNatClampNeg) A).bind fun q10 =>
              if q10.1 < ((50 : Int32)) then
                g_X10_which_4 n  m 1 x1 x2 ((0 : Int32)) (x4 + 1) q10.2
              else
                g_X10_which_4 n  m 1 x1 x2 ((1 : Int32)) (x4 + 1) q10.2
            else
              (f_X10_concludes n x2 (A 114 (x4).toNatClampNeg) (A 115 (x4).toNatClampNeg) (A 116 (x4).toNatClampNeg) (A 113 (x4).toNatClampNeg) A).bind fun q7 =>
              if q7.1 = ((-1 : Int32)) then
                g_X10_which_4 n  m 1 x1 x2 ((1 : Int32)) (x4 + 1) q7.2
              else
                g_X10_which_4 n  m 1 x1 x2 ((0 : Int32)) (x4 + 1) q7.2
          else
            none
set_option maxRecDepth 100000 in
set_option maxHeartbeats 4000000 in
theorem l_X10_which_4 (n : Nat) : ∀ (m : Nat), (∀ (x1 : Int32) (x2 : Int32) (x3 : Int32) (x4 : Int32) (A : Mem) (q : Int32 × Mem), g_X10_which_4 n  m 0 x1 x2 x3 x4 A = some q → Ev cX10_which 5 RX10 (some .int) 6 none 4 [(0, .ref 80), (1, .int x1), (2, .int x2)] [] A (RI q)) ∧ (∀ (x1 : Int32) (x2 : Int32) (x3 : Int32) (x4 : Int32) (A : Mem) (q : Int32 × Mem), g_X10_which_4 n  m 1 x1 x2 x3 x4 A = some q → Ev cX10_which 5 RX10 (some .int) 6 none 14 [(0, .ref 80), (1, .int x1), (2, .int x2), (3, .int x3), (4, .int x4)] [] A (RI q)) := by
  intro m
  induction m with
  | zero => exact ⟨fun x1 x2 x3 x4 A q h => absurd h (by simp [g_X10_which_4]), fun x1 x2 x3 x4 A q h => absurd h (by simp [g_X10_which_4])⟩
  | succ m ih =>
    constructor
    · intro x1 x2 x3 x4 A q h
      rw [g_X10_which_4] at h
      have h := if_t rfl h
      refine ev_iload_n 2 dX10_which_4 rfl rfl ?_
      refine ev_iconst (v := 2) dX10_which_5 (by decide) ?_
      refine ev_icmp_ge (tgt := 134) dX10_which_6 (by decide) (fun c1 => ?_) (fun c1 => ?_)
      · have h := if_t c1 h
        refine ev_iload_n 1 dX10_which_134 rfl rfl ?_
        cases h
        exact ev_iret dX10_which_135 rfl rfl ⟨rfl, rfl⟩
      · have h := if_f c1 h
        refine ev_iconst (v := 1) dX10_which_9 (by decide) ?_
        refine ev_istore_n (ls' := [(3, .int ((1 : Int32))), (0, .ref 80), (1, .int x1), (2, .int x2)]) dX10_which_10 rfl (by decide) rfl ?_
        refine ev_iconst (v := 0) dX10_which_11 (by decide) ?_
        refine ev_istore (ls' := [(4, .int ((0 : Int32))), (3, .int ((1 : Int32))), (0, .ref 80), (1, .int x1), (2, .int x2)]) dX10_which_12 (by decide) rfl ?_
        refine ev_pick [2, 3, 4, 1, 0] (ls' := [(0, .ref 80), (1, .int x1), (2, .int x2), (3, .int ((1 : Int32))), (4, .int ((0 : Int32)))]) rfl ?_
        exact ih.2 x1 x2 ((1 : Int32)) ((0 : Int32)) _ q h
    · intro x1 x2 x3 x4 A q h
      rw [g_X10_which_4] at h
      have h := if_f (by decide) h
      refine ev_iload 4 dX10_which_14 rfl ?_
      refine ev_aload_n 0 dX10_which_16 rfl rfl ?_
      refine ev_getI dX10_which_17 fl_X10_306 (by decide) rfl (by decide) (by decide) rfl ?_
      refine ev_icmp_ge (tgt := 114) dX10_which_20 (by decide) (fun c2 => ?_) (fun c2 => ?_)
      · have h := if_t c2 h
        refine ev_iload_n 1 dX10_which_114 rfl rfl ?_
        refine ev_iload_n 3 dX10_which_115 rfl rfl ?_
        refine ev_if_eq (tgt := 125) dX10_which_116 (by decide) (fun c3 => ?_) (fun c3 => ?_)
        · have h := if_t c3 h
          refine ev_iconst (v := 0) dX10_which_125 (by decide) ?_
          refine ev_ior dX10_which_126 ?_
          refine ev_istore_n (ls' := [(1, .int (x1 ||| ((0 : Int32)))), (0, .ref 80), (2, .int x2), (3, .int x3), (4, .int x4)]) dX10_which_127 rfl (by decide) rfl ?_
          refine ev_iinc (v := x2 + 1) (ls' := [(2, .int (x2 + 1)), (1, .int (x1 ||| ((0 : Int32)))), (0, .ref 80), (3, .int x3), (4, .int x4)]) 2 dX10_which_128 rfl rfl (by decide) rfl ?_
          refine ev_goto (tgt := 4) dX10_which_131 (by decide) ?_
          refine ev_pick [2, 1, 0] (ls' := [(0, .ref 80), (1, .int (x1 ||| ((0 : Int32)))), (2, .int (x2 + 1))]) rfl ?_
          exact ih.1 (x1 ||| ((0 : Int32))) (x2 + 1) 0 0 _ q h
        · have h := if_f c3 h
          refine ev_iconst (v := 1) dX10_which_119 (by decide) ?_
          refine ev_iload_n 2 dX10_which_120 rfl rfl ?_
          refine ev_ishl dX10_which_121 ?_
          refine ev_goto (tgt := 126) dX10_which_122 (by decide) ?_
          refine ev_ior dX10_which_126 ?_
          refine ev_istore_n (ls' := [(1, .int (x1 ||| (((1 : Int32)) <<< (x2 &&& 31)))), (0, .ref 80), (2, .int x2), (3, .int x3), (4, .int x4)]) dX10_which_127 rfl (by decide) rfl ?_
          refine ev_iinc (v := x2 + 1) (ls' := [(2, .int (x2 + 1)), (1, .int (x1 ||| (((1 : Int32)) <<< (x2 &&& 31)))), (0, .ref 80), (3, .int x3), (4, .int x4)]) 2 dX10_which_128 rfl rfl (by decide) rfl ?_
          refine ev_goto (tgt := 4) dX10_which_131 (by decide) ?_
          refine ev_pick [2, 1, 0] (ls' := [(0, .ref 80), (1, .int (x1 ||| (((1 : Int32)) <<< (x2 &&& 31)))), (2, .int (x2 + 1))]) rfl ?_
          exact ih.1 (x1 ||| (((1 : Int32)) <<< (x2 &&& 31))) (x2 + 1) 0 0 _ q h
      · have h := if_f c2 h
        refine ev_iload_n 3 dX10_which_23 rfl rfl ?_
        refine ev_if_eq (tgt := 106) dX10_which_24 (by decide) (fun c4 => ?_) (fun c4 => ?_)
        · have h := if_t c4 h
          refine ev_iconst (v := 0) dX10_which_106 (by decide) ?_
          refine ev_istore_n (ls' := [(3, .int ((0 : Int32))), (0, .ref 80), (1, .int x1), (2, .int x2), (4, .int x4)]) dX10_which_107 rfl (by decide) rfl ?_
          refine ev_iinc (v := x4 + 1) (ls' := [(4, .int (x4 + 1)), (3, .int ((0 : Int32))), (0, .ref 80), (1, .int x1), (2, .int x2)]) 4 dX10_which_108 rfl rfl (by decide) rfl ?_
          refine ev_goto (tgt := 14) dX10_which_111 (by decide) ?_
          refine ev_pick [2, 3, 4, 1, 0] (ls' := [(0, .ref 80), (1, .int x1), (2, .int x2), (3, .int ((0 : Int32))), (4, .int (x4 + 1))]) rfl ?_
          exact ih.2 x1 x2 ((0 : Int32)) (x4 + 1) _ q h
        · have h := if_f c4 h
          refine ev_aload_n 0 dX10_which_27 rfl rfl ?_
          refine ev_getR (r := 114) dX10_which_28 fl_X10_110 (by decide) rfl (by decide) (by decide) rfl ?_
          refine ev_iload 4 dX10_which_31 rfl ?_
          obtain ⟨c5, h⟩ := if_c h
          refine ev_ialdc 12 dX10_which_33 (by decide) rfl rfl (by decide) c5 ?_
          refine ev_iconst (v := -1) dX10_which_34 (by decide) ?_
          refine ev_icmp_ne (tgt := 65) dX10_which_35 (by decide) (fun c6 => ?_) (fun c6 => ?_)
          · have h := if_f c6 h
            refine ev_aload_n 0 dX10_which_65 rfl rfl ?_
            refine ev_iload_n 2 dX10_which_66 rfl rfl ?_
            refine ev_aload_n 0 dX10_which_67 rfl rfl ?_
            refine ev_getR (r := 114) dX10_which_68 fl_X10_110 (by decide) rfl (by decide) (by decide) rfl ?_
            refine ev_iload 4 dX10_which_71 rfl ?_
            refine ev_ialdc 12 dX10_which_73 (by decide) rfl rfl (by decide) c5 ?_
            refine ev_aload_n 0 dX10_which_74 rfl rfl ?_
            refine ev_getR (r := 115) dX10_which_75 fl_X10_113 (by decide) rfl (by decide) (by decide) rfl ?_
            refine ev_iload 4 dX10_which_78 rfl ?_
            refine ev_ialdc 12 dX10_which_80 (by decide) rfl rfl (by decide) c5 ?_
            refine ev_aload_n 0 dX10_which_81 rfl rfl ?_
            refine ev_getR (r := 116) dX10_which_82 fl_X10_116 (by decide) rfl (by decide) (by decide) rfl ?_
            refine ev_iload 4 dX10_which_85 rfl ?_
            refine ev_ialdc 12 dX10_which_87 (by decide) rfl rfl (by decide) c5 ?_
            refine ev_aload_n 0 dX10_which_88 rfl rfl ?_
            refine ev_getR (r := 113) dX10_which_89 fl_X10_107 (by decide) rfl (by decide) (by decide) rfl ?_
            refine ev_iload 4 dX10_which_92 rfl ?_
            refine ev_ialdc 12 dX10_which_94 (by decide) rfl rfl (by decide) c5 ?_
            obtain ⟨q7, e8, h⟩ := bd_c h
            refine ev_callVi (av := [.int x2, .int (A 114 (x4).toNatClampNeg), .int (A 115 (x4).toNatClampNeg), .int (A 116 (x4).toNatClampNeg), .int (A 113 (x4).toNatClampNeg)]) dX10_which_95 (c_X10_concludes n x2 (A 114 (x4).toNatClampNeg) (A 115 (x4).toNatClampNeg) (A 116 (x4).toNatClampNeg) (A 113 (x4).toNatClampNeg)  A q7 e8) mk_X10_concludes lk_X10_283 iv_X10_concludes (Or.inl ⟨10, _, by decide, rfl, by decide, rfl, rfl⟩) rfl (by decide) (by decide) (Nat.le_of_ble_eq_true rfl) rfl ?_
            refine ev_iconst (v := -1) dX10_which_98 (by decide) ?_
            refine ev_icmp_ne (tgt := 106) dX10_which_99 (by decide) (fun c9 => ?_) (fun c9 => ?_)
            · have h := if_f c9 h
              refine ev_iconst (v := 0) dX10_which_106 (by decide) ?_
              refine ev_istore_n (ls' := [(3, .int ((0 : Int32))), (0, .ref 80), (1, .int x1), (2, .int x2), (4, .int x4)]) dX10_which_107 rfl (by decide) rfl ?_
              refine ev_iinc (v := x4 + 1) (ls' := [(4, .int (x4 + 1)), (3, .int ((0 : Int32))), (0, .ref 80), (1, .int x1), (2, .int x2)]) 4 dX10_which_108 rfl rfl (by decide) rfl ?_
              refine ev_goto (tgt := 14) dX10_which_111 (by decide) ?_
              refine ev_pick [2, 3, 4, 1, 0] (ls' := [(0, .ref 80), (1, .int x1), (2, .int x2), (3, .int ((0 : Int32))), (4, .int (x4 + 1))]) rfl ?_
              exact ih.2 x1 x2 ((0 : Int32)) (x4 + 1) _ q h
            · have h := if_t c9 h
              refine ev_iconst (v := 1) dX10_which_102 (by decide) ?_
              refine ev_goto (tgt := 107) dX10_which_103 (by decide) ?_
              refine ev_istore_n (ls' := [(3, .int ((1 : Int32))), (0, .ref 80), (1, .int x1), (2, .int x2), (4, .int x4)]) dX10_which_107 rfl (by decide) rfl ?_
              refine ev_iinc (v := x4 + 1) (ls' := [(4, .int (x4 + 1)), (3, .int ((1 : Int32))), (0, .ref 80), (1, .int x1), (2, .int x2)]) 4 dX10_which_108 rfl rfl (by decide) rfl ?_
              refine ev_goto (tgt := 14) dX10_which_111 (by decide) ?_
              refine ev_pick [2, 3, 4, 1, 0] (ls' := [(0, .ref 80), (1, .int x1), (2, .int x2), (3, .int ((1 : Int32))), (4, .int (x4 + 1))]) rfl ?_
              exact ih.2 x1 x2 ((1 : Int32)) (x4 + 1) _ q h
          · have h := if_t c6 h
            refine ev_aload_n 0 dX10_which_38 rfl rfl ?_
            refine ev_iload_n 2 dX10_which_39 rfl rfl ?_
            refine ev_aload_n 0 dX10_which_40 rfl rfl ?_
            refine ev_getR (r := 115) dX10_which_41 fl_X10_113 (by decide) rfl (by decide) (by decide) rfl ?_
            refine ev_iload 4 dX10_which_44 rfl ?_
            refine ev_ialdc 12 dX10_which_46 (by decide) rfl rfl (by decide) c5 ?_
            refine ev_aload_n 0 dX10_which_47 rfl rfl ?_
            refine ev_getR (r := 113) dX10_which_48 fl_X10_107 (by decide) rfl (by decide) (by decide) rfl ?_
            refine ev_iload 4 dX10_which_51 rfl ?_
            refine ev_ialdc 12 dX10_which_53 (by decide) rfl rfl (by decide) c5 ?_
            obtain ⟨q10, e11, h⟩ := bd_c h
            refine ev_callVi (av := [.int x2, .int (A 115 (x4).toNatClampNeg), .int (A 113 (x4).toNatClampNeg)]) dX10_which_54 (c_X10_trustOf n x2 (A 115 (x4).toNatClampNeg) (A 113 (x4).toNatClampNeg)  A q10 e11) mk_X10_trustOf lk_X10_273 iv_X10_trustOf (Or.inl ⟨10, _, by decide, rfl, by decide, rfl, rfl⟩) rfl (by decide) (by decide) (Nat.le_of_ble_eq_true rfl) rfl ?_
            refine ev_bipush (v := 50) dX10_which_57 (by decide) ?_
            refine ev_icmp_lt (tgt := 106) dX10_which_59 (by decide) (fun c12 => ?_) (fun c12 => ?_)
            · have h := if_t c12 h
              refine ev_iconst (v := 0) dX10_which_106 (by decide) ?_
              refine ev_istore_n (ls' := [(3, .int ((0 : Int32))), (0, .ref 80), (1, .int x1), (2, .int x2), (4, .int x4)]) dX10_which_107 rfl (by decide) rfl ?_
              refine ev_iinc (v := x4 + 1) (ls' := [(4, .int (x4 + 1)), (3, .int ((0 : Int32))), (0, .ref 80), (1, .int x1), (2, .int x2)]) 4 dX10_which_108 rfl rfl (by decide) rfl ?_
              refine ev_goto (tgt := 14) dX10_which_111 (by decide) ?_
              refine ev_pick [2, 3, 4, 1, 0] (ls' := [(0, .ref 80), (1, .int x1), (2, .int x2), (3, .int ((0 : Int32))), (4, .int (x4 + 1))]) rfl ?_
              exact ih.2 x1 x2 ((0 : Int32)) (x4 + 1) _ q h
            · have h := if_f c12 h
              refine ev_goto (tgt := 102) dX10_which_62 (by decide) ?_
              refine ev_iconst (v := 1) dX10_which_102 (by decide) ?_
              refine ev_goto (tgt := 107) dX10_which_103 (by decide) ?_
              refine ev_istore_n (ls' := [(3, .int ((1 : Int32))), (0, .ref 80), (1, .int x1), (2, .int x2), (4, .int x4)]) dX10_which_107 rfl (by decide) rfl ?_
              refine ev_iinc (v := x4 + 1) (ls' := [(4, .int (x4 + 1)), (3, .int ((1 : Int32))), (0, .ref 80), (1, .int x1), (2, .int x2)]) 4 dX10_which_108 rfl rfl (by decide) rfl ?_
              refine ev_goto (tgt := 14) dX10_which_111 (by decide) ?_
              refine ev_pick [2, 3, 4, 1, 0] (ls' := [(0, .ref 80), (1, .int x1), (2, .int x2), (3, .int ((1 : Int32))), (4, .int (x4 + 1))]) rfl ?_
              exact ih.2 x1 x2 ((1 : Int32)) (x4 + 1) _ q h
def f_X10_which (n : Nat) (A : Mem) : Option (Int32 × Mem) :=
  g_X10_which_4 n  n 0 ((0 : Int32)) ((0 : Int32)) 0 0 A
set_option maxRecDepth 100000 in
set_option maxHeartbeats 4000000 in
theorem c_X10_which (n : Nat) (A : Mem) (q : Int32 × Mem) (h : f_X10_which n  A = some q) : Ct yX10_which cX10_which 5 (some .int) 6 [.ref 80] A (RI q) := by
  unfold f_X10_which at h
  refine ct_of (by decide) (Nat.le_of_ble_eq_true rfl) ?_
  show Ev cX10_which 5 RX10 (some .int) 6 none 0 [(0, .ref 80)] [] A (RI q)
  refine ev_iconst (v := 0) dX10_which_0 (by decide) ?_
  refine ev_istore_n (ls' := [(1, .int ((0 : Int32))), (0, .ref 80)]) dX10_which_1 rfl (by decide) rfl ?_
  refine ev_iconst (v := 0) dX10_which_2 (by decide) ?_
  refine ev_istore_n (ls' := [(2, .int ((0 : Int32))), (1, .int ((0 : Int32))), (0, .ref 80)]) dX10_which_3 rfl (by decide) rfl ?_
  refine ev_pick [2, 1, 0] (ls' := [(0, .ref 80), (1, .int ((0 : Int32))), (2, .int ((0 : Int32)))]) rfl ?_
  exact (l_X10_which_4 n   n).1 ((0 : Int32)) ((0 : Int32)) 0 0 _ q h
def f_X10_warning (n : Nat) (x1 : Int32) (x2 : Int32) (x3 : Int32) (A : Mem) : Option (Int32 × Mem) :=
  (f_X10_isWay n x1 A).bind fun q1 =>
  if q1.1 = 0 then
    some ((-2 : Int32), q1.2)
  else
    (f_X10_isDay n x2 q1.2).bind fun q4 =>
    if q4.1 = 0 then
      some ((-3 : Int32), q4.2)
    else
      (f_X10_in n ((x3).toInt64) ((0 : Int64)) ((1 : Int64)) q4.2).bind fun q7 =>
      if q7.1 = 0 then
        some ((-3 : Int32), q7.2)
      else
        if ¬ x1 < 0 ∧ (x1).toNatClampNeg < 3 then
          if x2 ≤ (q7.2 95 (x1).toNatClampNeg) then
            if x3 = 0 then
              some ((0 : Int32), q7.2)
            else
              some ((((0 : Int32)) + (q7.2 95 (x1).toNatClampNeg)) - x2, q7.2)
          else
            if x3 = 0 then
              some (x2 - (q7.2 95 (x1).toNatClampNeg), q7.2)
            else
              some (((x2 - (q7.2 95 (x1).toNatClampNeg)) + (q7.2 95 (x1).toNatClampNeg)) - x2, q7.2)
        else
          none
set_option maxRecDepth 100000 in
set_option maxHeartbeats 4000000 in
theorem c_X10_warning (n : Nat) (x1 : Int32) (x2 : Int32) (x3 : Int32) (A : Mem) (q : Int32 × Mem) (h : f_X10_warning n x1 x2 x3 A = some q) : Ct yX10_warning cX10_warning 5 (some .int) 2 [.ref 80, .int x1, .int x2, .int x3] A (RI q) := by
  unfold f_X10_warning at h
  refine ct_of (by decide) (Nat.le_of_ble_eq_true rfl) ?_
  show Ev cX10_warning 5 RX10 (some .int) 2 none 0 [(0, .ref 80), (1, .int x1), (2, .int x2), (3, .int x3)] [] A (RI q)
  refine ev_iload_n 1 dX10_warning_0 rfl rfl ?_
  obtain ⟨q1, e2, h⟩ := bd_c h
  refine ev_callSi (av := [.int x1]) dX10_warning_1 (c_X10_isWay n x1  A q1 e2) mk_X10_isWay lk_X10_222 is_X10_isWay rfl (by decide) (by decide) (Nat.le_of_ble_eq_true rfl) rfl ?_
  refine ev_if_ne (tgt := 10) dX10_warning_4 (by decide) (fun c3 => ?_) (fun c3 => ?_)
  · have h := if_f c3 h
    refine ev_iload_n 2 dX10_warning_10 rfl rfl ?_
    obtain ⟨q4, e5, h⟩ := bd_c h
    refine ev_callSi (av := [.int x2]) dX10_warning_11 (c_X10_isDay n x2  q1.2 q4 e5) mk_X10_isDay lk_X10_142 is_X10_isDay rfl (by decide) (by decide) (Nat.le_of_ble_eq_true rfl) rfl ?_
    refine ev_if_eq (tgt := 27) dX10_warning_14 (by decide) (fun c6 => ?_) (fun c6 => ?_)
    · have h := if_t c6 h
      refine ev_bipush (v := -3) dX10_warning_27 (by decide) ?_
      cases h
      exact ev_iret dX10_warning_29 rfl rfl ⟨rfl, rfl⟩
    · have h := if_f c6 h
      refine ev_iload_n 3 dX10_warning_17 rfl rfl ?_
      refine ev_i2l dX10_warning_18 ?_
      refine ev_lconst (v := 0) dX10_warning_19 (by decide) ?_
      refine ev_lconst (v := 1) dX10_warning_20 (by decide) ?_
      obtain ⟨q7, e8, h⟩ := bd_c h
      refine ev_callSi (av := [.long ((x3).toInt64), .long ((0 : Int64)), .long ((1 : Int64))]) dX10_warning_21 (c_X10_in n ((x3).toInt64) ((0 : Int64)) ((1 : Int64))  q4.2 q7 e8) mk_X10_in lk_X10_121 is_X10_in rfl (by decide) (by decide) (Nat.le_of_ble_eq_true rfl) rfl ?_
      refine ev_if_ne (tgt := 30) dX10_warning_24 (by decide) (fun c9 => ?_) (fun c9 => ?_)
      · have h := if_f c9 h
        refine ev_iload_n 2 dX10_warning_30 rfl rfl ?_
        refine ev_aload_n 0 dX10_warning_31 rfl rfl ?_
        refine ev_getR (r := 95) dX10_warning_32 fl_X10_53 (by decide) rfl (by decide) (by decide) rfl ?_
        refine ev_iload_n 1 dX10_warning_35 rfl rfl ?_
        obtain ⟨c10, h⟩ := if_c h
        refine ev_ialdc 3 dX10_warning_36 (by decide) rfl rfl (by decide) c10 ?_
        refine ev_icmp_le (tgt := 51) dX10_warning_37 (by decide) (fun c11 => ?_) (fun c11 => ?_)
        · have h := if_t c11 h
          refine ev_iconst (v := 0) dX10_warning_51 (by decide) ?_
          refine ev_istore (ls' := [(4, .int ((0 : Int32))), (0, .ref 80), (1, .int x1), (2, .int x2), (3, .int x3)]) dX10_warning_52 (by decide) rfl ?_
          refine ev_iload_n 4 dX10_warning_54 rfl rfl ?_
          refine ev_if_ne (tgt := 63) dX10_warning_55 (by decide) (fun c12 => ?_) (fun c12 => ?_)
          · have h := if_f c12 h
            refine ev_iload 0 dX10_warning_63 rfl ?_
            refine ev_aload_n 1 dX10_warning_65 rfl rfl ?_
            refine ev_getR (r := 95) dX10_warning_66 fl_X10_53 (by decide) rfl (by decide) (by decide) rfl ?_
            refine ev_iload_n 2 dX10_warning_69 rfl rfl ?_
            refine ev_ialdc 3 dX10_warning_70 (by decide) rfl rfl (by decide) c10 ?_
            refine ev_iadd dX10_warning_71 ?_
            refine ev_iload_n 3 dX10_warning_72 rfl rfl ?_
            refine ev_isub dX10_warning_73 ?_
            cases h
            exact ev_iret dX10_warning_74 rfl rfl ⟨rfl, rfl⟩
          · have h := if_t c12 h
            refine ev_iload 0 dX10_warning_58 rfl ?_
            refine ev_goto (tgt := 74) dX10_warning_60 (by decide) ?_
            cases h
            exact ev_iret dX10_warning_74 rfl rfl ⟨rfl, rfl⟩
        · have h := if_f c11 h
          refine ev_iload_n 2 dX10_warning_40 rfl rfl ?_
          refine ev_aload_n 0 dX10_warning_41 rfl rfl ?_
          refine ev_getR (r := 95) dX10_warning_42 fl_X10_53 (by decide) rfl (by decide) (by decide) rfl ?_
          refine ev_iload_n 1 dX10_warning_45 rfl rfl ?_
          refine ev_ialdc 3 dX10_warning_46 (by decide) rfl rfl (by decide) c10 ?_
          refine ev_isub dX10_warning_47 ?_
          refine ev_goto (tgt := 52) dX10_warning_48 (by decide) ?_
          refine ev_istore (ls' := [(4, .int (x2 - (q7.2 95 (x1).toNatClampNeg))), (0, .ref 80), (1, .int x1), (2, .int x2), (3, .int x3)]) dX10_warning_52 (by decide) rfl ?_
          refine ev_iload_n 4 dX10_warning_54 rfl rfl ?_
          refine ev_if_ne (tgt := 63) dX10_warning_55 (by decide) (fun c13 => ?_) (fun c13 => ?_)
          · have h := if_f c13 h
            refine ev_iload 0 dX10_warning_63 rfl ?_
            refine ev_aload_n 1 dX10_warning_65 rfl rfl ?_
            refine ev_getR (r := 95) dX10_warning_66 fl_X10_53 (by decide) rfl (by decide) (by decide) rfl ?_
            refine ev_iload_n 2 dX10_warning_69 rfl rfl ?_
            refine ev_ialdc 3 dX10_warning_70 (by decide) rfl rfl (by decide) c10 ?_
            refine ev_iadd dX10_warning_71 ?_
            refine ev_iload_n 3 dX10_warning_72 rfl rfl ?_
            refine ev_isub dX10_warning_73 ?_
            cases h
            exact ev_iret dX10_warning_74 rfl rfl ⟨rfl, rfl⟩
          · have h := if_t c13 h
            refine ev_iload 0 dX10_warning_58 rfl ?_
            refine ev_goto (tgt := 74) dX10_warning_60 (by decide) ?_
            cases h
            exact ev_iret dX10_warning_74 rfl rfl ⟨rfl, rfl⟩
      · have h := if_t c9 h
        refine ev_bipush (v := -3) dX10_warning_27 (by decide) ?_
        cases h
        exact ev_iret dX10_warning_29 rfl rfl ⟨rfl, rfl⟩
  · have h := if_t c3 h
    refine ev_bipush (v := -2) dX10_warning_7 (by decide) ?_
    cases h
    exact ev_iret dX10_warning_9 rfl rfl ⟨rfl, rfl⟩
def f_X10_count (n : Nat) (x1 : Int32) (A : Mem) : Option (Int32 × Mem) :=
  if x1 = 0 then
    some (A 80 7, A)
  else
    if x1 = 1 then
      some (A 80 10, A)
    else
      if x1 = 2 then
        some (A 80 25, A)
      else
        if x1 = 3 then
          some (A 80 37, A)
        else
          if x1 = 4 then
            some (A 80 26, A)
          else
            if x1 = 5 then
              some (A 80 42, A)
            else
              if x1 = 6 then
                some ((A 108 0) + (A 108 1), A)
              else
                some ((-3 : Int32), A)
set_option maxRecDepth 100000 in
set_option maxHeartbeats 4000000 in
theorem c_X10_count (n : Nat) (x1 : Int32) (A : Mem) (q : Int32 × Mem) (h : f_X10_count n x1 A = some q) : Ct yX10_count cX10_count 2 (some .int) 0 [.ref 80, .int x1] A (RI q) := by
  unfold f_X10_count at h
  refine ct_of (by decide) (Nat.le_of_ble_eq_true rfl) ?_
  show Ev cX10_count 2 RX10 (some .int) 0 none 0 [(0, .ref 80), (1, .int x1)] [] A (RI q)
  refine ev_iload_n 1 dX10_count_0 rfl rfl ?_
  by_cases c1 : x1 = 0
  · have h := if_t c1 h
    refine ev_tin 0 (off := 43) (tgt := 44) dX10_count_1 c1 (by decide) (by decide) (by decide) (by decide) ?_
    refine ev_aload_n 0 dX10_count_44 rfl rfl ?_
    refine ev_getI dX10_count_45 fl_X10_147 (by decide) rfl (by decide) (by decide) rfl ?_
    cases h
    exact ev_iret dX10_count_48 rfl rfl ⟨rfl, rfl⟩
  · have h := if_f c1 h
    by_cases c2 : x1 = 1
    · have h := if_t c2 h
      refine ev_tin 1 (off := 48) (tgt := 49) dX10_count_1 c2 (by decide) (by decide) (by decide) (by decide) ?_
      refine ev_aload_n 0 dX10_count_49 rfl rfl ?_
      refine ev_getI dX10_count_50 fl_X10_160 (by decide) rfl (by decide) (by decide) rfl ?_
      cases h
      exact ev_iret dX10_count_53 rfl rfl ⟨rfl, rfl⟩
    · have h := if_f c2 h
      by_cases c3 : x1 = 2
      · have h := if_t c3 h
        refine ev_tin 2 (off := 53) (tgt := 54) dX10_count_1 c3 (by decide) (by decide) (by decide) (by decide) ?_
        refine ev_aload_n 0 dX10_count_54 rfl rfl ?_
        refine ev_getI dX10_count_55 fl_X10_231 (by decide) rfl (by decide) (by decide) rfl ?_
        cases h
        exact ev_iret dX10_count_58 rfl rfl ⟨rfl, rfl⟩
      · have h := if_f c3 h
        by_cases c4 : x1 = 3
        · have h := if_t c4 h
          refine ev_tin 3 (off := 58) (tgt := 59) dX10_count_1 c4 (by decide) (by decide) (by decide) (by decide) ?_
          refine ev_aload_n 0 dX10_count_59 rfl rfl ?_
          refine ev_getI dX10_count_60 fl_X10_286 (by decide) rfl (by decide) (by decide) rfl ?_
          cases h
          exact ev_iret dX10_count_63 rfl rfl ⟨rfl, rfl⟩
        · have h := if_f c4 h
          by_cases c5 : x1 = 4
          · have h := if_t c5 h
            refine ev_tin 4 (off := 63) (tgt := 64) dX10_count_1 c5 (by decide) (by decide) (by decide) (by decide) ?_
            refine ev_aload_n 0 dX10_count_64 rfl rfl ?_
            refine ev_getI dX10_count_65 fl_X10_263 (by decide) rfl (by decide) (by decide) rfl ?_
            cases h
            exact ev_iret dX10_count_68 rfl rfl ⟨rfl, rfl⟩
          · have h := if_f c5 h
            by_cases c6 : x1 = 5
            · have h := if_t c6 h
              refine ev_tin 5 (off := 68) (tgt := 69) dX10_count_1 c6 (by decide) (by decide) (by decide) (by decide) ?_
              refine ev_aload_n 0 dX10_count_69 rfl rfl ?_
              refine ev_getI dX10_count_70 fl_X10_306 (by decide) rfl (by decide) (by decide) rfl ?_
              cases h
              exact ev_iret dX10_count_73 rfl rfl ⟨rfl, rfl⟩
            · have h := if_f c6 h
              by_cases c7 : x1 = 6
              · have h := if_t c7 h
                refine ev_tin 6 (off := 73) (tgt := 74) dX10_count_1 c7 (by decide) (by decide) (by decide) (by decide) ?_
                refine ev_aload_n 0 dX10_count_74 rfl rfl ?_
                refine ev_getR (r := 108) dX10_count_75 fl_X10_92 (by decide) rfl (by decide) (by decide) rfl ?_
                refine ev_iconst (v := 0) dX10_count_78 (by decide) ?_
                refine ev_ialdl 2 0 dX10_count_79 (by decide) rfl rfl (by decide) rfl (by decide) ?_
                refine ev_aload_n 0 dX10_count_80 rfl rfl ?_
                refine ev_getR (r := 108) dX10_count_81 fl_X10_92 (by decide) rfl (by decide) (by decide) rfl ?_
                refine ev_iconst (v := 1) dX10_count_84 (by decide) ?_
                refine ev_ialdl 2 1 dX10_count_85 (by decide) rfl rfl (by decide) rfl (by decide) ?_
                refine ev_iadd dX10_count_86 ?_
                cases h
                exact ev_iret dX10_count_87 rfl rfl ⟨rfl, rfl⟩
              · have h := if_f c7 h
                refine ev_tout 7 (tgt := 88) dX10_count_1 (lt_s (lt_s (lt_s (lt_s (lt_s (lt_s (lt_s (fun j hj => absurd hj (Nat.not_lt_zero j)) c1) c2) c3) c4) c5) c6) c7) (by decide) (by decide) ?_
                refine ev_bipush (v := -3) dX10_count_88 (by decide) ?_
                cases h
                exact ev_iret dX10_count_90 rfl rfl ⟨rfl, rfl⟩
