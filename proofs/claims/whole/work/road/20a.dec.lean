def f_X10_in (n : Nat) (y0 : Int64) (y2 : Int64) (y4 : Int64) (A : Mem) : Option (Int32 × Mem) :=
  if (lg_cmp y0 y2) < 0 then
    some ((0 : Int32), A)
  else
    if 0 < (lg_cmp y0 y4) then
      some ((0 : Int32), A)
    else
      some ((1 : Int32), A)
set_option maxRecDepth 100000 in
set_option maxHeartbeats 4000000 in
theorem c_X10_in (n : Nat) (y0 : Int64) (y2 : Int64) (y4 : Int64) (A : Mem) (q : Int32 × Mem) (h : f_X10_in n y0 y2 y4 A = some q) : Ct yX10_in cX10_in 6 (some .boolean) 0 [.long y0, .long y2, .long y4] A (RI q) := by
  unfold f_X10_in at h
  refine ct_of (by decide) (Nat.le_of_ble_eq_true rfl) ?_
  show Ev cX10_in 6 RX10 (some .boolean) 0 none 0 [(0, .long y0), (2, .long y2), (4, .long y4)] [] A (RI q)
  refine ev_lload_n 0 dX10_in_0 rfl rfl ?_
  refine ev_lload_n 1 dX10_in_1 rfl rfl ?_
  refine ev_lcmp dX10_in_2 ?_
  refine ev_if_lt (tgt := 17) dX10_in_3 (by decide) (fun c1 => ?_) (fun c1 => ?_)
  · have h := if_t c1 h
    refine ev_iconst (v := 0) dX10_in_17 (by decide) ?_
    cases h
    exact ev_iret dX10_in_18 rfl rfl ⟨rfl, rfl⟩
  · have h := if_f c1 h
    refine ev_lload_n 0 dX10_in_6 rfl rfl ?_
    refine ev_lload 2 dX10_in_7 rfl ?_
    refine ev_lcmp dX10_in_9 ?_
    refine ev_if_gt (tgt := 17) dX10_in_10 (by decide) (fun c2 => ?_) (fun c2 => ?_)
    · have h := if_t c2 h
      refine ev_iconst (v := 0) dX10_in_17 (by decide) ?_
      cases h
      exact ev_iret dX10_in_18 rfl rfl ⟨rfl, rfl⟩
    · have h := if_f c2 h
      refine ev_iconst (v := 1) dX10_in_13 (by decide) ?_
      refine ev_goto (tgt := 18) dX10_in_14 (by decide) ?_
      cases h
      exact ev_iret dX10_in_18 rfl rfl ⟨rfl, rfl⟩
def f_X10_isPlace (n : Nat) (x0 : Int32) (A : Mem) : Option (Int32 × Mem) :=
  (f_X10_in n ((x0).toInt64) ((0 : Int64)) ((7 : Int64)) A).bind fun q1 =>
  if q1.1 = 0 ∨ q1.1 = 1 then
    some (q1.1, q1.2)
  else
    none
set_option maxRecDepth 100000 in
set_option maxHeartbeats 4000000 in
theorem c_X10_isPlace (n : Nat) (x0 : Int32) (A : Mem) (q : Int32 × Mem) (h : f_X10_isPlace n x0 A = some q) : Ct yX10_isPlace cX10_isPlace 1 (some .boolean) 1 [.int x0] A (RI q) := by
  unfold f_X10_isPlace at h
  refine ct_of (by decide) (Nat.le_of_ble_eq_true rfl) ?_
  show Ev cX10_isPlace 1 RX10 (some .boolean) 1 none 0 [(0, .int x0)] [] A (RI q)
  refine ev_iload_n 0 dX10_isPlace_0 rfl rfl ?_
  refine ev_i2l dX10_isPlace_1 ?_
  refine ev_lconst (v := 0) dX10_isPlace_2 (by decide) ?_
  refine ev_ldc2 dX10_isPlace_3 kc_X10_119 ?_
  obtain ⟨q1, e2, h⟩ := bd_c h
  refine ev_callSi (av := [.long ((x0).toInt64), .long ((0 : Int64)), .long ((7 : Int64))]) dX10_isPlace_6 (c_X10_in n ((x0).toInt64) ((0 : Int64)) ((7 : Int64))  A q1 e2) mk_X10_in lk_X10_121 is_X10_in rfl (by decide) (by decide) (Nat.le_of_ble_eq_true rfl) rfl ?_
  obtain ⟨c3, h⟩ := if_c h
  cases h
  exact ev_iret dX10_isPlace_9 rfl (narB c3) ⟨rfl, rfl⟩
def f_X10_view (n : Nat) (x1 : Int32) (x2 : Int32) (A : Mem) : Option (Int32 × Mem) :=
  (f_X10_isPlace n x1 A).bind fun q1 =>
  if q1.1 = 0 then
    some ((-2 : Int32), q1.2)
  else
    (f_X10_in n ((x2).toInt64) ((0 : Int64)) ((255 : Int64)) q1.2).bind fun q4 =>
    if q4.1 = 0 then
      some ((-3 : Int32), q4.2)
    else
      if ¬ x1 < 0 ∧ (x1).toNatClampNeg < 8 then
        some (q4.2 81 (x1).toNatClampNeg, st2 q4.2 81 (x1).toNatClampNeg x2)
      else
        none
set_option maxRecDepth 100000 in
set_option maxHeartbeats 4000000 in
theorem c_X10_view (n : Nat) (x1 : Int32) (x2 : Int32) (A : Mem) (q : Int32 × Mem) (h : f_X10_view n x1 x2 A = some q) : Ct yX10_view cX10_view 4 (some .int) 2 [.ref 80, .int x1, .int x2] A (RI q) := by
  unfold f_X10_view at h
  refine ct_of (by decide) (Nat.le_of_ble_eq_true rfl) ?_
  show Ev cX10_view 4 RX10 (some .int) 2 none 0 [(0, .ref 80), (1, .int x1), (2, .int x2)] [] A (RI q)
  refine ev_iload_n 1 dX10_view_0 rfl rfl ?_
  obtain ⟨q1, e2, h⟩ := bd_c h
  refine ev_callSi (av := [.int x1]) dX10_view_1 (c_X10_isPlace n x1  A q1 e2) mk_X10_isPlace lk_X10_133 is_X10_isPlace rfl (by decide) (by decide) (Nat.le_of_ble_eq_true rfl) rfl ?_
  refine ev_if_ne (tgt := 10) dX10_view_4 (by decide) (fun c3 => ?_) (fun c3 => ?_)
  · have h := if_f c3 h
    refine ev_iload_n 2 dX10_view_10 rfl rfl ?_
    refine ev_i2l dX10_view_11 ?_
    refine ev_lconst (v := 0) dX10_view_12 (by decide) ?_
    refine ev_ldc2 dX10_view_13 kc_X10_137 ?_
    obtain ⟨q4, e5, h⟩ := bd_c h
    refine ev_callSi (av := [.long ((x2).toInt64), .long ((0 : Int64)), .long ((255 : Int64))]) dX10_view_16 (c_X10_in n ((x2).toInt64) ((0 : Int64)) ((255 : Int64))  q1.2 q4 e5) mk_X10_in lk_X10_121 is_X10_in rfl (by decide) (by decide) (Nat.le_of_ble_eq_true rfl) rfl ?_
    refine ev_if_ne (tgt := 25) dX10_view_19 (by decide) (fun c6 => ?_) (fun c6 => ?_)
    · have h := if_f c6 h
      refine ev_aload_n 0 dX10_view_25 rfl rfl ?_
      refine ev_getR (r := 81) dX10_view_26 fl_X10_7 (by decide) rfl (by decide) (by decide) rfl ?_
      refine ev_iload_n 1 dX10_view_29 rfl rfl ?_
      obtain ⟨c7, h⟩ := if_c h
      refine ev_ialdc 8 dX10_view_30 (by decide) rfl rfl (by decide) c7 ?_
      refine ev_istore_n (ls' := [(3, .int (q4.2 81 (x1).toNatClampNeg)), (0, .ref 80), (1, .int x1), (2, .int x2)]) dX10_view_31 rfl (by decide) rfl ?_
      refine ev_aload_n 1 dX10_view_32 rfl rfl ?_
      refine ev_getR (r := 81) dX10_view_33 fl_X10_7 (by decide) rfl (by decide) (by decide) rfl ?_
      refine ev_iload_n 2 dX10_view_36 rfl rfl ?_
      refine ev_iload_n 3 dX10_view_37 rfl rfl ?_
      refine ev_iastc 8 dX10_view_38 (by decide) rfl rfl (by decide) c7 ?_
      refine ev_iload_n 0 dX10_view_39 rfl rfl ?_
      cases h
      exact ev_iret dX10_view_40 rfl rfl ⟨rfl, rfl⟩
    · have h := if_t c6 h
      refine ev_bipush (v := -3) dX10_view_22 (by decide) ?_
      cases h
      exact ev_iret dX10_view_24 rfl rfl ⟨rfl, rfl⟩
  · have h := if_t c3 h
    refine ev_bipush (v := -2) dX10_view_7 (by decide) ?_
    cases h
    exact ev_iret dX10_view_9 rfl rfl ⟨rfl, rfl⟩
def f_X10_isKind (n : Nat) (x0 : Int32) (A : Mem) : Option (Int32 × Mem) :=
  (f_X10_in n ((x0).toInt64) ((0 : Int64)) ((3 : Int64)) A).bind fun q1 =>
  if q1.1 = 0 ∨ q1.1 = 1 then
    some (q1.1, q1.2)
  else
    none
set_option maxRecDepth 100000 in
set_option maxHeartbeats 4000000 in
theorem c_X10_isKind (n : Nat) (x0 : Int32) (A : Mem) (q : Int32 × Mem) (h : f_X10_isKind n x0 A = some q) : Ct yX10_isKind cX10_isKind 1 (some .boolean) 1 [.int x0] A (RI q) := by
  unfold f_X10_isKind at h
  refine ct_of (by decide) (Nat.le_of_ble_eq_true rfl) ?_
  show Ev cX10_isKind 1 RX10 (some .boolean) 1 none 0 [(0, .int x0)] [] A (RI q)
  refine ev_iload_n 0 dX10_isKind_0 rfl rfl ?_
  refine ev_i2l dX10_isKind_1 ?_
  refine ev_lconst (v := 0) dX10_isKind_2 (by decide) ?_
  refine ev_ldc2 dX10_isKind_3 kc_X10_125 ?_
  obtain ⟨q1, e2, h⟩ := bd_c h
  refine ev_callSi (av := [.long ((x0).toInt64), .long ((0 : Int64)), .long ((3 : Int64))]) dX10_isKind_6 (c_X10_in n ((x0).toInt64) ((0 : Int64)) ((3 : Int64))  A q1 e2) mk_X10_in lk_X10_121 is_X10_in rfl (by decide) (by decide) (Nat.le_of_ble_eq_true rfl) rfl ?_
  obtain ⟨c3, h⟩ := if_c h
  cases h
  exact ev_iret dX10_isKind_9 rfl (narB c3) ⟨rfl, rfl⟩
def f_X10_isDay (n : Nat) (x0 : Int32) (A : Mem) : Option (Int32 × Mem) :=
  (f_X10_in n ((x0).toInt64) ((0 : Int64)) ((60 : Int64)) A).bind fun q1 =>
  if q1.1 = 0 ∨ q1.1 = 1 then
    some (q1.1, q1.2)
  else
    none
set_option maxRecDepth 100000 in
set_option maxHeartbeats 4000000 in
theorem c_X10_isDay (n : Nat) (x0 : Int32) (A : Mem) (q : Int32 × Mem) (h : f_X10_isDay n x0 A = some q) : Ct yX10_isDay cX10_isDay 1 (some .boolean) 1 [.int x0] A (RI q) := by
  unfold f_X10_isDay at h
  refine ct_of (by decide) (Nat.le_of_ble_eq_true rfl) ?_
  show Ev cX10_isDay 1 RX10 (some .boolean) 1 none 0 [(0, .int x0)] [] A (RI q)
  refine ev_iload_n 0 dX10_isDay_0 rfl rfl ?_
  refine ev_i2l dX10_isDay_1 ?_
  refine ev_lconst (v := 0) dX10_isDay_2 (by decide) ?_
  refine ev_ldc2 dX10_isDay_3 kc_X10_127 ?_
  obtain ⟨q1, e2, h⟩ := bd_c h
  refine ev_callSi (av := [.long ((x0).toInt64), .long ((0 : Int64)), .long ((60 : Int64))]) dX10_isDay_6 (c_X10_in n ((x0).toInt64) ((0 : Int64)) ((60 : Int64))  A q1 e2) mk_X10_in lk_X10_121 is_X10_in rfl (by decide) (by decide) (Nat.le_of_ble_eq_true rfl) rfl ?_
  obtain ⟨c3, h⟩ := if_c h
  cases h
  exact ev_iret dX10_isDay_9 rfl (narB c3) ⟨rfl, rfl⟩
def f_X10_fact (n : Nat) (x1 : Int32) (x2 : Int32) (x3 : Int32) (x4 : Int32) (x5 : Int32) (x6 : Int32) (A : Mem) : Option (Int32 × Mem) :=
  (f_X10_isPlace n x1 A).bind fun q1 =>
  if q1.1 = 0 then
    some ((-2 : Int32), q1.2)
  else
    (f_X10_isKind n x2 q1.2).bind fun q4 =>
    if q4.1 = 0 then
      some ((-2 : Int32), q4.2)
    else
      (f_X10_isDay n x3 q4.2).bind fun q7 =>
      if q7.1 = 0 then
        some ((-3 : Int32), q7.2)
      else
        (f_X10_in n ((x4).toInt64) ((x3).toInt64) ((60 : Int64)) q7.2).bind fun q10 =>
        if q10.1 = 0 then
          some ((-3 : Int32), q10.2)
        else
          (f_X10_in n ((x5).toInt64) ((1 : Int64)) ((9 : Int64)) q10.2).bind fun q13 =>
          if q13.1 = 0 then
            some ((-3 : Int32), q13.2)
          else
            if (q13.2 80 7) = ((16 : Int32)) then
              some ((-5 : Int32), q13.2)
            else
              if ¬ (q13.2 80 7) < 0 ∧ (q13.2 80 7).toNatClampNeg < 16 then
                if ¬ ((st2 q13.2 82 (q13.2 80 7).toNatClampNeg x1) 80 7) < 0 ∧ ((st2 q13.2 82 (q13.2 80 7).toNatClampNeg x1) 80 7).toNatClampNeg < 16 then
                  if ¬ ((st2 (st2 q13.2 82 (q13.2 80 7).toNatClampNeg x1) 83 ((st2 q13.2 82 (q13.2 80 7).toNatClampNeg x1) 80 7).toNatClampNeg x2) 80 7) < 0 ∧ ((st2 (st2 q13.2 82 (q13.2 80 7).toNatClampNeg x1) 83 ((st2 q13.2 82 (q13.2 80 7).toNatClampNeg x1) 80 7).toNatClampNeg x2) 80 7).toNatClampNeg < 16 then
                    if ¬ ((st2 (st2 (st2 q13.2 82 (q13.2 80 7).toNatClampNeg x1) 83 ((st2 q13.2 82 (q13.2 80 7).toNatClampNeg x1) 80 7).toNatClampNeg x2) 84 ((st2 (st2 q13.2 82 (q13.2 80 7).toNatClampNeg x1) 83 ((st2 q13.2 82 (q13.2 80 7).toNatClampNeg x1) 80 7).toNatClampNeg x2) 80 7).toNatClampNeg x3) 80 7) < 0 ∧ ((st2 (st2 (st2 q13.2 82 (q13.2 80 7).toNatClampNeg x1) 83 ((st2 q13.2 82 (q13.2 80 7).toNatClampNeg x1) 80 7).toNatClampNeg x2) 84 ((st2 (st2 q13.2 82 (q13.2 80 7).toNatClampNeg x1) 83 ((st2 q13.2 82 (q13.2 80 7).toNatClampNeg x1) 80 7).toNatClampNeg x2) 80 7).toNatClampNeg x3) 80 7).toNatClampNeg < 16 then
                      if ¬ ((st2 (st2 (st2 (st2 q13.2 82 (q13.2 80 7).toNatClampNeg x1) 83 ((st2 q13.2 82 (q13.2 80 7).toNatClampNeg x1) 80 7).toNatClampNeg x2) 84 ((st2 (st2 q13.2 82 (q13.2 80 7).toNatClampNeg x1) 83 ((st2 q13.2 82 (q13.2 80 7).toNatClampNeg x1) 80 7).toNatClampNeg x2) 80 7).toNatClampNeg x3) 85 ((st2 (st2 (st2 q13.2 82 (q13.2 80 7).toNatClampNeg x1) 83 ((st2 q13.2 82 (q13.2 80 7).toNatClampNeg x1) 80 7).toNatClampNeg x2) 84 ((st2 (st2 q13.2 82 (q13.2 80 7).toNatClampNeg x1) 83 ((st2 q13.2 82 (q13.2 80 7).toNatClampNeg x1) 80 7).toNatClampNeg x2) 80 7).toNatClampNeg x3) 80 7).toNatClampNeg x4) 80 7) < 0 ∧ ((st2 (st2 (st2 (st2 q13.2 82 (q13.2 80 7).toNatClampNeg x1) 83 ((st2 q13.2 82 (q13.2 80 7).toNatClampNeg x1) 80 7).toNatClampNeg x2) 84 ((st2 (st2 q13.2 82 (q13.2 80 7).toNatClampNeg x1) 83 ((st2 q13.2 82 (q13.2 80 7).toNatClampNeg x1) 80 7).toNatClampNeg x2) 80 7).toNatClampNeg x3) 85 ((st2 (st2 (st2 q13.2 82 (q13.2 80 7).toNatClampNeg x1) 83 ((st2 q13.2 82 (q13.2 80 7).toNatClampNeg x1) 80 7).toNatClampNeg x2) 84 ((st2 (st2 q13.2 82 (q13.2 80 7).toNatClampNeg x1) 83 ((st2 q13.2 82 (q13.2 80 7).toNatClampNeg x1) 80 7).toNatClampNeg x2) 80 7).toNatClampNeg x3) 80 7).toNatClampNeg x4) 80 7).toNatClampNeg < 16 then
                        if ¬ ((st2 (st2 (st2 (st2 (st2 q13.2 82 (q13.2 80 7).toNatClampNeg x1) 83 ((st2 q13.2 82 (q13.2 80 7).toNatClampNeg x1) 80 7).toNatClampNeg x2) 84 ((st2 (st2 q13.2 82 (q13.2 80 7).toNatClampNeg x1) 83 ((st2 q13.2 82 (q13.2 80 7).toNatClampNeg x1) 80 7).toNatClampNeg x2) 80 7).toNatClampNeg x3) 85 ((st2 (st2 (st2 q13.2 82 (q13.2 80 7).toNatClampNeg x1) 83 ((st2 q13.2 82 (q13.2 80 7).toNatClampNeg x1) 80 7).toNatClampNeg x2) 84 ((st2 (st2 q13.2 82 (q13.2 80 7).toNatClampNeg x1) 83 ((st2 q13.2 82 (q13.2 80 7).toNatClampNeg x1) 80 7).toNatClampNeg x2) 80 7).toNatClampNeg x3) 80 7).toNatClampNeg x4) 86 ((st2 (st2 (st2 (st2 q13.2 82 (q13.2 80 7).toNatClampNeg x1) 83 ((st2 q13.2 82 (q13.2 80 7).toNatClampNeg x1) 80 7).toNatClampNeg x2) 84 ((st2 (st2 q13.2 82 (q13.2 80 7).toNatClampNeg x1) 83 ((st2 q13.2 82 (q13.2 80 7).toNatClampNeg x1) 80 7).toNatClampNeg x2) 80 7).toNatClampNeg x3) 85 ((st2 (st2 (st2 q13.2 82 (q13.2 80 7).toNatClampNeg x1) 83 ((st2 q13.2 82 (q13.2 80 7).toNatClampNeg x1) 80 7).toNatClampNeg x2) 84 ((st2 (st2 q13.2 82 (q13.2 80 7).toNatClampNeg x1) 83 ((st2 q13.2 82 (q13.2 80 7).toNatClampNeg x1) 80 7).toNatClampNeg x2) 80 7).toNatClampNeg x3) 80 7).toNatClampNeg x4) 80 7).toNatClampNeg x5) 80 7) < 0 ∧ ((st2 (st2 (st2 (st2 (st2 q13.2 82 (q13.2 80 7).toNatClampNeg x1) 83 ((st2 q13.2 82 (q13.2 80 7).toNatClampNeg x1) 80 7).toNatClampNeg x2) 84 ((st2 (st2 q13.2 82 (q13.2 80 7).toNatClampNeg x1) 83 ((st2 q13.2 82 (q13.2 80 7).toNatClampNeg x1) 80 7).toNatClampNeg x2) 80 7).toNatClampNeg x3) 85 ((st2 (st2 (st2 q13.2 82 (q13.2 80 7).toNatClampNeg x1) 83 ((st2 q13.2 82 (q13.2 80 7).toNatClampNeg x1) 80 7).toNatClampNeg x2) 84 ((st2 (st2 q13.2 82 (q13.2 80 7).toNatClampNeg x1) 83 ((st2 q13.2 82 (q13.2 80 7).toNatClampNeg x1) 80 7).toNatClampNeg x2) 80 7).toNatClampNeg x3) 80 7).toNatClampNeg x4) 86 ((st2 (st2 (st2 (st2 q13.2 82 (q13.2 80 7).toNatClampNeg x1) 83 ((st2 q13.2 82 (q13.2 80 7).toNatClampNeg x1) 80 7).toNatClampNeg x2) 84 ((st2 (st2 q13.2 82 (q13.2 80 7).toNatClampNeg x1) 83 ((st2 q13.2 82 (q13.2 80 7).toNatClampNeg x1) 80 7).toNatClampNeg x2) 80 7).toNatClampNeg x3) 85 ((st2 (st2 (st2 q13.2 82 (q13.2 80 7).toNatClampNeg x1) 83 ((st2 q13.2 82 (q13.2 80 7).toNatClampNeg x1) 80 7).toNatClampNeg x2) 84 ((st2 (st2 q13.2 82 (q13.2 80 7).toNatClampNeg x1) 83 ((st2 q13.2 82 (q13.2 80 7).toNatClampNeg x1) 80 7).toNatClampNeg x2) 80 7).toNatClampNeg x3) 80 7).toNatClampNeg x4) 80 7).toNatClampNeg x5) 80 7).toNatClampNeg < 16 then
                          some (((st2 (st2 (st2 (st2 (st2 (st2 (st2 q13.2 82 (q13.2 80 7).toNatClampNeg x1) 83 ((st2 q13.2 82 (q13.2 80 7).toNatClampNeg x1) 80 7).toNatClampNeg x2) 84 ((st2 (st2 q13.2 82 (q13.2 80 7).toNatClampNeg x1) 83 ((st2 q13.2 82 (q13.2 80 7).toNatClampNeg x1) 80 7).toNatClampNeg x2) 80 7).toNatClampNeg x3) 85 ((st2 (st2 (st2 q13.2 82 (q13.2 80 7).toNatClampNeg x1) 83 ((st2 q13.2 82 (q13.2 80 7).toNatClampNeg x1) 80 7).toNatClampNeg x2) 84 ((st2 (st2 q13.2 82 (q13.2 80 7).toNatClampNeg x1) 83 ((st2 q13.2 82 (q13.2 80 7).toNatClampNeg x1) 80 7).toNatClampNeg x2) 80 7).toNatClampNeg x3) 80 7).toNatClampNeg x4) 86 ((st2 (st2 (st2 (st2 q13.2 82 (q13.2 80 7).toNatClampNeg x1) 83 ((st2 q13.2 82 (q13.2 80 7).toNatClampNeg x1) 80 7).toNatClampNeg x2) 84 ((st2 (st2 q13.2 82 (q13.2 80 7).toNatClampNeg x1) 83 ((st2 q13.2 82 (q13.2 80 7).toNatClampNeg x1) 80 7).toNatClampNeg x2) 80 7).toNatClampNeg x3) 85 ((st2 (st2 (st2 q13.2 82 (q13.2 80 7).toNatClampNeg x1) 83 ((st2 q13.2 82 (q13.2 80 7).toNatClampNeg x1) 80 7).toNatClampNeg x2) 84 ((st2 (st2 q13.2 82 (q13.2 80 7).toNatClampNeg x1) 83 ((st2 q13.2 82 (q13.2 80 7).toNatClampNeg x1) 80 7).toNatClampNeg x2) 80 7).toNatClampNeg x3) 80 7).toNatClampNeg x4) 80 7).toNatClampNeg x5) 87 ((st2 (st2 (st2 (st2 (st2 q13.2 82 (q13.2 80 7).toNatClampNeg x1) 83 ((st2 q13.2 82 (q13.2 80 7).toNatClampNeg x1) 80 7).toNatClampNeg x2) 84 ((st2 (st2 q13.2 82 (q13.2 80 7).toNatClampNeg x1) 83 ((st2 q13.2 82 (q13.2 80 7).toNatClampNeg x1) 80 7).toNatClampNeg x2) 80 7).toNatClampNeg x3) 85 ((st2 (st2 (st2 q13.2 82 (q13.2 80 7).toNatClampNeg x1) 83 ((st2 q13.2 82 (q13.2 80 7).toNatClampNeg x1) 80 7).toNatClampNeg x2) 84 ((st2 (st2 q13.2 82 (q13.2 80 7).toNatClampNeg x1) 83 ((st2 q13.2 82 (q13.2 80 7).toNatClampNeg x1) 80 7).toNatClampNeg x2) 80 7).toNatClampNeg x3) 80 7).toNatClampNeg x4) 86 ((st2 (st2 (st2 (st2 q13.2 82 (q13.2 80 7).toNatClampNeg x1) 83 ((st2 q13.2 82 (q13.2 80 7).toNatClampNeg x1) 80 7).toNatClampNeg x2) 84 ((st2 (st2 q13.2 82 (q13.2 80 7).toNatClampNeg x1) 83 ((st2 q13.2 82 (q13.2 80 7).toNatClampNeg x1) 80 7).toNatClampNeg x2) 80 7).toNatClampNeg x3) 85 ((st2 (st2 (st2 q13.2 82 (q13.2 80 7).toNatClampNeg x1) 83 ((st2 q13.2 82 (q13.2 80 7).toNatClampNeg x1) 80 7).toNatClampNeg x2) 84 ((st2 (st2 q13.2 82 (q13.2 80 7).toNatClampNeg x1) 83 ((st2 q13.2 82 (q13.2 80 7).toNatClampNeg x1) 80 7).toNatClampNeg x2) 80 7).toNatClampNeg x3) 80 7).toNatClampNeg x4) 80 7).toNatClampNeg x5) 80 7).toNatClampNeg (vp_nar .boolean x6)) 80 7 (((st2 (st2 (st2 (st2 (st2 (st2 q13.2 82 (q13.2 80 7).toNatClampNeg x1) 83 ((st2 q13.2 82 (q13.2 80 7).toNatClampNeg x1) 80 7).toNatClampNeg x2) 84 ((st2 (st2 q13.2 82 (q13.2 80 7).toNatClampNeg x1) 83 ((st2 q13.2 82 (q13.2 80 7).toNatClampNeg x1) 80 7).toNatClampNeg x2) 80 7).toNatClampNeg x3) 85 ((st2 (st2 (st2 q13.2 82 (q13.2 80 7).toNatClampNeg x1) 83 ((st2 q13.2 82 (q13.2 80 7).toNatClampNeg x1) 80 7).toNatClampNeg x2) 84 ((st2 (st2 q13.2 82 (q13.2 80 7).toNatClampNeg x1) 83 ((st2 q13.2 82 (q13.2 80 7).toNatClampNeg x1) 80 7).toNatClampNeg x2) 80 7).toNatClampNeg x3) 80 7).toNatClampNeg x4) 86 ((st2 (st2 (st2 (st2 q13.2 82 (q13.2 80 7).toNatClampNeg x1) 83 ((st2 q13.2 82 (q13.2 80 7).toNatClampNeg x1) 80 7).toNatClampNeg x2) 84 ((st2 (st2 q13.2 82 (q13.2 80 7).toNatClampNeg x1) 83 ((st2 q13.2 82 (q13.2 80 7).toNatClampNeg x1) 80 7).toNatClampNeg x2) 80 7).toNatClampNeg x3) 85 ((st2 (st2 (st2 q13.2 82 (q13.2 80 7).toNatClampNeg x1) 83 ((st2 q13.2 82 (q13.2 80 7).toNatClampNeg x1) 80 7).toNatClampNeg x2) 84 ((st2 (st2 q13.2 82 (q13.2 80 7).toNatClampNeg x1) 83 ((st2 q13.2 82 (q13.2 80 7).toNatClampNeg x1) 80 7).toNatClampNeg x2) 80 7).toNatClampNeg x3) 80 7).toNatClampNeg x4) 80 7).toNatClampNeg x5) 87 ((st2 (st2 (st2 (st2 (st2 q13.2 82 (q13.2 80 7).toNatClampNeg x1) 83 ((st2 q13.2 82 (q13.2 80 7).toNatClampNeg x1) 80 7).toNatClampNeg x2) 84 ((st2 (st2 q13.2 82 (q13.2 80 7).toNatClampNeg x1) 83 ((st2 q13.2 82 (q13.2 80 7).toNatClampNeg x1) 80 7).toNatClampNeg x2) 80 7).toNatClampNeg x3) 85 ((st2 (st2 (st2 q13.2 82 (q13.2 80 7).toNatClampNeg x1) 83 ((st2 q13.2 82 (q13.2 80 7).toNatClampNeg x1) 80 7).toNatClampNeg x2) 84 ((st2 (st2 q13.2 82 (q13.2 80 7).toNatClampNeg x1) 83 ((st2 q13.2 82 (q13.2 80 7).toNatClampNeg x1) 80 7).toNatClampNeg x2) 80 7).toNatClampNeg x3) 80 7).toNatClampNeg x4) 86 ((st2 (st2 (st2 (st2 q13.2 82 (q13.2 80 7).toNatClampNeg x1) 83 ((st2 q13.2 82 (q13.2 80 7).toNatClampNeg x1) 80 7).toNatClampNeg x2) 84 ((st2 (st2 q13.2 82 (q13.2 80 7).toNatClampNeg x1) 83 ((st2 q13.2 82 (q13.2 80 7).toNatClampNeg x1) 80 7).toNatClampNeg x2) 80 7).toNatClampNeg x3) 85 ((st2 (st2 (st2 q13.2 82 (q13.2 80 7).toNatClampNeg x1) 83 ((st2 q13.2 82 (q13.2 80 7).toNatClampNeg x1) 80 7).toNatClampNeg x2) 84 ((st2 (st2 q13.2 82 (q13.2 80 7).toNatClampNeg x1) 83 ((st2 q13.2 82 (q13.2 80 7).toNatClampNeg x1) 80 7).toNatClampNeg x2) 80 7).toNatClampNeg x3) 80 7).toNatClampNeg x4) 80 7).toNatClampNeg x5) 80 7).toNatClampNeg (vp_nar .boolean x6)) 80 7) + ((1 : Int32)))) 80 7) - ((1 : Int32)), st2 (st2 (st2 (st2 (st2 (st2 (st2 q13.2 82 (q13.2 80 7).toNatClampNeg x1) 83 ((st2 q13.2 82 (q13.2 80 7).toNatClampNeg x1) 80 7).toNatClampNeg x2) 84 ((st2 (st2 q13.2 82 (q13.2 80 7).toNatClampNeg x1) 83 ((st2 q13.2 82 (q13.2 80 7).toNatClampNeg x1) 80 7).toNatClampNeg x2) 80 7).toNatClampNeg x3) 85 ((st2 (st2 (st2 q13.2 82 (q13.2 80 7).toNatClampNeg x1) 83 ((st2 q13.2 82 (q13.2 80 7).toNatClampNeg x1) 80 7).toNatClampNeg x2) 84 ((st2 (st2 q13.2 82 (q13.2 80 7).toNatClampNeg x1) 83 ((st2 q13.2 82 (q13.2 80 7).toNatClampNeg x1) 80 7).toNatClampNeg x2) 80 7).toNatClampNeg x3) 80 7).toNatClampNeg x4) 86 ((st2 (st2 (st2 (st2 q13.2 82 (q13.2 80 7).toNatClampNeg x1) 83 ((st2 q13.2 82 (q13.2 80 7).toNatClampNeg x1) 80 7).toNatClampNeg x2) 84 ((st2 (st2 q13.2 82 (q13.2 80 7).toNatClampNeg x1) 83 ((st2 q13.2 82 (q13.2 80 7).toNatClampNeg x1) 80 7).toNatClampNeg x2) 80 7).toNatClampNeg x3) 85 ((st2 (st2 (st2 q13.2 82 (q13.2 80 7).toNatClampNeg x1) 83 ((st2 q13.2 82 (q13.2 80 7).toNatClampNeg x1) 80 7).toNatClampNeg x2) 84 ((st2 (st2 q13.2 82 (q13.2 80 7).toNatClampNeg x1) 83 ((st2 q13.2 82 (q13.2 80 7).toNatClampNeg x1) 80 7).toNatClampNeg x2) 80 7).toNatClampNeg x3) 80 7).toNatClampNeg x4) 80 7).toNatClampNeg x5) 87 ((st2 (st2 (st2 (st2 (st2 q13.2 82 (q13.2 80 7).toNatClampNeg x1) 83 ((st2 q13.2 82 (q13.2 80 7).toNatClampNeg x1) 80 7).toNatClampNeg x2) 84 ((st2 (st2 q13.2 82 (q13.2 80 7).toNatClampNeg x1) 83 ((st2 q13.2 82 (q13.2 80 7).toNatClampNeg x1) 80 7).toNatClampNeg x2) 80 7).toNatClampNeg x3) 85 ((st2 (st2 (st2 q13.2 82 (q13.2 80 7).toNatClampNeg x1) 83 ((st2 q13.2 82 (q13.2 80 7).toNatClampNeg x1) 80 7).toNatClampNeg x2) 84 ((st2 (st2 q13.2 82 (q13.2 80 7).toNatClampNeg x1) 83 ((st2 q13.2 82 (q13.2 80 7).toNatClampNeg x1) 80 7).toNatClampNeg x2) 80 7).toNatClampNeg x3) 80 7).toNatClampNeg x4) 86 ((st2 (st2 (st2 (st2 q13.2 82 (q13.2 80 7).toNatClampNeg x1) 83 ((st2 q13.2 82 (q13.2 80 7).toNatClampNeg x1) 80 7).toNatClampNeg x2) 84 ((st2 (st2 q13.2 82 (q13.2 80 7).toNatClampNeg x1) 83 ((st2 q13.2 82 (q13.2 80 7).toNatClampNeg x1) 80 7).toNatClampNeg x2) 80 7).toNatClampNeg x3) 85 ((st2 (st2 (st2 q13.2 82 (q13.2 80 7).toNatClampNeg x1) 83 ((st2 q13.2 82 (q13.2 80 7).toNatClampNeg x1) 80 7).toNatClampNeg x2) 84 ((st2 (st2 q13.2 82 (q13.2 80 7).toNatClampNeg x1) 83 ((st2 q13.2 82 (q13.2 80 7).toNatClampNeg x1) 80 7).toNatClampNeg x2) 80 7).toNatClampNeg x3) 80 7).toNatClampNeg x4) 80 7).toNatClampNeg x5) 80 7).toNatClampNeg (vp_nar .boolean x6)) 80 7 (((st2 (st2 (st2 (st2 (st2 (st2 q13.2 82 (q13.2 80 7).toNatClampNeg x1) 83 ((st2 q13.2 82 (q13.2 80 7).toNatClampNeg x1) 80 7).toNatClampNeg x2) 84 ((st2 (st2 q13.2 82 (q13.2 80 7).toNatClampNeg x1) 83 ((st2 q13.2 82 (q13.2 80 7).toNatClampNeg x1) 80 7).toNatClampNeg x2) 80 7).toNatClampNeg x3) 85 ((st2 (st2 (st2 q13.2 82 (q13.2 80 7).toNatClampNeg x1) 83 ((st2 q13.2 82 (q13.2 80 7).toNatClampNeg x1) 80 7).toNatClampNeg x2) 84 ((st2 (st2 q13.2 82 (q13.2 80 7).toNatClampNeg x1) 83 ((st2 q13.2 82 (q13.2 80 7).toNatClampNeg x1) 80 7).toNatClampNeg x2) 80 7).toNatClampNeg x3) 80 7).toNatClampNeg x4) 86 ((st2 (st2 (st2 (st2 q13.2 82 (q13.2 80 7).toNatClampNeg x1) 83 ((st2 q13.2 82 (q13.2 80 7).toNatClampNeg x1) 80 7).toNatClampNeg x2) 84 ((st2 (st2 q13.2 82 (q13.2 80 7).toNatClampNeg x1) 83 ((st2 q13.2 82 (q13.2 80 7).toNatClampNeg x1) 80 7).toNatClampNeg x2) 80 7).toNatClampNeg x3) 85 ((st2 (st2 (st2 q13.2 82 (q13.2 80 7).toNatClampNeg x1) 83 ((st2 q13.2 82 (q13.2 80 7).toNatClampNeg x1) 80 7).toNatClampNeg x2) 84 ((st2 (st2 q13.2 82 (q13.2 80 7).toNatClampNeg x1) 83 ((st2 q13.2 82 (q13.2 80 7).toNatClampNeg x1) 80 7).toNatClampNeg x2) 80 7).toNatClampNeg x3) 80 7).toNatClampNeg x4) 80 7).toNatClampNeg x5) 87 ((st2 (st2 (st2 (st2 (st2 q13.2 82 (q13.2 80 7).toNatClampNeg x1) 83 ((st2 q13.2 82 (q13.2 80 7).toNatClampNeg x1) 80 7).toNatClampNeg x2) 84 ((st2 (st2 q13.2 82 (q13.2 80 7).toNatClampNeg x1) 83 ((st2 q13.2 82 (q13.2 80 7).toNatClampNeg x1) 80 7).toNatClampNeg x2) 80 7).toNatClampNeg x3) 85 ((st2 (st2 (st2 q13.2 82 (q13.2 80 7).toNatClampNeg x1) 83 ((st2 q13.2 82 (q13.2 80 7).toNatClampNeg x1) 80 7).toNatClampNeg x2) 84 ((st2 (st2 q13.2 82 (q13.2 80 7).toNatClampNeg x1) 83 ((st2 q13.2 82 (q13.2 80 7).toNatClampNeg x1) 80 7).toNatClampNeg x2) 80 7).toNatClampNeg x3) 80 7).toNatClampNeg x4) 86 ((st2 (st2 (st2 (st2 q13.2 82 (q13.2 80 7).toNatClampNeg x1) 83 ((st2 q13.2 82 (q13.2 80 7).toNatClampNeg x1) 80 7).toNatClampNeg x2) 84 ((st2 (st2 q13.2 82 (q13.2 80 7).toNatClampNeg x1) 83 ((st2 q13.2 82 (q13.2 80 7).toNatClampNeg x1) 80 7).toNatClampNeg x2) 80 7).toNatClampNeg x3) 85 ((st2 (st2 (st2 q13.2 82 (q13.2 80 7).toNatClampNeg x1) 83 ((st2 q13.2 82 (q13.2 80 7).toNatClampNeg x1) 80 7).toNatClampNeg x2) 84 ((st2 (st2 q13.2 82 (q13.2 80 7).toNatClampNeg x1) 83 ((st2 q13.2 82 (q13.2 80 7).toNatClampNeg x1) 80 7).toNatClampNeg x2) 80 7).toNatClampNeg x3) 80 7).toNatClampNeg x4) 80 7).toNatClampNeg x5) 80 7).toNatClampNeg (vp_nar .boolean x6)) 80 7) + ((1 : Int32))))
                        else
                          none
                      else
                        none
                    else
                      none
                  else
                    none
                else
                  none
              else
                none
set_option maxRecDepth 100000 in
set_option maxHeartbeats 4000000 in
theorem c_X10_fact (n : Nat) (x1 : Int32) (x2 : Int32) (x3 : Int32) (x4 : Int32) (x5 : Int32) (x6 : Int32) (A : Mem) (q : Int32 × Mem) (h : f_X10_fact n x1 x2 x3 x4 x5 x6 A = some q) : Ct yX10_fact cX10_fact 7 (some .int) 2 [.ref 80, .int x1, .int x2, .int x3, .int x4, .int x5, .int x6] A (RI q) := by
  unfold f_X10_fact at h
  refine ct_of (by decide) (Nat.le_of_ble_eq_true rfl) ?_
  show Ev cX10_fact 7 RX10 (some .int) 2 none 0 [(0, .ref 80), (1, .int x1), (2, .int x2), (3, .int x3), (4, .int x4), (5, .int x5), (6, .int x6)] [] A (RI q)
  refine ev_iload_n 1 dX10_fact_0 rfl rfl ?_
  obtain ⟨q1, e2, h⟩ := bd_c h
  refine ev_callSi (av := [.int x1]) dX10_fact_1 (c_X10_isPlace n x1  A q1 e2) mk_X10_isPlace lk_X10_133 is_X10_isPlace rfl (by decide) (by decide) (Nat.le_of_ble_eq_true rfl) rfl ?_
  refine ev_if_eq (tgt := 14) dX10_fact_4 (by decide) (fun c3 => ?_) (fun c3 => ?_)
  · have h := if_t c3 h
    refine ev_bipush (v := -2) dX10_fact_14 (by decide) ?_
    cases h
    exact ev_iret dX10_fact_16 rfl rfl ⟨rfl, rfl⟩
  · have h := if_f c3 h
    refine ev_iload_n 2 dX10_fact_7 rfl rfl ?_
    obtain ⟨q4, e5, h⟩ := bd_c h
    refine ev_callSi (av := [.int x2]) dX10_fact_8 (c_X10_isKind n x2  q1.2 q4 e5) mk_X10_isKind lk_X10_139 is_X10_isKind rfl (by decide) (by decide) (Nat.le_of_ble_eq_true rfl) rfl ?_
    refine ev_if_ne (tgt := 17) dX10_fact_11 (by decide) (fun c6 => ?_) (fun c6 => ?_)
    · have h := if_f c6 h
      refine ev_iload_n 3 dX10_fact_17 rfl rfl ?_
      obtain ⟨q7, e8, h⟩ := bd_c h
      refine ev_callSi (av := [.int x3]) dX10_fact_18 (c_X10_isDay n x3  q4.2 q7 e8) mk_X10_isDay lk_X10_142 is_X10_isDay rfl (by decide) (by decide) (Nat.le_of_ble_eq_true rfl) rfl ?_
      refine ev_if_eq (tgt := 51) dX10_fact_21 (by decide) (fun c9 => ?_) (fun c9 => ?_)
      · have h := if_t c9 h
        refine ev_bipush (v := -3) dX10_fact_51 (by decide) ?_
        cases h
        exact ev_iret dX10_fact_53 rfl rfl ⟨rfl, rfl⟩
      · have h := if_f c9 h
        refine ev_iload 4 dX10_fact_24 rfl ?_
        refine ev_i2l dX10_fact_26 ?_
        refine ev_iload_n 3 dX10_fact_27 rfl rfl ?_
        refine ev_i2l dX10_fact_28 ?_
        refine ev_ldc2 dX10_fact_29 kc_X10_127 ?_
        obtain ⟨q10, e11, h⟩ := bd_c h
        refine ev_callSi (av := [.long ((x4).toInt64), .long ((x3).toInt64), .long ((60 : Int64))]) dX10_fact_32 (c_X10_in n ((x4).toInt64) ((x3).toInt64) ((60 : Int64))  q7.2 q10 e11) mk_X10_in lk_X10_121 is_X10_in rfl (by decide) (by decide) (Nat.le_of_ble_eq_true rfl) rfl ?_
        refine ev_if_eq (tgt := 51) dX10_fact_35 (by decide) (fun c12 => ?_) (fun c12 => ?_)
        · have h := if_t c12 h
          refine ev_bipush (v := -3) dX10_fact_51 (by decide) ?_
          cases h
          exact ev_iret dX10_fact_53 rfl rfl ⟨rfl, rfl⟩
        · have h := if_f c12 h
          refine ev_iload 5 dX10_fact_38 rfl ?_
          refine ev_i2l dX10_fact_40 ?_
          refine ev_lconst (v := 1) dX10_fact_41 (by decide) ?_
          refine ev_ldc2 dX10_fact_42 kc_X10_145 ?_
          obtain ⟨q13, e14, h⟩ := bd_c h
          refine ev_callSi (av := [.long ((x5).toInt64), .long ((1 : Int64)), .long ((9 : Int64))]) dX10_fact_45 (c_X10_in n ((x5).toInt64) ((1 : Int64)) ((9 : Int64))  q10.2 q13 e14) mk_X10_in lk_X10_121 is_X10_in rfl (by decide) (by decide) (Nat.le_of_ble_eq_true rfl) rfl ?_
          refine ev_if_ne (tgt := 54) dX10_fact_48 (by decide) (fun c15 => ?_) (fun c15 => ?_)
          · have h := if_f c15 h
            refine ev_aload_n 0 dX10_fact_54 rfl rfl ?_
            refine ev_getI dX10_fact_55 fl_X10_147 (by decide) rfl (by decide) (by decide) rfl ?_
            refine ev_bipush (v := 16) dX10_fact_58 (by decide) ?_
            refine ev_icmp_ne (tgt := 66) dX10_fact_60 (by decide) (fun c16 => ?_) (fun c16 => ?_)
            · have h := if_f c16 h
              refine ev_aload_n 0 dX10_fact_66 rfl rfl ?_
              refine ev_getR (r := 82) dX10_fact_67 fl_X10_13 (by decide) rfl (by decide) (by decide) rfl ?_
              refine ev_aload_n 0 dX10_fact_70 rfl rfl ?_
              refine ev_getI dX10_fact_71 fl_X10_147 (by decide) rfl (by decide) (by decide) rfl ?_
              refine ev_iload_n 1 dX10_fact_74 rfl rfl ?_
              obtain ⟨c17, h⟩ := if_c h
              refine ev_iastc 16 dX10_fact_75 (by decide) rfl rfl (by decide) c17 ?_
              refine ev_aload_n 0 dX10_fact_76 rfl rfl ?_
              refine ev_getR (r := 83) dX10_fact_77 fl_X10_16 (by decide) rfl (by decide) (by decide) rfl ?_
              refine ev_aload_n 0 dX10_fact_80 rfl rfl ?_
              refine ev_getI dX10_fact_81 fl_X10_147 (by decide) rfl (by decide) (by decide) rfl ?_
              refine ev_iload_n 2 dX10_fact_84 rfl rfl ?_
              obtain ⟨c18, h⟩ := if_c h
              refine ev_iastc 16 dX10_fact_85 (by decide) rfl rfl (by decide) c18 ?_
              refine ev_aload_n 0 dX10_fact_86 rfl rfl ?_
              refine ev_getR (r := 84) dX10_fact_87 fl_X10_19 (by decide) rfl (by decide) (by decide) rfl ?_
              refine ev_aload_n 0 dX10_fact_90 rfl rfl ?_
              refine ev_getI dX10_fact_91 fl_X10_147 (by decide) rfl (by decide) (by decide) rfl ?_
              refine ev_iload_n 3 dX10_fact_94 rfl rfl ?_
              obtain ⟨c19, h⟩ := if_c h
              refine ev_iastc 16 dX10_fact_95 (by decide) rfl rfl (by decide) c19 ?_
              refine ev_aload_n 0 dX10_fact_96 rfl rfl ?_
              refine ev_getR (r := 85) dX10_fact_97 fl_X10_22 (by decide) rfl (by decide) (by decide) rfl ?_
              refine ev_aload_n 0 dX10_fact_100 rfl rfl ?_
              refine ev_getI dX10_fact_101 fl_X10_147 (by decide) rfl (by decide) (by decide) rfl ?_
              refine ev_iload 4 dX10_fact_104 rfl ?_
              obtain ⟨c20, h⟩ := if_c h
              refine ev_iastc 16 dX10_fact_106 (by decide) rfl rfl (by decide) c20 ?_
              refine ev_aload_n 0 dX10_fact_107 rfl rfl ?_
              refine ev_getR (r := 86) dX10_fact_108 fl_X10_25 (by decide) rfl (by decide) (by decide) rfl ?_
              refine ev_aload_n 0 dX10_fact_111 rfl rfl ?_
              refine ev_getI dX10_fact_112 fl_X10_147 (by decide) rfl (by decide) (by decide) rfl ?_
              refine ev_iload 5 dX10_fact_115 rfl ?_
              obtain ⟨c21, h⟩ := if_c h
              refine ev_iastc 16 dX10_fact_117 (by decide) rfl rfl (by decide) c21 ?_
              refine ev_aload_n 0 dX10_fact_118 rfl rfl ?_
              refine ev_getR (r := 87) dX10_fact_119 fl_X10_28 (by decide) rfl (by decide) (by decide) rfl ?_
              refine ev_aload_n 0 dX10_fact_122 rfl rfl ?_
              refine ev_getI dX10_fact_123 fl_X10_147 (by decide) rfl (by decide) (by decide) rfl ?_
              refine ev_iload 6 dX10_fact_126 rfl ?_
              obtain ⟨c22, h⟩ := if_c h
              refine ev_zastc 16 dX10_fact_128 (by decide) rfl rfl (by decide) c22 ?_
              refine ev_aload_n 0 dX10_fact_129 rfl rfl ?_
              refine ev_dup dX10_fact_130 rfl ?_
              refine ev_getI dX10_fact_131 fl_X10_147 (by decide) rfl (by decide) (by decide) rfl ?_
              refine ev_iconst (v := 1) dX10_fact_134 (by decide) ?_
              refine ev_iadd dX10_fact_135 ?_
              refine ev_put2 dX10_fact_136 fl_X10_147 pk_10_7 (by decide) rfl (by decide) (by decide) rfl ?_
              refine ev_aload_n 0 dX10_fact_139 rfl rfl ?_
              refine ev_getI dX10_fact_140 fl_X10_147 (by decide) rfl (by decide) (by decide) rfl ?_
              refine ev_iconst (v := 1) dX10_fact_143 (by decide) ?_
              refine ev_isub dX10_fact_144 ?_
              cases h
              exact ev_iret dX10_fact_145 rfl rfl ⟨rfl, rfl⟩
            · have h := if_t c16 h
              refine ev_bipush (v := -5) dX10_fact_63 (by decide) ?_
              cases h
              exact ev_iret dX10_fact_65 rfl rfl ⟨rfl, rfl⟩
          · have h := if_t c15 h
            refine ev_bipush (v := -3) dX10_fact_51 (by decide) ?_
            cases h
            exact ev_iret dX10_fact_53 rfl rfl ⟨rfl, rfl⟩
    · have h := if_t c6 h
      refine ev_bipush (v := -2) dX10_fact_14 (by decide) ?_
      cases h
      exact ev_iret dX10_fact_16 rfl rfl ⟨rfl, rfl⟩
def g_X10_worldOf_6 (n : Nat) : Nat → Int32 → Int32 → Int32 → Int32 → Int32 → Mem → Option (Int32 × Mem)
  | 0, _, _, _, _, _, _ => none
  | m + 1, x1, x2, x3, x4, x5, A =>
    if (A 80 7) ≤ x5 then
      some (x4, A)
    else
      if ¬ x5 < 0 ∧ (x5).toNatClampNeg < 16 then
        if (A 82 (x5).toNatClampNeg) = x1 then
          if (A 83 (x5).toNatClampNeg) = x2 then
            (f_X10_in n ((x3).toInt64) ((A 84 (x5).toNatClampNeg).toInt64) ((A 85 (x5).toNatClampNeg).toInt64) A).bind fun q5 =>
            if q5.1 = 0 then
              g_X10_worldOf_6 n  m x1 x2 x3 x4 (x5 + 1) q5.2
            else
              g_X10_worldOf_6 n  m x1 x2 x3 (q5.2 86 (x5).toNatClampNeg) (x5 + 1) q5.2
          else
            g_X10_worldOf_6 n  m x1 x2 x3 x4 (x5 + 1) A
        else
          g_X10_worldOf_6 n  m x1 x2 x3 x4 (x5 + 1) A
      else
        none
set_option maxRecDepth 100000 in
set_option maxHeartbeats 4000000 in
theorem l_X10_worldOf_6 (n : Nat) : ∀ (m : Nat) (x1 : Int32) (x2 : Int32) (x3 : Int32) (x4 : Int32) (x5 : Int32) (A : Mem) (q : Int32 × Mem), g_X10_worldOf_6 n  m x1 x2 x3 x4 x5 A = some q → Ev cX10_worldOf 6 RX10 (some .int) 1 none 6 [(0, .ref 80), (1, .int x1), (2, .int x2), (3, .int x3), (4, .int x4), (5, .int x5)] [] A (RI q) := by
  intro m
  induction m with
  | zero => intro x1 x2 x3 x4 x5 A q h; exact absurd h (by simp [g_X10_worldOf_6])
  | succ m ih =>
    intro x1 x2 x3 x4 x5 A q h
    rw [g_X10_worldOf_6] at h
    refine ev_iload 5 dX10_worldOf_6 rfl ?_
    refine ev_aload_n 0 dX10_worldOf_8 rfl rfl ?_
    refine ev_getI dX10_worldOf_9 fl_X10_147 (by decide) rfl (by decide) (by decide) rfl ?_
    refine ev_icmp_ge (tgt := 81) dX10_worldOf_12 (by decide) (fun c1 => ?_) (fun c1 => ?_)
    · have h := if_t c1 h
      refine ev_iload 4 dX10_worldOf_81 rfl ?_
      cases h
      exact ev_iret dX10_worldOf_83 rfl rfl ⟨rfl, rfl⟩
    · have h := if_f c1 h
      refine ev_aload_n 0 dX10_worldOf_15 rfl rfl ?_
      refine ev_getR (r := 82) dX10_worldOf_16 fl_X10_13 (by decide) rfl (by decide) (by decide) rfl ?_
      refine ev_iload 5 dX10_worldOf_19 rfl ?_
      obtain ⟨c2, h⟩ := if_c h
      refine ev_ialdc 16 dX10_worldOf_21 (by decide) rfl rfl (by decide) c2 ?_
      refine ev_iload_n 1 dX10_worldOf_22 rfl rfl ?_
      refine ev_icmp_ne (tgt := 71) dX10_worldOf_23 (by decide) (fun c3 => ?_) (fun c3 => ?_)
      · have h := if_f c3 h
        refine ev_iload 4 dX10_worldOf_71 rfl ?_
        refine ev_istore (ls' := [(4, .int x4), (0, .ref 80), (1, .int x1), (2, .int x2), (3, .int x3), (5, .int x5)]) dX10_worldOf_73 (by decide) rfl ?_
        refine ev_iinc (v := x5 + 1) (ls' := [(5, .int (x5 + 1)), (4, .int x4), (0, .ref 80), (1, .int x1), (2, .int x2), (3, .int x3)]) 5 dX10_worldOf_75 rfl rfl (by decide) rfl ?_
        refine ev_goto (tgt := 6) dX10_worldOf_78 (by decide) ?_
        refine ev_pick [2, 3, 4, 5, 1, 0] (ls' := [(0, .ref 80), (1, .int x1), (2, .int x2), (3, .int x3), (4, .int x4), (5, .int (x5 + 1))]) rfl ?_
        exact ih x1 x2 x3 x4 (x5 + 1) _ q h
      · have h := if_t c3 h
        refine ev_aload_n 0 dX10_worldOf_26 rfl rfl ?_
        refine ev_getR (r := 83) dX10_worldOf_27 fl_X10_16 (by decide) rfl (by decide) (by decide) rfl ?_
        refine ev_iload 5 dX10_worldOf_30 rfl ?_
        refine ev_ialdc 16 dX10_worldOf_32 (by decide) rfl rfl (by decide) c2 ?_
        refine ev_iload_n 2 dX10_worldOf_33 rfl rfl ?_
        refine ev_icmp_ne (tgt := 71) dX10_worldOf_34 (by decide) (fun c4 => ?_) (fun c4 => ?_)
        · have h := if_f c4 h
          refine ev_iload 4 dX10_worldOf_71 rfl ?_
          refine ev_istore (ls' := [(4, .int x4), (0, .ref 80), (1, .int x1), (2, .int x2), (3, .int x3), (5, .int x5)]) dX10_worldOf_73 (by decide) rfl ?_
          refine ev_iinc (v := x5 + 1) (ls' := [(5, .int (x5 + 1)), (4, .int x4), (0, .ref 80), (1, .int x1), (2, .int x2), (3, .int x3)]) 5 dX10_worldOf_75 rfl rfl (by decide) rfl ?_
          refine ev_goto (tgt := 6) dX10_worldOf_78 (by decide) ?_
          refine ev_pick [2, 3, 4, 5, 1, 0] (ls' := [(0, .ref 80), (1, .int x1), (2, .int x2), (3, .int x3), (4, .int x4), (5, .int (x5 + 1))]) rfl ?_
          exact ih x1 x2 x3 x4 (x5 + 1) _ q h
        · have h := if_t c4 h
          refine ev_iload_n 3 dX10_worldOf_37 rfl rfl ?_
          refine ev_i2l dX10_worldOf_38 ?_
          refine ev_aload_n 0 dX10_worldOf_39 rfl rfl ?_
          refine ev_getR (r := 84) dX10_worldOf_40 fl_X10_19 (by decide) rfl (by decide) (by decide) rfl ?_
          refine ev_iload 5 dX10_worldOf_43 rfl ?_
          refine ev_ialdc 16 dX10_worldOf_45 (by decide) rfl rfl (by decide) c2 ?_
          refine ev_i2l dX10_worldOf_46 ?_
          refine ev_aload_n 0 dX10_worldOf_47 rfl rfl ?_
          refine ev_getR (r := 85) dX10_worldOf_48 fl_X10_22 (by decide) rfl (by decide) (by decide) rfl ?_
          refine ev_iload 5 dX10_worldOf_51 rfl ?_
          refine ev_ialdc 16 dX10_worldOf_53 (by decide) rfl rfl (by decide) c2 ?_
          refine ev_i2l dX10_worldOf_54 ?_
          obtain ⟨q5, e6, h⟩ := bd_c h
          refine ev_callSi (av := [.long ((x3).toInt64), .long ((A 84 (x5).toNatClampNeg).toInt64), .long ((A 85 (x5).toNatClampNeg).toInt64)]) dX10_worldOf_55 (c_X10_in n ((x3).toInt64) ((A 84 (x5).toNatClampNeg).toInt64) ((A 85 (x5).toNatClampNeg).toInt64)  A q5 e6) mk_X10_in lk_X10_121 is_X10_in rfl (by decide) (by decide) (Nat.le_of_ble_eq_true rfl) rfl ?_
          refine ev_if_eq (tgt := 71) dX10_worldOf_58 (by decide) (fun c7 => ?_) (fun c7 => ?_)
          · have h := if_t c7 h
            refine ev_iload 4 dX10_worldOf_71 rfl ?_
            refine ev_istore (ls' := [(4, .int x4), (0, .ref 80), (1, .int x1), (2, .int x2), (3, .int x3), (5, .int x5)]) dX10_worldOf_73 (by decide) rfl ?_
            refine ev_iinc (v := x5 + 1) (ls' := [(5, .int (x5 + 1)), (4, .int x4), (0, .ref 80), (1, .int x1), (2, .int x2), (3, .int x3)]) 5 dX10_worldOf_75 rfl rfl (by decide) rfl ?_
            refine ev_goto (tgt := 6) dX10_worldOf_78 (by decide) ?_
            refine ev_pick [2, 3, 4, 5, 1, 0] (ls' := [(0, .ref 80), (1, .int x1), (2, .int x2), (3, .int x3), (4, .int x4), (5, .int (x5 + 1))]) rfl ?_
            exact ih x1 x2 x3 x4 (x5 + 1) _ q h
          · have h := if_f c7 h
            refine ev_aload_n 0 dX10_worldOf_61 rfl rfl ?_
            refine ev_getR (r := 86) dX10_worldOf_62 fl_X10_25 (by decide) rfl (by decide) (by decide) rfl ?_
            refine ev_iload 5 dX10_worldOf_65 rfl ?_
            refine ev_ialdc 16 dX10_worldOf_67 (by decide) rfl rfl (by decide) c2 ?_
            refine ev_goto (tgt := 73) dX10_worldOf_68 (by decide) ?_
            refine ev_istore (ls' := [(4, .int (q5.2 86 (x5).toNatClampNeg)), (0, .ref 80), (1, .int x1), (2, .int x2), (3, .int x3), (5, .int x5)]) dX10_worldOf_73 (by decide) rfl ?_
            refine ev_iinc (v := x5 + 1) (ls' := [(5, .int (x5 + 1)), (4, .int (q5.2 86 (x5).toNatClampNeg)), (0, .ref 80), (1, .int x1), (2, .int x2), (3, .int x3)]) 5 dX10_worldOf_75 rfl rfl (by decide) rfl ?_
            refine ev_goto (tgt := 6) dX10_worldOf_78 (by decide) ?_
            refine ev_pick [2, 3, 4, 5, 1, 0] (ls' := [(0, .ref 80), (1, .int x1), (2, .int x2), (3, .int x3), (4, .int (q5.2 86 (x5).toNatClampNeg)), (5, .int (x5 + 1))]) rfl ?_
            exact ih x1 x2 x3 (q5.2 86 (x5).toNatClampNeg) (x5 + 1) _ q h
def f_X10_worldOf (n : Nat) (x1 : Int32) (x2 : Int32) (x3 : Int32) (A : Mem) : Option (Int32 × Mem) :=
  g_X10_worldOf_6 n  n x1 x2 x3 ((0 : Int32)) ((0 : Int32)) A
set_option maxRecDepth 100000 in
set_option maxHeartbeats 4000000 in
theorem c_X10_worldOf (n : Nat) (x1 : Int32) (x2 : Int32) (x3 : Int32) (A : Mem) (q : Int32 × Mem) (h : f_X10_worldOf n x1 x2 x3 A = some q) : Ct yX10_worldOf cX10_worldOf 6 (some .int) 1 [.ref 80, .int x1, .int x2, .int x3] A (RI q) := by
  unfold f_X10_worldOf at h
  refine ct_of (by decide) (Nat.le_of_ble_eq_true rfl) ?_
  show Ev cX10_worldOf 6 RX10 (some .int) 1 none 0 [(0, .ref 80), (1, .int x1), (2, .int x2), (3, .int x3)] [] A (RI q)
  refine ev_iconst (v := 0) dX10_worldOf_0 (by decide) ?_
  refine ev_istore (ls' := [(4, .int ((0 : Int32))), (0, .ref 80), (1, .int x1), (2, .int x2), (3, .int x3)]) dX10_worldOf_1 (by decide) rfl ?_
  refine ev_iconst (v := 0) dX10_worldOf_3 (by decide) ?_
  refine ev_istore (ls' := [(5, .int ((0 : Int32))), (4, .int ((0 : Int32))), (0, .ref 80), (1, .int x1), (2, .int x2), (3, .int x3)]) dX10_worldOf_4 (by decide) rfl ?_
  refine ev_pick [2, 3, 4, 5, 1, 0] (ls' := [(0, .ref 80), (1, .int x1), (2, .int x2), (3, .int x3), (4, .int ((0 : Int32))), (5, .int ((0 : Int32)))]) rfl ?_
  exact (l_X10_worldOf_6 n   n) x1 x2 x3 ((0 : Int32)) ((0 : Int32)) _ q h
def f_X10_world (n : Nat) (x1 : Int32) (x2 : Int32) (x3 : Int32) (A : Mem) : Option (Int32 × Mem) :=
  (f_X10_isPlace n x1 A).bind fun q1 =>
  if q1.1 = 0 then
    some ((-2 : Int32), q1.2)
  else
    (f_X10_isKind n x2 q1.2).bind fun q4 =>
    if q4.1 = 0 then
      some ((-2 : Int32), q4.2)
    else
      (f_X10_isDay n x3 q4.2).bind fun q7 =>
      if q7.1 = 0 then
        some ((-3 : Int32), q7.2)
      else
        (f_X10_worldOf n x1 x2 x3 q7.2).bind fun q10 =>
        some (q10.1, q10.2)
set_option maxRecDepth 100000 in
set_option maxHeartbeats 4000000 in
theorem c_X10_world (n : Nat) (x1 : Int32) (x2 : Int32) (x3 : Int32) (A : Mem) (q : Int32 × Mem) (h : f_X10_world n x1 x2 x3 A = some q) : Ct yX10_world cX10_world 4 (some .int) 2 [.ref 80, .int x1, .int x2, .int x3] A (RI q) := by
  unfold f_X10_world at h
  refine ct_of (by decide) (Nat.le_of_ble_eq_true rfl) ?_
  show Ev cX10_world 4 RX10 (some .int) 2 none 0 [(0, .ref 80), (1, .int x1), (2, .int x2), (3, .int x3)] [] A (RI q)
  refine ev_iload_n 1 dX10_world_0 rfl rfl ?_
  obtain ⟨q1, e2, h⟩ := bd_c h
  refine ev_callSi (av := [.int x1]) dX10_world_1 (c_X10_isPlace n x1  A q1 e2) mk_X10_isPlace lk_X10_133 is_X10_isPlace rfl (by decide) (by decide) (Nat.le_of_ble_eq_true rfl) rfl ?_
  refine ev_if_eq (tgt := 14) dX10_world_4 (by decide) (fun c3 => ?_) (fun c3 => ?_)
  · have h := if_t c3 h
    refine ev_bipush (v := -2) dX10_world_14 (by decide) ?_
    cases h
    exact ev_iret dX10_world_16 rfl rfl ⟨rfl, rfl⟩
  · have h := if_f c3 h
    refine ev_iload_n 2 dX10_world_7 rfl rfl ?_
    obtain ⟨q4, e5, h⟩ := bd_c h
    refine ev_callSi (av := [.int x2]) dX10_world_8 (c_X10_isKind n x2  q1.2 q4 e5) mk_X10_isKind lk_X10_139 is_X10_isKind rfl (by decide) (by decide) (Nat.le_of_ble_eq_true rfl) rfl ?_
    refine ev_if_ne (tgt := 17) dX10_world_11 (by decide) (fun c6 => ?_) (fun c6 => ?_)
    · have h := if_f c6 h
      refine ev_iload_n 3 dX10_world_17 rfl rfl ?_
      obtain ⟨q7, e8, h⟩ := bd_c h
      refine ev_callSi (av := [.int x3]) dX10_world_18 (c_X10_isDay n x3  q4.2 q7 e8) mk_X10_isDay lk_X10_142 is_X10_isDay rfl (by decide) (by decide) (Nat.le_of_ble_eq_true rfl) rfl ?_
      refine ev_if_eq (tgt := 34) dX10_world_21 (by decide) (fun c9 => ?_) (fun c9 => ?_)
      · have h := if_t c9 h
        refine ev_bipush (v := -3) dX10_world_34 (by decide) ?_
        cases h
        exact ev_iret dX10_world_36 rfl rfl ⟨rfl, rfl⟩
      · have h := if_f c9 h
        refine ev_aload_n 0 dX10_world_24 rfl rfl ?_
        refine ev_iload_n 1 dX10_world_25 rfl rfl ?_
        refine ev_iload_n 2 dX10_world_26 rfl rfl ?_
        refine ev_iload_n 3 dX10_world_27 rfl rfl ?_
        obtain ⟨q10, e11, h⟩ := bd_c h
        refine ev_callVi (av := [.int x1, .int x2, .int x3]) dX10_world_28 (c_X10_worldOf n x1 x2 x3  q7.2 q10 e11) mk_X10_worldOf lk_X10_151 iv_X10_worldOf (Or.inl ⟨10, _, by decide, rfl, by decide, rfl, rfl⟩) rfl (by decide) (by decide) (Nat.le_of_ble_eq_true rfl) rfl ?_
        refine ev_goto (tgt := 36) dX10_world_31 (by decide) ?_
        cases h
        exact ev_iret dX10_world_36 rfl rfl ⟨rfl, rfl⟩
    · have h := if_t c6 h
      refine ev_bipush (v := -2) dX10_world_14 (by decide) ?_
      cases h
      exact ev_iret dX10_world_16 rfl rfl ⟨rfl, rfl⟩
def f_X10_isAgent (n : Nat) (x0 : Int32) (A : Mem) : Option (Int32 × Mem) :=
  (f_X10_in n ((x0).toInt64) ((0 : Int64)) ((5 : Int64)) A).bind fun q1 =>
  if q1.1 = 0 ∨ q1.1 = 1 then
    some (q1.1, q1.2)
  else
    none
set_option maxRecDepth 100000 in
set_option maxHeartbeats 4000000 in
theorem c_X10_isAgent (n : Nat) (x0 : Int32) (A : Mem) (q : Int32 × Mem) (h : f_X10_isAgent n x0 A = some q) : Ct yX10_isAgent cX10_isAgent 1 (some .boolean) 1 [.int x0] A (RI q) := by
  unfold f_X10_isAgent at h
  refine ct_of (by decide) (Nat.le_of_ble_eq_true rfl) ?_
  show Ev cX10_isAgent 1 RX10 (some .boolean) 1 none 0 [(0, .int x0)] [] A (RI q)
  refine ev_iload_n 0 dX10_isAgent_0 rfl rfl ?_
  refine ev_i2l dX10_isAgent_1 ?_
  refine ev_lconst (v := 0) dX10_isAgent_2 (by decide) ?_
  refine ev_ldc2 dX10_isAgent_3 kc_X10_129 ?_
  obtain ⟨q1, e2, h⟩ := bd_c h
  refine ev_callSi (av := [.long ((x0).toInt64), .long ((0 : Int64)), .long ((5 : Int64))]) dX10_isAgent_6 (c_X10_in n ((x0).toInt64) ((0 : Int64)) ((5 : Int64))  A q1 e2) mk_X10_in lk_X10_121 is_X10_in rfl (by decide) (by decide) (Nat.le_of_ble_eq_true rfl) rfl ?_
  obtain ⟨c3, h⟩ := if_c h
  cases h
  exact ev_iret dX10_isAgent_9 rfl (narB c3) ⟨rfl, rfl⟩
def f_X10_home (n : Nat) (x1 : Int32) (x2 : Int32) (A : Mem) : Option (Int32 × Mem) :=
  (f_X10_isAgent n x1 A).bind fun q1 =>
  if q1.1 = 0 then
    some ((-2 : Int32), q1.2)
  else
    (f_X10_isPlace n x2 q1.2).bind fun q4 =>
    if q4.1 = 0 then
      some ((-2 : Int32), q4.2)
    else
      if ¬ x1 < 0 ∧ (x1).toNatClampNeg < 6 then
        some (q4.2 88 (x1).toNatClampNeg, st2 q4.2 88 (x1).toNatClampNeg x2)
      else
        none
set_option maxRecDepth 100000 in
set_option maxHeartbeats 4000000 in
theorem c_X10_home (n : Nat) (x1 : Int32) (x2 : Int32) (A : Mem) (q : Int32 × Mem) (h : f_X10_home n x1 x2 A = some q) : Ct yX10_home cX10_home 4 (some .int) 2 [.ref 80, .int x1, .int x2] A (RI q) := by
  unfold f_X10_home at h
  refine ct_of (by decide) (Nat.le_of_ble_eq_true rfl) ?_
  show Ev cX10_home 4 RX10 (some .int) 2 none 0 [(0, .ref 80), (1, .int x1), (2, .int x2)] [] A (RI q)
  refine ev_iload_n 1 dX10_home_0 rfl rfl ?_
  obtain ⟨q1, e2, h⟩ := bd_c h
  refine ev_callSi (av := [.int x1]) dX10_home_1 (c_X10_isAgent n x1  A q1 e2) mk_X10_isAgent lk_X10_155 is_X10_isAgent rfl (by decide) (by decide) (Nat.le_of_ble_eq_true rfl) rfl ?_
  refine ev_if_eq (tgt := 14) dX10_home_4 (by decide) (fun c3 => ?_) (fun c3 => ?_)
  · have h := if_t c3 h
    refine ev_bipush (v := -2) dX10_home_14 (by decide) ?_
    cases h
    exact ev_iret dX10_home_16 rfl rfl ⟨rfl, rfl⟩
  · have h := if_f c3 h
    refine ev_iload_n 2 dX10_home_7 rfl rfl ?_
    obtain ⟨q4, e5, h⟩ := bd_c h
    refine ev_callSi (av := [.int x2]) dX10_home_8 (c_X10_isPlace n x2  q1.2 q4 e5) mk_X10_isPlace lk_X10_133 is_X10_isPlace rfl (by decide) (by decide) (Nat.le_of_ble_eq_true rfl) rfl ?_
    refine ev_if_ne (tgt := 17) dX10_home_11 (by decide) (fun c6 => ?_) (fun c6 => ?_)
    · have h := if_f c6 h
      refine ev_aload_n 0 dX10_home_17 rfl rfl ?_
      refine ev_getR (r := 88) dX10_home_18 fl_X10_32 (by decide) rfl (by decide) (by decide) rfl ?_
      refine ev_iload_n 1 dX10_home_21 rfl rfl ?_
      obtain ⟨c7, h⟩ := if_c h
      refine ev_ialdc 6 dX10_home_22 (by decide) rfl rfl (by decide) c7 ?_
      refine ev_istore_n (ls' := [(3, .int (q4.2 88 (x1).toNatClampNeg)), (0, .ref 80), (1, .int x1), (2, .int x2)]) dX10_home_23 rfl (by decide) rfl ?_
      refine ev_aload_n 1 dX10_home_24 rfl rfl ?_
      refine ev_getR (r := 88) dX10_home_25 fl_X10_32 (by decide) rfl (by decide) (by decide) rfl ?_
      refine ev_iload_n 2 dX10_home_28 rfl rfl ?_
      refine ev_iload_n 3 dX10_home_29 rfl rfl ?_
      refine ev_iastc 6 dX10_home_30 (by decide) rfl rfl (by decide) c7 ?_
      refine ev_iload_n 0 dX10_home_31 rfl rfl ?_
      cases h
      exact ev_iret dX10_home_32 rfl rfl ⟨rfl, rfl⟩
    · have h := if_t c6 h
      refine ev_bipush (v := -2) dX10_home_14 (by decide) ?_
      cases h
      exact ev_iret dX10_home_16 rfl rfl ⟨rfl, rfl⟩
def g_X10_write_33 (n : Nat) (y1 : Int64) : Nat → Int32 → Int32 → Mem → Option (Int32 × Mem)
  | 0, _, _, _ => none
  | m + 1, x3, x4, A =>
    if x3 ≤ x4 then
      some (A 80 10, A)
    else
      if ¬ (A 80 10) < 0 ∧ (A 80 10).toNatClampNeg < 160 then
        g_X10_write_33 n y1 m x3 (x4 + 1) (st2 (st2 A 89 (A 80 10).toNatClampNeg (((y1 >>> ((((8 : Int32)) * x4).toInt64 &&& 63)) &&& ((255 : Int64))).toInt32)) 80 10 (((st2 A 89 (A 80 10).toNatClampNeg (((y1 >>> ((((8 : Int32)) * x4).toInt64 &&& 63)) &&& ((255 : Int64))).toInt32)) 80 10) + ((1 : Int32))))
      else
        none
set_option maxRecDepth 100000 in
set_option maxHeartbeats 4000000 in
theorem l_X10_write_33 (n : Nat) (y1 : Int64) : ∀ (m : Nat) (x3 : Int32) (x4 : Int32) (A : Mem) (q : Int32 × Mem), g_X10_write_33 n y1 m x3 x4 A = some q → Ev cX10_write 5 RX10 (some .int) 1 none 33 [(0, .ref 80), (1, .long y1), (3, .int x3), (4, .int x4)] [] A (RI q) := by
  intro m
  induction m with
  | zero => intro x3 x4 A q h; exact absurd h (by simp [g_X10_write_33])
  | succ m ih =>
    intro x3 x4 A q h
    rw [g_X10_write_33] at h
    refine ev_iload 3 dX10_write_33 rfl ?_
    refine ev_iload_n 2 dX10_write_35 rfl rfl ?_
    refine ev_icmp_ge (tgt := 76) dX10_write_36 (by decide) (fun c5 => ?_) (fun c5 => ?_)
    · have h := if_t c5 h
      refine ev_aload_n 0 dX10_write_76 rfl rfl ?_
      refine ev_getI dX10_write_77 fl_X10_160 (by decide) rfl (by decide) (by decide) rfl ?_
      cases h
      exact ev_iret dX10_write_80 rfl rfl ⟨rfl, rfl⟩
    · have h := if_f c5 h
      refine ev_aload_n 0 dX10_write_39 rfl rfl ?_
      refine ev_getR (r := 89) dX10_write_40 fl_X10_35 (by decide) rfl (by decide) (by decide) rfl ?_
      refine ev_aload_n 0 dX10_write_43 rfl rfl ?_
      refine ev_getI dX10_write_44 fl_X10_160 (by decide) rfl (by decide) (by decide) rfl ?_
      refine ev_lload_n 1 dX10_write_47 rfl rfl ?_
      refine ev_bipush (v := 8) dX10_write_48 (by decide) ?_
      refine ev_iload 3 dX10_write_50 rfl ?_
      refine ev_imul dX10_write_52 ?_
      refine ev_lshr dX10_write_53 ?_
      refine ev_ldc2 dX10_write_54 kc_X10_137 ?_
      refine ev_land dX10_write_57 ?_
      refine ev_l2i dX10_write_58 ?_
      obtain ⟨c6, h⟩ := if_c h
      refine ev_iastc 160 dX10_write_59 (by decide) rfl rfl (by decide) c6 ?_
      refine ev_aload_n 0 dX10_write_60 rfl rfl ?_
      refine ev_dup dX10_write_61 rfl ?_
      refine ev_getI dX10_write_62 fl_X10_160 (by decide) rfl (by decide) (by decide) rfl ?_
      refine ev_iconst (v := 1) dX10_write_65 (by decide) ?_
      refine ev_iadd dX10_write_66 ?_
      refine ev_put2 dX10_write_67 fl_X10_160 pk_10_10 (by decide) rfl (by decide) (by decide) rfl ?_
      refine ev_iinc (v := x4 + 1) (ls' := [(4, .int (x4 + 1)), (0, .ref 80), (1, .long y1), (3, .int x3)]) 3 dX10_write_70 rfl rfl (by decide) rfl ?_
      refine ev_goto (tgt := 33) dX10_write_73 (by decide) ?_
      refine ev_pick [1, 2, 3, 0] (ls' := [(0, .ref 80), (1, .long y1), (3, .int x3), (4, .int (x4 + 1))]) rfl ?_
      exact ih x3 (x4 + 1) _ q h
def f_X10_write (n : Nat) (y1 : Int64) (x3 : Int32) (A : Mem) : Option (Int32 × Mem) :=
  (f_X10_in n ((x3).toInt64) ((1 : Int64)) ((8 : Int64)) A).bind fun q1 =>
  if q1.1 = 0 then
    some ((-3 : Int32), q1.2)
  else
    if ((q1.2 80 10) + x3) ≤ ((160 : Int32)) then
      g_X10_write_33 n y1 n x3 ((0 : Int32)) q1.2
    else
      some ((-5 : Int32), q1.2)
set_option maxRecDepth 100000 in
set_option maxHeartbeats 4000000 in
theorem c_X10_write (n : Nat) (y1 : Int64) (x3 : Int32) (A : Mem) (q : Int32 × Mem) (h : f_X10_write n y1 x3 A = some q) : Ct yX10_write cX10_write 5 (some .int) 1 [.ref 80, .long y1, .int x3] A (RI q) := by
  unfold f_X10_write at h
  refine ct_of (by decide) (Nat.le_of_ble_eq_true rfl) ?_
  show Ev cX10_write 5 RX10 (some .int) 1 none 0 [(0, .ref 80), (1, .long y1), (3, .int x3)] [] A (RI q)
  refine ev_iload_n 2 dX10_write_0 rfl rfl ?_
  refine ev_i2l dX10_write_1 ?_
  refine ev_lconst (v := 1) dX10_write_2 (by decide) ?_
  refine ev_ldc2 dX10_write_3 kc_X10_158 ?_
  obtain ⟨q1, e2, h⟩ := bd_c h
  refine ev_callSi (av := [.long ((x3).toInt64), .long ((1 : Int64)), .long ((8 : Int64))]) dX10_write_6 (c_X10_in n ((x3).toInt64) ((1 : Int64)) ((8 : Int64))  A q1 e2) mk_X10_in lk_X10_121 is_X10_in rfl (by decide) (by decide) (Nat.le_of_ble_eq_true rfl) rfl ?_
  refine ev_if_ne (tgt := 15) dX10_write_9 (by decide) (fun c3 => ?_) (fun c3 => ?_)
  · have h := if_f c3 h
    refine ev_aload_n 0 dX10_write_15 rfl rfl ?_
    refine ev_getI dX10_write_16 fl_X10_160 (by decide) rfl (by decide) (by decide) rfl ?_
    refine ev_iload_n 2 dX10_write_19 rfl rfl ?_
    refine ev_iadd dX10_write_20 ?_
    refine ev_sipush (v := 160) dX10_write_21 (by decide) ?_
    refine ev_icmp_le (tgt := 30) dX10_write_24 (by decide) (fun c4 => ?_) (fun c4 => ?_)
    · have h := if_t c4 h
      refine ev_iconst (v := 0) dX10_write_30 (by decide) ?_
      refine ev_istore (ls' := [(4, .int ((0 : Int32))), (0, .ref 80), (1, .long y1), (3, .int x3)]) dX10_write_31 (by decide) rfl ?_
      refine ev_pick [1, 2, 3, 0] (ls' := [(0, .ref 80), (1, .long y1), (3, .int x3), (4, .int ((0 : Int32)))]) rfl ?_
      exact (l_X10_write_33 n y1  n) x3 ((0 : Int32)) _ q h
    · have h := if_f c4 h
      refine ev_bipush (v := -5) dX10_write_27 (by decide) ?_
      cases h
      exact ev_iret dX10_write_29 rfl rfl ⟨rfl, rfl⟩
  · have h := if_t c3 h
    refine ev_bipush (v := -3) dX10_write_12 (by decide) ?_
    cases h
    exact ev_iret dX10_write_14 rfl rfl ⟨rfl, rfl⟩
def f_X10_erase (n : Nat) (A : Mem) : Option (Int32 × Mem) :=
  some (A 80 10, st2 A 80 10 ((0 : Int32)))
set_option maxRecDepth 100000 in
set_option maxHeartbeats 4000000 in
theorem c_X10_erase (n : Nat) (A : Mem) (q : Int32 × Mem) (h : f_X10_erase n  A = some q) : Ct yX10_erase cX10_erase 2 (some .int) 0 [.ref 80] A (RI q) := by
  unfold f_X10_erase at h
  refine ct_of (by decide) (Nat.le_of_ble_eq_true rfl) ?_
  show Ev cX10_erase 2 RX10 (some .int) 0 none 0 [(0, .ref 80)] [] A (RI q)
  refine ev_aload_n 0 dX10_erase_0 rfl rfl ?_
  refine ev_getI dX10_erase_1 fl_X10_160 (by decide) rfl (by decide) (by decide) rfl ?_
  refine ev_istore_n (ls' := [(1, .int (A 80 10)), (0, .ref 80)]) dX10_erase_4 rfl (by decide) rfl ?_
  refine ev_aload_n 1 dX10_erase_5 rfl rfl ?_
  refine ev_iconst (v := 0) dX10_erase_6 (by decide) ?_
  refine ev_put2 dX10_erase_7 fl_X10_160 pk_10_10 (by decide) rfl (by decide) (by decide) rfl ?_
  refine ev_iload_n 0 dX10_erase_10 rfl rfl ?_
  cases h
  exact ev_iret dX10_erase_11 rfl rfl ⟨rfl, rfl⟩
def f_X10_sort (n : Nat) (x0 : Int32) (A : Mem) : Option (Int32 × Mem) :=
  if x0 < ((97 : Int32)) then
    if x0 < ((48 : Int32)) then
      some ((0 : Int32), A)
    else
      if ((57 : Int32)) < x0 then
        some ((0 : Int32), A)
      else
        some ((2 : Int32), A)
  else
    if ((122 : Int32)) < x0 then
      if x0 < ((48 : Int32)) then
        some ((0 : Int32), A)
      else
        if ((57 : Int32)) < x0 then
          some ((0 : Int32), A)
        else
          some ((2 : Int32), A)
    else
      some ((1 : Int32), A)
set_option maxRecDepth 100000 in
set_option maxHeartbeats 4000000 in
theorem c_X10_sort (n : Nat) (x0 : Int32) (A : Mem) (q : Int32 × Mem) (h : f_X10_sort n x0 A = some q) : Ct yX10_sort cX10_sort 1 (some .int) 0 [.int x0] A (RI q) := by
  unfold f_X10_sort at h
  refine ct_of (by decide) (Nat.le_of_ble_eq_true rfl) ?_
  show Ev cX10_sort 1 RX10 (some .int) 0 none 0 [(0, .int x0)] [] A (RI q)
  refine ev_iload_n 0 dX10_sort_0 rfl rfl ?_
  refine ev_bipush (v := 97) dX10_sort_1 (by decide) ?_
  refine ev_icmp_lt (tgt := 16) dX10_sort_3 (by decide) (fun c1 => ?_) (fun c1 => ?_)
  · have h := if_t c1 h
    refine ev_iload_n 0 dX10_sort_16 rfl rfl ?_
    refine ev_bipush (v := 48) dX10_sort_17 (by decide) ?_
    refine ev_icmp_lt (tgt := 32) dX10_sort_19 (by decide) (fun c2 => ?_) (fun c2 => ?_)
    · have h := if_t c2 h
      refine ev_iconst (v := 0) dX10_sort_32 (by decide) ?_
      cases h
      exact ev_iret dX10_sort_33 rfl rfl ⟨rfl, rfl⟩
    · have h := if_f c2 h
      refine ev_iload_n 0 dX10_sort_22 rfl rfl ?_
      refine ev_bipush (v := 57) dX10_sort_23 (by decide) ?_
      refine ev_icmp_gt (tgt := 32) dX10_sort_25 (by decide) (fun c3 => ?_) (fun c3 => ?_)
      · have h := if_t c3 h
        refine ev_iconst (v := 0) dX10_sort_32 (by decide) ?_
        cases h
        exact ev_iret dX10_sort_33 rfl rfl ⟨rfl, rfl⟩
      · have h := if_f c3 h
        refine ev_iconst (v := 2) dX10_sort_28 (by decide) ?_
        refine ev_goto (tgt := 33) dX10_sort_29 (by decide) ?_
        cases h
        exact ev_iret dX10_sort_33 rfl rfl ⟨rfl, rfl⟩
  · have h := if_f c1 h
    refine ev_iload_n 0 dX10_sort_6 rfl rfl ?_
    refine ev_bipush (v := 122) dX10_sort_7 (by decide) ?_
    refine ev_icmp_gt (tgt := 16) dX10_sort_9 (by decide) (fun c4 => ?_) (fun c4 => ?_)
    · have h := if_t c4 h
      refine ev_iload_n 0 dX10_sort_16 rfl rfl ?_
      refine ev_bipush (v := 48) dX10_sort_17 (by decide) ?_
      refine ev_icmp_lt (tgt := 32) dX10_sort_19 (by decide) (fun c5 => ?_) (fun c5 => ?_)
      · have h := if_t c5 h
        refine ev_iconst (v := 0) dX10_sort_32 (by decide) ?_
        cases h
        exact ev_iret dX10_sort_33 rfl rfl ⟨rfl, rfl⟩
      · have h := if_f c5 h
        refine ev_iload_n 0 dX10_sort_22 rfl rfl ?_
        refine ev_bipush (v := 57) dX10_sort_23 (by decide) ?_
        refine ev_icmp_gt (tgt := 32) dX10_sort_25 (by decide) (fun c6 => ?_) (fun c6 => ?_)
        · have h := if_t c6 h
          refine ev_iconst (v := 0) dX10_sort_32 (by decide) ?_
          cases h
          exact ev_iret dX10_sort_33 rfl rfl ⟨rfl, rfl⟩
        · have h := if_f c6 h
          refine ev_iconst (v := 2) dX10_sort_28 (by decide) ?_
          refine ev_goto (tgt := 33) dX10_sort_29 (by decide) ?_
          cases h
          exact ev_iret dX10_sort_33 rfl rfl ⟨rfl, rfl⟩
    · have h := if_f c4 h
      refine ev_iconst (v := 1) dX10_sort_12 (by decide) ?_
      refine ev_goto (tgt := 33) dX10_sort_13 (by decide) ?_
      cases h
      exact ev_iret dX10_sort_33 rfl rfl ⟨rfl, rfl⟩
def g_X10_token_71 (n : Nat) : Nat → Mem → Option (Int32 × Mem)
  | 0, _ => none
  | m + 1, A =>
    if (A 80 10) ≤ (A 80 43) then
      some (0, st2 A 80 45 (A 80 43))
    else
      if ¬ (A 80 44) < 0 ∧ (A 80 44).toNatClampNeg < 160 then
        (f_X10_sort n (A 89 (A 80 44).toNatClampNeg) A).bind fun q8 =>
        if q8.1 ≤ 0 then
          some (0, st2 q8.2 80 45 (q8.2 80 43))
        else
          if ¬ (q8.2 80 43) < 0 ∧ (q8.2 80 43).toNatClampNeg < 160 then
            (f_X10_sort n (q8.2 89 (q8.2 80 43).toNatClampNeg) q8.2).bind fun q12 =>
            if ¬ (q12.2 80 44) < 0 ∧ (q12.2 80 44).toNatClampNeg < 160 then
              (f_X10_sort n (q12.2 89 (q12.2 80 44).toNatClampNeg) q12.2).bind fun q15 =>
              if q12.1 = q15.1 then
                g_X10_token_71 n  m  (st2 q15.2 80 43 ((q15.2 80 43) + ((1 : Int32))))
              else
                some (0, st2 q15.2 80 45 (q15.2 80 43))
            else
              none
          else
            none
      else
        none
set_option maxRecDepth 100000 in
set_option maxHeartbeats 4000000 in
theorem l_X10_token_71 (n : Nat) : ∀ (m : Nat) (A : Mem) (q : Int32 × Mem), g_X10_token_71 n  m  A = some q → Ev cX10_token 1 RX10 none 1 none 71 [(0, .ref 80)] [] A (RV q) := by
  intro m
  induction m with
  | zero => intro  A q h; exact absurd h (by simp [g_X10_token_71])
  | succ m ih =>
    intro  A q h
    rw [g_X10_token_71] at h
    refine ev_aload_n 0 dX10_token_71 rfl rfl ?_
    refine ev_getI dX10_token_72 fl_X10_163 (by decide) rfl (by decide) (by decide) rfl ?_
    refine ev_aload_n 0 dX10_token_75 rfl rfl ?_
    refine ev_getI dX10_token_76 fl_X10_160 (by decide) rfl (by decide) (by decide) rfl ?_
    refine ev_icmp_ge (tgt := 137) dX10_token_79 (by decide) (fun c6 => ?_) (fun c6 => ?_)
    · have h := if_t c6 h
      refine ev_aload_n 0 dX10_token_137 rfl rfl ?_
      refine ev_aload_n 0 dX10_token_138 rfl rfl ?_
      refine ev_getI dX10_token_139 fl_X10_163 (by decide) rfl (by decide) (by decide) rfl ?_
      refine ev_put2 dX10_token_142 fl_X10_173 pk_10_45 (by decide) rfl (by decide) (by decide) rfl ?_
      cases h
      exact ev_vret dX10_token_145 rfl ⟨rfl, rfl⟩
    · have h := if_f c6 h
      refine ev_aload_n 0 dX10_token_82 rfl rfl ?_
      refine ev_getR (r := 89) dX10_token_83 fl_X10_35 (by decide) rfl (by decide) (by decide) rfl ?_
      refine ev_aload_n 0 dX10_token_86 rfl rfl ?_
      refine ev_getI dX10_token_87 fl_X10_166 (by decide) rfl (by decide) (by decide) rfl ?_
      obtain ⟨c7, h⟩ := if_c h
      refine ev_ialdc 160 dX10_token_90 (by decide) rfl rfl (by decide) c7 ?_
      obtain ⟨q8, e9, h⟩ := bd_c h
      refine ev_callSi (av := [.int (A 89 (A 80 44).toNatClampNeg)]) dX10_token_91 (c_X10_sort n (A 89 (A 80 44).toNatClampNeg)  A q8 e9) mk_X10_sort lk_X10_169 is_X10_sort rfl (by decide) (by decide) (Nat.le_of_ble_eq_true rfl) rfl ?_
      refine ev_if_le (tgt := 137) dX10_token_94 (by decide) (fun c10 => ?_) (fun c10 => ?_)
      · have h := if_t c10 h
        refine ev_aload_n 0 dX10_token_137 rfl rfl ?_
        refine ev_aload_n 0 dX10_token_138 rfl rfl ?_
        refine ev_getI dX10_token_139 fl_X10_163 (by decide) rfl (by decide) (by decide) rfl ?_
        refine ev_put2 dX10_token_142 fl_X10_173 pk_10_45 (by decide) rfl (by decide) (by decide) rfl ?_
        cases h
        exact ev_vret dX10_token_145 rfl ⟨rfl, rfl⟩
      · have h := if_f c10 h
        refine ev_aload_n 0 dX10_token_97 rfl rfl ?_
        refine ev_getR (r := 89) dX10_token_98 fl_X10_35 (by decide) rfl (by decide) (by decide) rfl ?_
        refine ev_aload_n 0 dX10_token_101 rfl rfl ?_
        refine ev_getI dX10_token_102 fl_X10_163 (by decide) rfl (by decide) (by decide) rfl ?_
        obtain ⟨c11, h⟩ := if_c h
        refine ev_ialdc 160 dX10_token_105 (by decide) rfl rfl (by decide) c11 ?_
        obtain ⟨q12, e13, h⟩ := bd_c h
        refine ev_callSi (av := [.int (q8.2 89 (q8.2 80 43).toNatClampNeg)]) dX10_token_106 (c_X10_sort n (q8.2 89 (q8.2 80 43).toNatClampNeg)  q8.2 q12 e13) mk_X10_sort lk_X10_169 is_X10_sort rfl (by decide) (by decide) (Nat.le_of_ble_eq_true rfl) rfl ?_
        refine ev_aload_n 0 dX10_token_109 rfl rfl ?_
        refine ev_getR (r := 89) dX10_token_110 fl_X10_35 (by decide) rfl (by decide) (by decide) rfl ?_
        refine ev_aload_n 0 dX10_token_113 rfl rfl ?_
        refine ev_getI dX10_token_114 fl_X10_166 (by decide) rfl (by decide) (by decide) rfl ?_
        obtain ⟨c14, h⟩ := if_c h
        refine ev_ialdc 160 dX10_token_117 (by decide) rfl rfl (by decide) c14 ?_
        obtain ⟨q15, e16, h⟩ := bd_c h
        refine ev_callSi (av := [.int (q12.2 89 (q12.2 80 44).toNatClampNeg)]) dX10_token_118 (c_X10_sort n (q12.2 89 (q12.2 80 44).toNatClampNeg)  q12.2 q15 e16) mk_X10_sort lk_X10_169 is_X10_sort rfl (by decide) (by decide) (Nat.le_of_ble_eq_true rfl) rfl ?_
        refine ev_icmp_ne (tgt := 137) dX10_token_121 (by decide) (fun c17 => ?_) (fun c17 => ?_)
        · have h := if_f c17 h
          refine ev_aload_n 0 dX10_token_137 rfl rfl ?_
          refine ev_aload_n 0 dX10_token_138 rfl rfl ?_
          refine ev_getI dX10_token_139 fl_X10_163 (by decide) rfl (by decide) (by decide) rfl ?_
          refine ev_put2 dX10_token_142 fl_X10_173 pk_10_45 (by decide) rfl (by decide) (by decide) rfl ?_
          cases h
          exact ev_vret dX10_token_145 rfl ⟨rfl, rfl⟩
        · have h := if_t c17 h
          refine ev_aload_n 0 dX10_token_124 rfl rfl ?_
          refine ev_dup dX10_token_125 rfl ?_
          refine ev_getI dX10_token_126 fl_X10_163 (by decide) rfl (by decide) (by decide) rfl ?_
          refine ev_iconst (v := 1) dX10_token_129 (by decide) ?_
          refine ev_iadd dX10_token_130 ?_
          refine ev_put2 dX10_token_131 fl_X10_163 pk_10_43 (by decide) rfl (by decide) (by decide) rfl ?_
          refine ev_goto (tgt := 71) dX10_token_134 (by decide) ?_
          exact ih  _ q h
def g_X10_token_0 (n : Nat) : Nat → Mem → Option (Int32 × Mem)
  | 0, _ => none
  | m + 1, A =>
    if (A 80 10) ≤ (A 80 43) then
      if ((st2 A 80 44 (A 80 43)) 80 10) ≤ ((st2 A 80 44 (A 80 43)) 80 43) then
        g_X10_token_71 n  n  (st2 (st2 A 80 44 (A 80 43)) 80 43 (((st2 A 80 44 (A 80 43)) 80 43) + ((0 : Int32))))
      else
        g_X10_token_71 n  n  (st2 (st2 A 80 44 (A 80 43)) 80 43 (((st2 A 80 44 (A 80 43)) 80 43) + ((1 : Int32))))
    else
      if ¬ (A 80 43) < 0 ∧ (A 80 43).toNatClampNeg < 160 then
        if (A 89 (A 80 43).toNatClampNeg) = ((32 : Int32)) then
          g_X10_token_0 n  m  (st2 A 80 43 ((A 80 43) + ((1 : Int32))))
        else
          if ((st2 A 80 44 (A 80 43)) 80 10) ≤ ((st2 A 80 44 (A 80 43)) 80 43) then
            g_X10_token_71 n  n  (st2 (st2 A 80 44 (A 80 43)) 80 43 (((st2 A 80 44 (A 80 43)) 80 43) + ((0 : Int32))))
          else
            g_X10_token_71 n  n  (st2 (st2 A 80 44 (A 80 43)) 80 43 (((st2 A 80 44 (A 80 43)) 80 43) + ((1 : Int32))))
      else
        none
set_option maxRecDepth 100000 in
set_option maxHeartbeats 4000000 in
theorem l_X10_token_0 (n : Nat) : ∀ (m : Nat) (A : Mem) (q : Int32 × Mem), g_X10_token_0 n  m  A = some q → Ev cX10_token 1 RX10 none 1 none 0 [(0, .ref 80)] [] A (RV q) := by
  intro m
  induction m with
  | zero => intro  A q h; exact absurd h (by simp [g_X10_token_0])
  | succ m ih =>
    intro  A q h
    rw [g_X10_token_0] at h
    refine ev_aload_n 0 dX10_token_0 rfl rfl ?_
    refine ev_getI dX10_token_1 fl_X10_163 (by decide) rfl (by decide) (by decide) rfl ?_
    refine ev_aload_n 0 dX10_token_4 rfl rfl ?_
    refine ev_getI dX10_token_5 fl_X10_160 (by decide) rfl (by decide) (by decide) rfl ?_
    refine ev_icmp_ge (tgt := 38) dX10_token_8 (by decide) (fun c1 => ?_) (fun c1 => ?_)
    · have h := if_t c1 h
      refine ev_aload_n 0 dX10_token_38 rfl rfl ?_
      refine ev_aload_n 0 dX10_token_39 rfl rfl ?_
      refine ev_getI dX10_token_40 fl_X10_163 (by decide) rfl (by decide) (by decide) rfl ?_
      refine ev_put2 dX10_token_43 fl_X10_166 pk_10_44 (by decide) rfl (by decide) (by decide) rfl ?_
      refine ev_aload_n 0 dX10_token_46 rfl rfl ?_
      refine ev_dup dX10_token_47 rfl ?_
      refine ev_getI dX10_token_48 fl_X10_163 (by decide) rfl (by decide) (by decide) rfl ?_
      refine ev_aload_n 0 dX10_token_51 rfl rfl ?_
      refine ev_getI dX10_token_52 fl_X10_163 (by decide) rfl (by decide) (by decide) rfl ?_
      refine ev_aload_n 0 dX10_token_55 rfl rfl ?_
      refine ev_getI dX10_token_56 fl_X10_160 (by decide) rfl (by decide) (by decide) rfl ?_
      refine ev_icmp_ge (tgt := 66) dX10_token_59 (by decide) (fun c2 => ?_) (fun c2 => ?_)
      · have h := if_t c2 h
        refine ev_iconst (v := 0) dX10_token_66 (by decide) ?_
        refine ev_iadd dX10_token_67 ?_
        refine ev_put2 dX10_token_68 fl_X10_163 pk_10_43 (by decide) rfl (by decide) (by decide) rfl ?_
        exact (l_X10_token_71 n   n)  _ q h
      · have h := if_f c2 h
        refine ev_iconst (v := 1) dX10_token_62 (by decide) ?_
        refine ev_goto (tgt := 67) dX10_token_63 (by decide) ?_
        refine ev_iadd dX10_token_67 ?_
        refine ev_put2 dX10_token_68 fl_X10_163 pk_10_43 (by decide) rfl (by decide) (by decide) rfl ?_
        exact (l_X10_token_71 n   n)  _ q h
    · have h := if_f c1 h
      refine ev_aload_n 0 dX10_token_11 rfl rfl ?_
      refine ev_getR (r := 89) dX10_token_12 fl_X10_35 (by decide) rfl (by decide) (by decide) rfl ?_
      refine ev_aload_n 0 dX10_token_15 rfl rfl ?_
      refine ev_getI dX10_token_16 fl_X10_163 (by decide) rfl (by decide) (by decide) rfl ?_
      obtain ⟨c3, h⟩ := if_c h
      refine ev_ialdc 160 dX10_token_19 (by decide) rfl rfl (by decide) c3 ?_
      refine ev_bipush (v := 32) dX10_token_20 (by decide) ?_
      refine ev_icmp_ne (tgt := 38) dX10_token_22 (by decide) (fun c4 => ?_) (fun c4 => ?_)
      · have h := if_f c4 h
        refine ev_aload_n 0 dX10_token_38 rfl rfl ?_
        refine ev_aload_n 0 dX10_token_39 rfl rfl ?_
        refine ev_getI dX10_token_40 fl_X10_163 (by decide) rfl (by decide) (by decide) rfl ?_
        refine ev_put2 dX10_token_43 fl_X10_166 pk_10_44 (by decide) rfl (by decide) (by decide) rfl ?_
        refine ev_aload_n 0 dX10_token_46 rfl rfl ?_
        refine ev_dup dX10_token_47 rfl ?_
        refine ev_getI dX10_token_48 fl_X10_163 (by decide) rfl (by decide) (by decide) rfl ?_
        refine ev_aload_n 0 dX10_token_51 rfl rfl ?_
        refine ev_getI dX10_token_52 fl_X10_163 (by decide) rfl (by decide) (by decide) rfl ?_
        refine ev_aload_n 0 dX10_token_55 rfl rfl ?_
        refine ev_getI dX10_token_56 fl_X10_160 (by decide) rfl (by decide) (by decide) rfl ?_
        refine ev_icmp_ge (tgt := 66) dX10_token_59 (by decide) (fun c5 => ?_) (fun c5 => ?_)
        · have h := if_t c5 h
          refine ev_iconst (v := 0) dX10_token_66 (by decide) ?_
          refine ev_iadd dX10_token_67 ?_
          refine ev_put2 dX10_token_68 fl_X10_163 pk_10_43 (by decide) rfl (by decide) (by decide) rfl ?_
          exact (l_X10_token_71 n   n)  _ q h
        · have h := if_f c5 h
          refine ev_iconst (v := 1) dX10_token_62 (by decide) ?_
          refine ev_goto (tgt := 67) dX10_token_63 (by decide) ?_
          refine ev_iadd dX10_token_67 ?_
          refine ev_put2 dX10_token_68 fl_X10_163 pk_10_43 (by decide) rfl (by decide) (by decide) rfl ?_
          exact (l_X10_token_71 n   n)  _ q h
      · have h := if_t c4 h
        refine ev_aload_n 0 dX10_token_25 rfl rfl ?_
        refine ev_dup dX10_token_26 rfl ?_
        refine ev_getI dX10_token_27 fl_X10_163 (by decide) rfl (by decide) (by decide) rfl ?_
        refine ev_iconst (v := 1) dX10_token_30 (by decide) ?_
        refine ev_iadd dX10_token_31 ?_
        refine ev_put2 dX10_token_32 fl_X10_163 pk_10_43 (by decide) rfl (by decide) (by decide) rfl ?_
        refine ev_goto (tgt := 0) dX10_token_35 (by decide) ?_
        exact ih  _ q h
def f_X10_token (n : Nat) (A : Mem) : Option (Int32 × Mem) :=
  g_X10_token_0 n  n  A
set_option maxRecDepth 100000 in
set_option maxHeartbeats 4000000 in
theorem c_X10_token (n : Nat) (A : Mem) (q : Int32 × Mem) (h : f_X10_token n  A = some q) : Ct yX10_token cX10_token 1 none 1 [.ref 80] A (RV q) := by
  unfold f_X10_token at h
  refine ct_of (by decide) (Nat.le_of_ble_eq_true rfl) ?_
  show Ev cX10_token 1 RX10 none 1 none 0 [(0, .ref 80)] [] A (RV q)
  exact (l_X10_token_0 n   n)  _ q h
def g_X10_isWord_22 (n : Nat) : Nat → Int32 → Int32 → Int32 → Int32 → Mem → Option (Int32 × Mem)
  | 0, _, _, _, _, _ => none
  | m + 1, x1, x2, x3, x4, A =>
    if x3 = 0 then
      if x3 = 0 ∨ x3 = 1 then
        some (x3, A)
      else
        none
    else
      if x2 ≤ x4 then
        if x3 = 0 ∨ x3 = 1 then
          some (x3, A)
        else
          none
      else
        if ¬ ((A 80 44) + x4) < 0 ∧ ((A 80 44) + x4).toNatClampNeg < 160 then
          if (A 89 ((A 80 44) + x4).toNatClampNeg) = (((96 : Int32)) + ((x1 >>> ((((5 : Int32)) * x4) &&& 31)) &&& ((31 : Int32)))) then
            g_X10_isWord_22 n  m x1 x2 ((1 : Int32)) (x4 + 1) A
          else
            g_X10_isWord_22 n  m x1 x2 ((0 : Int32)) (x4 + 1) A
        else
          none
set_option maxRecDepth 100000 in
set_option maxHeartbeats 4000000 in
theorem l_X10_isWord_22 (n : Nat) : ∀ (m : Nat) (x1 : Int32) (x2 : Int32) (x3 : Int32) (x4 : Int32) (A : Mem) (q : Int32 × Mem), g_X10_isWord_22 n  m x1 x2 x3 x4 A = some q → Ev cX10_isWord 5 RX10 (some .boolean) 0 none 22 [(0, .ref 80), (1, .int x1), (2, .int x2), (3, .int x3), (4, .int x4)] [] A (RI q) := by
  intro m
  induction m with
  | zero => intro x1 x2 x3 x4 A q h; exact absurd h (by simp [g_X10_isWord_22])
  | succ m ih =>
    intro x1 x2 x3 x4 A q h
    rw [g_X10_isWord_22] at h
    refine ev_iload_n 3 dX10_isWord_22 rfl rfl ?_
    refine ev_if_eq (tgt := 71) dX10_isWord_23 (by decide) (fun c2 => ?_) (fun c2 => ?_)
    · have h := if_t c2 h
      refine ev_iload_n 3 dX10_isWord_71 rfl rfl ?_
      obtain ⟨c3, h⟩ := if_c h
      cases h
      exact ev_iret dX10_isWord_72 rfl (narB c3) ⟨rfl, rfl⟩
    · have h := if_f c2 h
      refine ev_iload 4 dX10_isWord_26 rfl ?_
      refine ev_iload_n 2 dX10_isWord_28 rfl rfl ?_
      refine ev_icmp_ge (tgt := 71) dX10_isWord_29 (by decide) (fun c4 => ?_) (fun c4 => ?_)
      · have h := if_t c4 h
        refine ev_iload_n 3 dX10_isWord_71 rfl rfl ?_
        obtain ⟨c5, h⟩ := if_c h
        cases h
        exact ev_iret dX10_isWord_72 rfl (narB c5) ⟨rfl, rfl⟩
      · have h := if_f c4 h
        refine ev_aload_n 0 dX10_isWord_32 rfl rfl ?_
        refine ev_getR (r := 89) dX10_isWord_33 fl_X10_35 (by decide) rfl (by decide) (by decide) rfl ?_
        refine ev_aload_n 0 dX10_isWord_36 rfl rfl ?_
        refine ev_getI dX10_isWord_37 fl_X10_166 (by decide) rfl (by decide) (by decide) rfl ?_
        refine ev_iload 4 dX10_isWord_40 rfl ?_
        refine ev_iadd dX10_isWord_42 ?_
        obtain ⟨c6, h⟩ := if_c h
        refine ev_ialdc 160 dX10_isWord_43 (by decide) rfl rfl (by decide) c6 ?_
        refine ev_bipush (v := 96) dX10_isWord_44 (by decide) ?_
        refine ev_iload_n 1 dX10_isWord_46 rfl rfl ?_
        refine ev_iconst (v := 5) dX10_isWord_47 (by decide) ?_
        refine ev_iload 4 dX10_isWord_48 rfl ?_
        refine ev_imul dX10_isWord_50 ?_
        refine ev_ishr dX10_isWord_51 ?_
        refine ev_bipush (v := 31) dX10_isWord_52 (by decide) ?_
        refine ev_iand dX10_isWord_54 ?_
        refine ev_iadd dX10_isWord_55 ?_
        refine ev_icmp_ne (tgt := 63) dX10_isWord_56 (by decide) (fun c7 => ?_) (fun c7 => ?_)
        · have h := if_f c7 h
          refine ev_iconst (v := 0) dX10_isWord_63 (by decide) ?_
          refine ev_istore_n (ls' := [(3, .int ((0 : Int32))), (0, .ref 80), (1, .int x1), (2, .int x2), (4, .int x4)]) dX10_isWord_64 rfl (by decide) rfl ?_
          refine ev_iinc (v := x4 + 1) (ls' := [(4, .int (x4 + 1)), (3, .int ((0 : Int32))), (0, .ref 80), (1, .int x1), (2, .int x2)]) 4 dX10_isWord_65 rfl rfl (by decide) rfl ?_
          refine ev_goto (tgt := 22) dX10_isWord_68 (by decide) ?_
          refine ev_pick [2, 3, 4, 1, 0] (ls' := [(0, .ref 80), (1, .int x1), (2, .int x2), (3, .int ((0 : Int32))), (4, .int (x4 + 1))]) rfl ?_
          exact ih x1 x2 ((0 : Int32)) (x4 + 1) _ q h
        · have h := if_t c7 h
          refine ev_iconst (v := 1) dX10_isWord_59 (by decide) ?_
          refine ev_goto (tgt := 64) dX10_isWord_60 (by decide) ?_
          refine ev_istore_n (ls' := [(3, .int ((1 : Int32))), (0, .ref 80), (1, .int x1), (2, .int x2), (4, .int x4)]) dX10_isWord_64 rfl (by decide) rfl ?_
          refine ev_iinc (v := x4 + 1) (ls' := [(4, .int (x4 + 1)), (3, .int ((1 : Int32))), (0, .ref 80), (1, .int x1), (2, .int x2)]) 4 dX10_isWord_65 rfl rfl (by decide) rfl ?_
          refine ev_goto (tgt := 22) dX10_isWord_68 (by decide) ?_
          refine ev_pick [2, 3, 4, 1, 0] (ls' := [(0, .ref 80), (1, .int x1), (2, .int x2), (3, .int ((1 : Int32))), (4, .int (x4 + 1))]) rfl ?_
          exact ih x1 x2 ((1 : Int32)) (x4 + 1) _ q h
def f_X10_isWord (n : Nat) (x1 : Int32) (x2 : Int32) (A : Mem) : Option (Int32 × Mem) :=
  if ((A 80 45) - (A 80 44)) = x2 then
    g_X10_isWord_22 n  n x1 x2 ((1 : Int32)) ((0 : Int32)) A
  else
    g_X10_isWord_22 n  n x1 x2 ((0 : Int32)) ((0 : Int32)) A
set_option maxRecDepth 100000 in
set_option maxHeartbeats 4000000 in
theorem c_X10_isWord (n : Nat) (x1 : Int32) (x2 : Int32) (A : Mem) (q : Int32 × Mem) (h : f_X10_isWord n x1 x2 A = some q) : Ct yX10_isWord cX10_isWord 5 (some .boolean) 0 [.ref 80, .int x1, .int x2] A (RI q) := by
  unfold f_X10_isWord at h
  refine ct_of (by decide) (Nat.le_of_ble_eq_true rfl) ?_
  show Ev cX10_isWord 5 RX10 (some .boolean) 0 none 0 [(0, .ref 80), (1, .int x1), (2, .int x2)] [] A (RI q)
  refine ev_aload_n 0 dX10_isWord_0 rfl rfl ?_
  refine ev_getI dX10_isWord_1 fl_X10_173 (by decide) rfl (by decide) (by decide) rfl ?_
  refine ev_aload_n 0 dX10_isWord_4 rfl rfl ?_
  refine ev_getI dX10_isWord_5 fl_X10_166 (by decide) rfl (by decide) (by decide) rfl ?_
  refine ev_isub dX10_isWord_8 ?_
  refine ev_iload_n 2 dX10_isWord_9 rfl rfl ?_
  refine ev_icmp_ne (tgt := 17) dX10_isWord_10 (by decide) (fun c1 => ?_) (fun c1 => ?_)
  · have h := if_f c1 h
    refine ev_iconst (v := 0) dX10_isWord_17 (by decide) ?_
    refine ev_istore_n (ls' := [(3, .int ((0 : Int32))), (0, .ref 80), (1, .int x1), (2, .int x2)]) dX10_isWord_18 rfl (by decide) rfl ?_
    refine ev_iconst (v := 0) dX10_isWord_19 (by decide) ?_
    refine ev_istore (ls' := [(4, .int ((0 : Int32))), (3, .int ((0 : Int32))), (0, .ref 80), (1, .int x1), (2, .int x2)]) dX10_isWord_20 (by decide) rfl ?_
    refine ev_pick [2, 3, 4, 1, 0] (ls' := [(0, .ref 80), (1, .int x1), (2, .int x2), (3, .int ((0 : Int32))), (4, .int ((0 : Int32)))]) rfl ?_
    exact (l_X10_isWord_22 n   n) x1 x2 ((0 : Int32)) ((0 : Int32)) _ q h
  · have h := if_t c1 h
    refine ev_iconst (v := 1) dX10_isWord_13 (by decide) ?_
    refine ev_goto (tgt := 18) dX10_isWord_14 (by decide) ?_
    refine ev_istore_n (ls' := [(3, .int ((1 : Int32))), (0, .ref 80), (1, .int x1), (2, .int x2)]) dX10_isWord_18 rfl (by decide) rfl ?_
    refine ev_iconst (v := 0) dX10_isWord_19 (by decide) ?_
    refine ev_istore (ls' := [(4, .int ((0 : Int32))), (3, .int ((1 : Int32))), (0, .ref 80), (1, .int x1), (2, .int x2)]) dX10_isWord_20 (by decide) rfl ?_
    refine ev_pick [2, 3, 4, 1, 0] (ls' := [(0, .ref 80), (1, .int x1), (2, .int x2), (3, .int ((1 : Int32))), (4, .int ((0 : Int32)))]) rfl ?_
    exact (l_X10_isWord_22 n   n) x1 x2 ((1 : Int32)) ((0 : Int32)) _ q h
def g_X10_skipsNumber_57 (n : Nat) : Nat → Int32 → Int32 → Int32 → Int32 → Mem → Option (Int32 × Mem)
  | 0, _, _, _, _, _ => none
  | m + 1, x1, x2, x3, x4, A =>
    if x3 = 0 then
      some ((0 : Int32), A)
    else
      if (A 80 45) ≤ x4 then
        (f_X10_in n ((A 80 46).toInt64) ((x1).toInt64) ((x2).toInt64) A).bind fun q9 =>
        if q9.1 = 0 then
          some ((0 : Int32), q9.2)
        else
          (f_X10_token n  q9.2).bind fun q12 =>
          some ((1 : Int32), q12.2)
      else
        if ¬ x4 < 0 ∧ (x4).toNatClampNeg < 160 then
          g_X10_skipsNumber_57 n  m x1 x2 x3 (x4 + 1) (st2 A 80 46 (((((10 : Int32)) * (A 80 46)) + (A 89 (x4).toNatClampNeg)) - ((48 : Int32))))
        else
          none
set_option maxRecDepth 100000 in
set_option maxHeartbeats 4000000 in
theorem l_X10_skipsNumber_57 (n : Nat) : ∀ (m : Nat) (x1 : Int32) (x2 : Int32) (x3 : Int32) (x4 : Int32) (A : Mem) (q : Int32 × Mem), g_X10_skipsNumber_57 n  m x1 x2 x3 x4 A = some q → Ev cX10_skipsNumber 5 RX10 (some .boolean) 2 none 57 [(0, .ref 80), (1, .int x1), (2, .int x2), (3, .int x3), (4, .int x4)] [] A (RI q) := by
  intro m
  induction m with
  | zero => intro x1 x2 x3 x4 A q h; exact absurd h (by simp [g_X10_skipsNumber_57])
  | succ m ih =>
    intro x1 x2 x3 x4 A q h
    rw [g_X10_skipsNumber_57] at h
    refine ev_iload_n 3 dX10_skipsNumber_57 rfl rfl ?_
    refine ev_if_eq (tgt := 98) dX10_skipsNumber_58 (by decide) (fun c7 => ?_) (fun c7 => ?_)
    · have h := if_t c7 h
      refine ev_iload_n 3 dX10_skipsNumber_98 rfl rfl ?_
      refine ev_if_eq (tgt := 121) dX10_skipsNumber_99 (by decide) (fun _ => ?_) (fun hh => absurd c7 hh)
      refine ev_iconst (v := 0) dX10_skipsNumber_121 (by decide) ?_
      refine ev_istore_n (ls' := [(3, .int ((0 : Int32))), (0, .ref 80), (1, .int x1), (2, .int x2), (4, .int x4)]) dX10_skipsNumber_122 rfl (by decide) rfl ?_
      refine ev_iload_n 0 dX10_skipsNumber_123 rfl rfl ?_
      refine ev_if_eq (tgt := 131) dX10_skipsNumber_124 (by decide) (fun _ => ?_) (fun hh => absurd hh (by decide))
      refine ev_iload_n 0 dX10_skipsNumber_131 rfl rfl ?_
      cases h
      exact ev_iret dX10_skipsNumber_132 rfl rfl ⟨rfl, rfl⟩
    · have h := if_f c7 h
      refine ev_iload 4 dX10_skipsNumber_61 rfl ?_
      refine ev_aload_n 0 dX10_skipsNumber_63 rfl rfl ?_
      refine ev_getI dX10_skipsNumber_64 fl_X10_173 (by decide) rfl (by decide) (by decide) rfl ?_
      refine ev_icmp_ge (tgt := 98) dX10_skipsNumber_67 (by decide) (fun c8 => ?_) (fun c8 => ?_)
      · have h := if_t c8 h
        refine ev_iload_n 3 dX10_skipsNumber_98 rfl rfl ?_
        refine ev_if_eq (tgt := 121) dX10_skipsNumber_99 (by decide) (fun hh => absurd hh c7) (fun _ => ?_)
        refine ev_aload_n 0 dX10_skipsNumber_102 rfl rfl ?_
        refine ev_getI dX10_skipsNumber_103 fl_X10_183 (by decide) rfl (by decide) (by decide) rfl ?_
        refine ev_i2l dX10_skipsNumber_106 ?_
        refine ev_iload_n 1 dX10_skipsNumber_107 rfl rfl ?_
        refine ev_i2l dX10_skipsNumber_108 ?_
        refine ev_iload_n 2 dX10_skipsNumber_109 rfl rfl ?_
        refine ev_i2l dX10_skipsNumber_110 ?_
        obtain ⟨q9, e10, h⟩ := bd_c h
        refine ev_callSi (av := [.long ((A 80 46).toInt64), .long ((x1).toInt64), .long ((x2).toInt64)]) dX10_skipsNumber_111 (c_X10_in n ((A 80 46).toInt64) ((x1).toInt64) ((x2).toInt64)  A q9 e10) mk_X10_in lk_X10_121 is_X10_in rfl (by decide) (by decide) (Nat.le_of_ble_eq_true rfl) rfl ?_
        refine ev_if_eq (tgt := 121) dX10_skipsNumber_114 (by decide) (fun c11 => ?_) (fun c11 => ?_)
        · have h := if_t c11 h
          refine ev_iconst (v := 0) dX10_skipsNumber_121 (by decide) ?_
          refine ev_istore_n (ls' := [(3, .int ((0 : Int32))), (0, .ref 80), (1, .int x1), (2, .int x2), (4, .int x4)]) dX10_skipsNumber_122 rfl (by decide) rfl ?_
          refine ev_iload_n 0 dX10_skipsNumber_123 rfl rfl ?_
          refine ev_if_eq (tgt := 131) dX10_skipsNumber_124 (by decide) (fun _ => ?_) (fun hh => absurd hh (by decide))
          refine ev_iload_n 0 dX10_skipsNumber_131 rfl rfl ?_
          cases h
          exact ev_iret dX10_skipsNumber_132 rfl rfl ⟨rfl, rfl⟩
        · have h := if_f c11 h
          refine ev_iconst (v := 1) dX10_skipsNumber_117 (by decide) ?_
          refine ev_goto (tgt := 122) dX10_skipsNumber_118 (by decide) ?_
          refine ev_istore_n (ls' := [(3, .int ((1 : Int32))), (0, .ref 80), (1, .int x1), (2, .int x2), (4, .int x4)]) dX10_skipsNumber_122 rfl (by decide) rfl ?_
          refine ev_iload_n 0 dX10_skipsNumber_123 rfl rfl ?_
          refine ev_if_eq (tgt := 131) dX10_skipsNumber_124 (by decide) (fun hh => absurd hh (by decide)) (fun _ => ?_)
          refine ev_aload_n 1 dX10_skipsNumber_127 rfl rfl ?_
          obtain ⟨q12, e13, h⟩ := bd_c h
          refine ev_callVv (av := []) dX10_skipsNumber_128 (c_X10_token n   q9.2 q12 e13) mk_X10_token lk_X10_180 iv_X10_token (Or.inl ⟨10, _, by decide, rfl, by decide, rfl, rfl⟩) rfl (by decide) (by decide) (Nat.le_of_ble_eq_true rfl) rfl ?_
          refine ev_iload_n 0 dX10_skipsNumber_131 rfl rfl ?_
          cases h
          exact ev_iret dX10_skipsNumber_132 rfl rfl ⟨rfl, rfl⟩
      · have h := if_f c8 h
        refine ev_aload_n 0 dX10_skipsNumber_70 rfl rfl ?_
        refine ev_bipush (v := 10) dX10_skipsNumber_71 (by decide) ?_
        refine ev_aload_n 0 dX10_skipsNumber_73 rfl rfl ?_
        refine ev_getI dX10_skipsNumber_74 fl_X10_183 (by decide) rfl (by decide) (by decide) rfl ?_
        refine ev_imul dX10_skipsNumber_77 ?_
        refine ev_aload_n 0 dX10_skipsNumber_78 rfl rfl ?_
        refine ev_getR (r := 89) dX10_skipsNumber_79 fl_X10_35 (by decide) rfl (by decide) (by decide) rfl ?_
        refine ev_iload 4 dX10_skipsNumber_82 rfl ?_
        obtain ⟨c14, h⟩ := if_c h
        refine ev_ialdc 160 dX10_skipsNumber_84 (by decide) rfl rfl (by decide) c14 ?_
        refine ev_iadd dX10_skipsNumber_85 ?_
        refine ev_bipush (v := 48) dX10_skipsNumber_86 (by decide) ?_
        refine ev_isub dX10_skipsNumber_88 ?_
        refine ev_put2 dX10_skipsNumber_89 fl_X10_183 pk_10_46 (by decide) rfl (by decide) (by decide) rfl ?_
        refine ev_iinc (v := x4 + 1) (ls' := [(4, .int (x4 + 1)), (0, .ref 80), (1, .int x1), (2, .int x2), (3, .int x3)]) 4 dX10_skipsNumber_92 rfl rfl (by decide) rfl ?_
        refine ev_goto (tgt := 57) dX10_skipsNumber_95 (by decide) ?_
        refine ev_pick [1, 2, 3, 4, 0] (ls' := [(0, .ref 80), (1, .int x1), (2, .int x2), (3, .int x3), (4, .int (x4 + 1))]) rfl ?_
        exact ih x1 x2 x3 (x4 + 1) _ q h
def f_X10_skipsNumber (n : Nat) (x1 : Int32) (x2 : Int32) (A : Mem) : Option (Int32 × Mem) :=
  if (A 80 10) ≤ (A 80 44) then
    g_X10_skipsNumber_57 n  n x1 x2 ((0 : Int32)) ((st2 A 80 46 ((0 : Int32))) 80 44) (st2 A 80 46 ((0 : Int32)))
  else
    if ¬ (A 80 44) < 0 ∧ (A 80 44).toNatClampNeg < 160 then
      (f_X10_sort n (A 89 (A 80 44).toNatClampNeg) A).bind fun q3 =>
      if q3.1 = ((2 : Int32)) then
        if ((2 : Int32)) < ((q3.2 80 45) - (q3.2 80 44)) then
          g_X10_skipsNumber_57 n  n x1 x2 ((0 : Int32)) ((st2 q3.2 80 46 ((0 : Int32))) 80 44) (st2 q3.2 80 46 ((0 : Int32)))
        else
          g_X10_skipsNumber_57 n  n x1 x2 ((1 : Int32)) ((st2 q3.2 80 46 ((0 : Int32))) 80 44) (st2 q3.2 80 46 ((0 : Int32)))
      else
        g_X10_skipsNumber_57 n  n x1 x2 ((0 : Int32)) ((st2 q3.2 80 46 ((0 : Int32))) 80 44) (st2 q3.2 80 46 ((0 : Int32)))
    else
      none
set_option maxRecDepth 100000 in
set_option maxHeartbeats 4000000 in
theorem c_X10_skipsNumber (n : Nat) (x1 : Int32) (x2 : Int32) (A : Mem) (q : Int32 × Mem) (h : f_X10_skipsNumber n x1 x2 A = some q) : Ct yX10_skipsNumber cX10_skipsNumber 5 (some .boolean) 2 [.ref 80, .int x1, .int x2] A (RI q) := by
  unfold f_X10_skipsNumber at h
  refine ct_of (by decide) (Nat.le_of_ble_eq_true rfl) ?_
  show Ev cX10_skipsNumber 5 RX10 (some .boolean) 2 none 0 [(0, .ref 80), (1, .int x1), (2, .int x2)] [] A (RI q)
  refine ev_aload_n 0 dX10_skipsNumber_0 rfl rfl ?_
  refine ev_getI dX10_skipsNumber_1 fl_X10_166 (by decide) rfl (by decide) (by decide) rfl ?_
  refine ev_aload_n 0 dX10_skipsNumber_4 rfl rfl ?_
  refine ev_getI dX10_skipsNumber_5 fl_X10_160 (by decide) rfl (by decide) (by decide) rfl ?_
  refine ev_icmp_ge (tgt := 44) dX10_skipsNumber_8 (by decide) (fun c1 => ?_) (fun c1 => ?_)
  · have h := if_t c1 h
    refine ev_iconst (v := 0) dX10_skipsNumber_44 (by decide) ?_
    refine ev_istore_n (ls' := [(3, .int ((0 : Int32))), (0, .ref 80), (1, .int x1), (2, .int x2)]) dX10_skipsNumber_45 rfl (by decide) rfl ?_
    refine ev_aload_n 1 dX10_skipsNumber_46 rfl rfl ?_
    refine ev_iconst (v := 0) dX10_skipsNumber_47 (by decide) ?_
    refine ev_put2 dX10_skipsNumber_48 fl_X10_183 pk_10_46 (by decide) rfl (by decide) (by decide) rfl ?_
    refine ev_aload_n 1 dX10_skipsNumber_51 rfl rfl ?_
    refine ev_getI dX10_skipsNumber_52 fl_X10_166 (by decide) rfl (by decide) (by decide) rfl ?_
    refine ev_istore (ls' := [(4, .int ((st2 A 80 46 ((0 : Int32))) 80 44)), (3, .int ((0 : Int32))), (0, .ref 80), (1, .int x1), (2, .int x2)]) dX10_skipsNumber_55 (by decide) rfl ?_
    refine ev_pick [2, 3, 4, 1, 0] (ls' := [(0, .ref 80), (1, .int x1), (2, .int x2), (3, .int ((0 : Int32))), (4, .int ((st2 A 80 46 ((0 : Int32))) 80 44))]) rfl ?_
    exact (l_X10_skipsNumber_57 n   n) x1 x2 ((0 : Int32)) ((st2 A 80 46 ((0 : Int32))) 80 44) _ q h
  · have h := if_f c1 h
    refine ev_aload_n 0 dX10_skipsNumber_11 rfl rfl ?_
    refine ev_getR (r := 89) dX10_skipsNumber_12 fl_X10_35 (by decide) rfl (by decide) (by decide) rfl ?_
    refine ev_aload_n 0 dX10_skipsNumber_15 rfl rfl ?_
    refine ev_getI dX10_skipsNumber_16 fl_X10_166 (by decide) rfl (by decide) (by decide) rfl ?_
    obtain ⟨c2, h⟩ := if_c h
    refine ev_ialdc 160 dX10_skipsNumber_19 (by decide) rfl rfl (by decide) c2 ?_
    obtain ⟨q3, e4, h⟩ := bd_c h
    refine ev_callSi (av := [.int (A 89 (A 80 44).toNatClampNeg)]) dX10_skipsNumber_20 (c_X10_sort n (A 89 (A 80 44).toNatClampNeg)  A q3 e4) mk_X10_sort lk_X10_169 is_X10_sort rfl (by decide) (by decide) (Nat.le_of_ble_eq_true rfl) rfl ?_
    refine ev_iconst (v := 2) dX10_skipsNumber_23 (by decide) ?_
    refine ev_icmp_ne (tgt := 44) dX10_skipsNumber_24 (by decide) (fun c5 => ?_) (fun c5 => ?_)
    · have h := if_f c5 h
      refine ev_iconst (v := 0) dX10_skipsNumber_44 (by decide) ?_
      refine ev_istore_n (ls' := [(3, .int ((0 : Int32))), (0, .ref 80), (1, .int x1), (2, .int x2)]) dX10_skipsNumber_45 rfl (by decide) rfl ?_
      refine ev_aload_n 1 dX10_skipsNumber_46 rfl rfl ?_
      refine ev_iconst (v := 0) dX10_skipsNumber_47 (by decide) ?_
      refine ev_put2 dX10_skipsNumber_48 fl_X10_183 pk_10_46 (by decide) rfl (by decide) (by decide) rfl ?_
      refine ev_aload_n 1 dX10_skipsNumber_51 rfl rfl ?_
      refine ev_getI dX10_skipsNumber_52 fl_X10_166 (by decide) rfl (by decide) (by decide) rfl ?_
      refine ev_istore (ls' := [(4, .int ((st2 q3.2 80 46 ((0 : Int32))) 80 44)), (3, .int ((0 : Int32))), (0, .ref 80), (1, .int x1), (2, .int x2)]) dX10_skipsNumber_55 (by decide) rfl ?_
      refine ev_pick [2, 3, 4, 1, 0] (ls' := [(0, .ref 80), (1, .int x1), (2, .int x2), (3, .int ((0 : Int32))), (4, .int ((st2 q3.2 80 46 ((0 : Int32))) 80 44))]) rfl ?_
      exact (l_X10_skipsNumber_57 n   n) x1 x2 ((0 : Int32)) ((st2 q3.2 80 46 ((0 : Int32))) 80 44) _ q h
    · have h := if_t c5 h
      refine ev_aload_n 0 dX10_skipsNumber_27 rfl rfl ?_
      refine ev_getI dX10_skipsNumber_28 fl_X10_173 (by decide) rfl (by decide) (by decide) rfl ?_
      refine ev_aload_n 0 dX10_skipsNumber_31 rfl rfl ?_
      refine ev_getI dX10_skipsNumber_32 fl_X10_166 (by decide) rfl (by decide) (by decide) rfl ?_
      refine ev_isub dX10_skipsNumber_35 ?_
      refine ev_iconst (v := 2) dX10_skipsNumber_36 (by decide) ?_
      refine ev_icmp_gt (tgt := 44) dX10_skipsNumber_37 (by decide) (fun c6 => ?_) (fun c6 => ?_)
      · have h := if_t c6 h
        refine ev_iconst (v := 0) dX10_skipsNumber_44 (by decide) ?_
        refine ev_istore_n (ls' := [(3, .int ((0 : Int32))), (0, .ref 80), (1, .int x1), (2, .int x2)]) dX10_skipsNumber_45 rfl (by decide) rfl ?_
        refine ev_aload_n 1 dX10_skipsNumber_46 rfl rfl ?_
        refine ev_iconst (v := 0) dX10_skipsNumber_47 (by decide) ?_
        refine ev_put2 dX10_skipsNumber_48 fl_X10_183 pk_10_46 (by decide) rfl (by decide) (by decide) rfl ?_
        refine ev_aload_n 1 dX10_skipsNumber_51 rfl rfl ?_
        refine ev_getI dX10_skipsNumber_52 fl_X10_166 (by decide) rfl (by decide) (by decide) rfl ?_
        refine ev_istore (ls' := [(4, .int ((st2 q3.2 80 46 ((0 : Int32))) 80 44)), (3, .int ((0 : Int32))), (0, .ref 80), (1, .int x1), (2, .int x2)]) dX10_skipsNumber_55 (by decide) rfl ?_
        refine ev_pick [2, 3, 4, 1, 0] (ls' := [(0, .ref 80), (1, .int x1), (2, .int x2), (3, .int ((0 : Int32))), (4, .int ((st2 q3.2 80 46 ((0 : Int32))) 80 44))]) rfl ?_
        exact (l_X10_skipsNumber_57 n   n) x1 x2 ((0 : Int32)) ((st2 q3.2 80 46 ((0 : Int32))) 80 44) _ q h
      · have h := if_f c6 h
        refine ev_iconst (v := 1) dX10_skipsNumber_40 (by decide) ?_
        refine ev_goto (tgt := 45) dX10_skipsNumber_41 (by decide) ?_
        refine ev_istore_n (ls' := [(3, .int ((1 : Int32))), (0, .ref 80), (1, .int x1), (2, .int x2)]) dX10_skipsNumber_45 rfl (by decide) rfl ?_
        refine ev_aload_n 1 dX10_skipsNumber_46 rfl rfl ?_
        refine ev_iconst (v := 0) dX10_skipsNumber_47 (by decide) ?_
        refine ev_put2 dX10_skipsNumber_48 fl_X10_183 pk_10_46 (by decide) rfl (by decide) (by decide) rfl ?_
        refine ev_aload_n 1 dX10_skipsNumber_51 rfl rfl ?_
        refine ev_getI dX10_skipsNumber_52 fl_X10_166 (by decide) rfl (by decide) (by decide) rfl ?_
        refine ev_istore (ls' := [(4, .int ((st2 q3.2 80 46 ((0 : Int32))) 80 44)), (3, .int ((1 : Int32))), (0, .ref 80), (1, .int x1), (2, .int x2)]) dX10_skipsNumber_55 (by decide) rfl ?_
        refine ev_pick [2, 3, 4, 1, 0] (ls' := [(0, .ref 80), (1, .int x1), (2, .int x2), (3, .int ((1 : Int32))), (4, .int ((st2 q3.2 80 46 ((0 : Int32))) 80 44))]) rfl ?_
        exact (l_X10_skipsNumber_57 n   n) x1 x2 ((1 : Int32)) ((st2 q3.2 80 46 ((0 : Int32))) 80 44) _ q h
def f_X10_readsTable (n : Nat) (A : Mem) : Option (Int32 × Mem) :=
  (f_X10_isWord n ((14982306 : Int32)) ((5 : Int32)) A).bind fun q1 =>
  if q1.1 = 0 then
    (f_X10_isWord n ((21241138 : Int32)) ((5 : Int32)) q1.2).bind fun q4 =>
    if q4.1 = 0 then
      (f_X10_isWord n ((7814743 : Int32)) ((5 : Int32)) q4.2).bind fun q7 =>
      if q7.1 = 0 then
        (f_X10_isWord n ((184364 : Int32)) ((4 : Int32)) q7.2).bind fun q10 =>
        if q10.1 = 0 then
          (f_X10_isWord n ((5612929 : Int32)) ((5 : Int32)) q10.2).bind fun q13 =>
          if q13.1 = 0 then
            (f_X10_isWord n ((136366 : Int32)) ((4 : Int32)) q13.2).bind fun q16 =>
            if q16.1 = 0 then
              some ((0 : Int32), q16.2)
            else
              (f_X10_token n  q16.2).bind fun q19 =>
              (f_X10_skipsNumber n ((0 : Int32)) ((99 : Int32)) q19.2).bind fun q21 =>
              if q21.1 = 0 then
                some ((0 : Int32), q21.2)
              else
                some ((1 : Int32), st2 (st2 q21.2 94 17 (q21.2 80 46)) 80 16 (((st2 q21.2 94 17 (q21.2 80 46)) 80 16) + ((1 : Int32))))
          else
            (f_X10_token n  q13.2).bind fun q24 =>
            (f_X10_skipsNumber n ((0 : Int32)) ((99 : Int32)) q24.2).bind fun q26 =>
            if q26.1 = 0 then
              some ((0 : Int32), q26.2)
            else
              some ((1 : Int32), st2 (st2 q26.2 94 16 (q26.2 80 46)) 80 16 (((st2 q26.2 94 16 (q26.2 80 46)) 80 16) + ((1 : Int32))))
        else
          (f_X10_token n  q10.2).bind fun q29 =>
          (f_X10_skipsNumber n ((0 : Int32)) ((99 : Int32)) q29.2).bind fun q31 =>
          if q31.1 = 0 then
            some ((0 : Int32), q31.2)
          else
            some ((1 : Int32), st2 (st2 q31.2 94 15 (q31.2 80 46)) 80 16 (((st2 q31.2 94 15 (q31.2 80 46)) 80 16) + ((1 : Int32))))
      else
        (f_X10_token n  q7.2).bind fun q34 =>
        (f_X10_skipsNumber n ((0 : Int32)) ((99 : Int32)) q34.2).bind fun q36 =>
        if q36.1 = 0 then
          some ((0 : Int32), q36.2)
        else
          some ((1 : Int32), st2 (st2 q36.2 94 14 (q36.2 80 46)) 80 16 (((st2 q36.2 94 14 (q36.2 80 46)) 80 16) + ((1 : Int32))))
    else
      (f_X10_token n  q4.2).bind fun q39 =>
      (f_X10_skipsNumber n ((0 : Int32)) ((99 : Int32)) q39.2).bind fun q41 =>
      if q41.1 = 0 then
        some ((0 : Int32), q41.2)
      else
        some ((1 : Int32), st2 (st2 q41.2 94 13 (q41.2 80 46)) 80 16 (((st2 q41.2 94 13 (q41.2 80 46)) 80 16) + ((1 : Int32))))
  else
    (f_X10_token n  q1.2).bind fun q44 =>
    (f_X10_skipsNumber n ((0 : Int32)) ((99 : Int32)) q44.2).bind fun q46 =>
    if q46.1 = 0 then
      some ((0 : Int32), q46.2)
    else
      some ((1 : Int32), st2 (st2 q46.2 94 12 (q46.2 80 46)) 80 16 (((st2 q46.2 94 12 (q46.2 80 46)) 80 16) + ((1 : Int32))))
set_option maxRecDepth 100000 in
set_option maxHeartbeats 4000000 in
theorem c_X10_readsTable (n : Nat) (A : Mem) (q : Int32 × Mem) (h : f_X10_readsTable n  A = some q) : Ct yX10_readsTable cX10_readsTable 2 (some .boolean) 3 [.ref 80] A (RI q) := by
  unfold f_X10_readsTable at h
  refine ct_of (by decide) (Nat.le_of_ble_eq_true rfl) ?_
  show Ev cX10_readsTable 2 RX10 (some .boolean) 3 none 0 [(0, .ref 80)] [] A (RI q)
  refine ev_aload_n 0 dX10_readsTable_0 rfl rfl ?_
  refine ev_ldc dX10_readsTable_1 kc_X10_196 ?_
  refine ev_iconst (v := 5) dX10_readsTable_3 (by decide) ?_
  obtain ⟨q1, e2, h⟩ := bd_c h
  refine ev_callVi (av := [.int ((14982306 : Int32)), .int ((5 : Int32))]) dX10_readsTable_4 (c_X10_isWord n ((14982306 : Int32)) ((5 : Int32))  A q1 e2) mk_X10_isWord lk_X10_176 iv_X10_isWord (Or.inl ⟨10, _, by decide, rfl, by decide, rfl, rfl⟩) rfl (by decide) (by decide) (Nat.le_of_ble_eq_true rfl) rfl ?_
  refine ev_if_eq (tgt := 14) dX10_readsTable_7 (by decide) (fun c3 => ?_) (fun c3 => ?_)
  · have h := if_t c3 h
    refine ev_aload_n 0 dX10_readsTable_14 rfl rfl ?_
    refine ev_ldc dX10_readsTable_15 kc_X10_197 ?_
    refine ev_iconst (v := 5) dX10_readsTable_17 (by decide) ?_
    obtain ⟨q4, e5, h⟩ := bd_c h
    refine ev_callVi (av := [.int ((21241138 : Int32)), .int ((5 : Int32))]) dX10_readsTable_18 (c_X10_isWord n ((21241138 : Int32)) ((5 : Int32))  q1.2 q4 e5) mk_X10_isWord lk_X10_176 iv_X10_isWord (Or.inl ⟨10, _, by decide, rfl, by decide, rfl, rfl⟩) rfl (by decide) (by decide) (Nat.le_of_ble_eq_true rfl) rfl ?_
    refine ev_if_eq (tgt := 28) dX10_readsTable_21 (by decide) (fun c6 => ?_) (fun c6 => ?_)
    · have h := if_t c6 h
      refine ev_aload_n 0 dX10_readsTable_28 rfl rfl ?_
      refine ev_ldc dX10_readsTable_29 kc_X10_198 ?_
      refine ev_iconst (v := 5) dX10_readsTable_31 (by decide) ?_
      obtain ⟨q7, e8, h⟩ := bd_c h
      refine ev_callVi (av := [.int ((7814743 : Int32)), .int ((5 : Int32))]) dX10_readsTable_32 (c_X10_isWord n ((7814743 : Int32)) ((5 : Int32))  q4.2 q7 e8) mk_X10_isWord lk_X10_176 iv_X10_isWord (Or.inl ⟨10, _, by decide, rfl, by decide, rfl, rfl⟩) rfl (by decide) (by decide) (Nat.le_of_ble_eq_true rfl) rfl ?_
      refine ev_if_eq (tgt := 42) dX10_readsTable_35 (by decide) (fun c9 => ?_) (fun c9 => ?_)
      · have h := if_t c9 h
        refine ev_aload_n 0 dX10_readsTable_42 rfl rfl ?_
        refine ev_ldc dX10_readsTable_43 kc_X10_199 ?_
        refine ev_iconst (v := 4) dX10_readsTable_45 (by decide) ?_
        obtain ⟨q10, e11, h⟩ := bd_c h
        refine ev_callVi (av := [.int ((184364 : Int32)), .int ((4 : Int32))]) dX10_readsTable_46 (c_X10_isWord n ((184364 : Int32)) ((4 : Int32))  q7.2 q10 e11) mk_X10_isWord lk_X10_176 iv_X10_isWord (Or.inl ⟨10, _, by decide, rfl, by decide, rfl, rfl⟩) rfl (by decide) (by decide) (Nat.le_of_ble_eq_true rfl) rfl ?_
        refine ev_if_eq (tgt := 56) dX10_readsTable_49 (by decide) (fun c12 => ?_) (fun c12 => ?_)
        · have h := if_t c12 h
          refine ev_aload_n 0 dX10_readsTable_56 rfl rfl ?_
          refine ev_ldc dX10_readsTable_57 kc_X10_200 ?_
          refine ev_iconst (v := 5) dX10_readsTable_59 (by decide) ?_
          obtain ⟨q13, e14, h⟩ := bd_c h
          refine ev_callVi (av := [.int ((5612929 : Int32)), .int ((5 : Int32))]) dX10_readsTable_60 (c_X10_isWord n ((5612929 : Int32)) ((5 : Int32))  q10.2 q13 e14) mk_X10_isWord lk_X10_176 iv_X10_isWord (Or.inl ⟨10, _, by decide, rfl, by decide, rfl, rfl⟩) rfl (by decide) (by decide) (Nat.le_of_ble_eq_true rfl) rfl ?_
          refine ev_if_eq (tgt := 70) dX10_readsTable_63 (by decide) (fun c15 => ?_) (fun c15 => ?_)
          · have h := if_t c15 h
            refine ev_aload_n 0 dX10_readsTable_70 rfl rfl ?_
            refine ev_ldc dX10_readsTable_71 kc_X10_201 ?_
            refine ev_iconst (v := 4) dX10_readsTable_73 (by decide) ?_
            obtain ⟨q16, e17, h⟩ := bd_c h
            refine ev_callVi (av := [.int ((136366 : Int32)), .int ((4 : Int32))]) dX10_readsTable_74 (c_X10_isWord n ((136366 : Int32)) ((4 : Int32))  q13.2 q16 e17) mk_X10_isWord lk_X10_176 iv_X10_isWord (Or.inl ⟨10, _, by decide, rfl, by decide, rfl, rfl⟩) rfl (by decide) (by decide) (Nat.le_of_ble_eq_true rfl) rfl ?_
            refine ev_if_eq (tgt := 84) dX10_readsTable_77 (by decide) (fun c18 => ?_) (fun c18 => ?_)
            · have h := if_t c18 h
              refine ev_iconst (v := -1) dX10_readsTable_84 (by decide) ?_
              refine ev_istore_n (ls' := [(1, .int ((-1 : Int32))), (0, .ref 80)]) dX10_readsTable_85 rfl (by decide) rfl ?_
              refine ev_iload_n 0 dX10_readsTable_86 rfl rfl ?_
              refine ev_iconst (v := -1) dX10_readsTable_87 (by decide) ?_
              refine ev_icmp_ne (tgt := 93) dX10_readsTable_88 (by decide) (fun hh => absurd hh (by decide)) (fun _ => ?_)
              refine ev_iconst (v := 0) dX10_readsTable_91 (by decide) ?_
              cases h
              exact ev_iret dX10_readsTable_92 rfl rfl ⟨rfl, rfl⟩
            · have h := if_f c18 h
              refine ev_iconst (v := 5) dX10_readsTable_80 (by decide) ?_
              refine ev_goto (tgt := 85) dX10_readsTable_81 (by decide) ?_
              refine ev_istore_n (ls' := [(1, .int ((5 : Int32))), (0, .ref 80)]) dX10_readsTable_85 rfl (by decide) rfl ?_
              refine ev_iload_n 0 dX10_readsTable_86 rfl rfl ?_
              refine ev_iconst (v := -1) dX10_readsTable_87 (by decide) ?_
              refine ev_icmp_ne (tgt := 93) dX10_readsTable_88 (by decide) (fun _ => ?_) (fun hh => absurd hh (by decide))
              refine ev_aload_n 1 dX10_readsTable_93 rfl rfl ?_
              obtain ⟨q19, e20, h⟩ := bd_c h
              refine ev_callVv (av := []) dX10_readsTable_94 (c_X10_token n   q16.2 q19 e20) mk_X10_token lk_X10_180 iv_X10_token (Or.inl ⟨10, _, by decide, rfl, by decide, rfl, rfl⟩) rfl (by decide) (by decide) (Nat.le_of_ble_eq_true rfl) rfl ?_
              refine ev_aload_n 1 dX10_readsTable_97 rfl rfl ?_
              refine ev_iconst (v := 0) dX10_readsTable_98 (by decide) ?_
              refine ev_bipush (v := 99) dX10_readsTable_99 (by decide) ?_
              obtain ⟨q21, e22, h⟩ := bd_c h
              refine ev_callVi (av := [.int ((0 : Int32)), .int ((99 : Int32))]) dX10_readsTable_101 (c_X10_skipsNumber n ((0 : Int32)) ((99 : Int32))  q19.2 q21 e22) mk_X10_skipsNumber lk_X10_192 iv_X10_skipsNumber (Or.inl ⟨10, _, by decide, rfl, by decide, rfl, rfl⟩) rfl (by decide) (by decide) (Nat.le_of_ble_eq_true rfl) rfl ?_
              refine ev_if_ne (tgt := 109) dX10_readsTable_104 (by decide) (fun c23 => ?_) (fun c23 => ?_)
              · have h := if_f c23 h
                refine ev_aload_n 1 dX10_readsTable_109 rfl rfl ?_
                refine ev_getR (r := 94) dX10_readsTable_110 fl_X10_50 (by decide) rfl (by decide) (by decide) rfl ?_
                refine ev_bipush (v := 12) dX10_readsTable_113 (by decide) ?_
                refine ev_iload_n 0 dX10_readsTable_115 rfl rfl ?_
                refine ev_iadd dX10_readsTable_116 ?_
                refine ev_aload_n 1 dX10_readsTable_117 rfl rfl ?_
                refine ev_getI dX10_readsTable_118 fl_X10_183 (by decide) rfl (by decide) (by decide) rfl ?_
                refine ev_iastl 18 17 dX10_readsTable_121 (by decide) rfl rfl (by decide) rfl (by decide) ?_
                refine ev_aload_n 1 dX10_readsTable_122 rfl rfl ?_
                refine ev_dup dX10_readsTable_123 rfl ?_
                refine ev_getI dX10_readsTable_124 fl_X10_186 (by decide) rfl (by decide) (by decide) rfl ?_
                refine ev_iconst (v := 1) dX10_readsTable_127 (by decide) ?_
                refine ev_iadd dX10_readsTable_128 ?_
                refine ev_put2 dX10_readsTable_129 fl_X10_186 pk_10_16 (by decide) rfl (by decide) (by decide) rfl ?_
                refine ev_iconst (v := 1) dX10_readsTable_132 (by decide) ?_
                cases h
                exact ev_iret dX10_readsTable_133 rfl rfl ⟨rfl, rfl⟩
              · have h := if_t c23 h
                refine ev_iconst (v := 0) dX10_readsTable_107 (by decide) ?_
                cases h
                exact ev_iret dX10_readsTable_108 rfl rfl ⟨rfl, rfl⟩
          · have h := if_f c15 h
            refine ev_iconst (v := 4) dX10_readsTable_66 (by decide) ?_
            refine ev_goto (tgt := 85) dX10_readsTable_67 (by decide) ?_
            refine ev_istore_n (ls' := [(1, .int ((4 : Int32))), (0, .ref 80)]) dX10_readsTable_85 rfl (by decide) rfl ?_
            refine ev_iload_n 0 dX10_readsTable_86 rfl rfl ?_
            refine ev_iconst (v := -1) dX10_readsTable_87 (by decide) ?_
            refine ev_icmp_ne (tgt := 93) dX10_readsTable_88 (by decide) (fun _ => ?_) (fun hh => absurd hh (by decide))
            refine ev_aload_n 1 dX10_readsTable_93 rfl rfl ?_
            obtain ⟨q24, e25, h⟩ := bd_c h
            refine ev_callVv (av := []) dX10_readsTable_94 (c_X10_token n   q13.2 q24 e25) mk_X10_token lk_X10_180 iv_X10_token (Or.inl ⟨10, _, by decide, rfl, by decide, rfl, rfl⟩) rfl (by decide) (by decide) (Nat.le_of_ble_eq_true rfl) rfl ?_
            refine ev_aload_n 1 dX10_readsTable_97 rfl rfl ?_
            refine ev_iconst (v := 0) dX10_readsTable_98 (by decide) ?_
            refine ev_bipush (v := 99) dX10_readsTable_99 (by decide) ?_
            obtain ⟨q26, e27, h⟩ := bd_c h
            refine ev_callVi (av := [.int ((0 : Int32)), .int ((99 : Int32))]) dX10_readsTable_101 (c_X10_skipsNumber n ((0 : Int32)) ((99 : Int32))  q24.2 q26 e27) mk_X10_skipsNumber lk_X10_192 iv_X10_skipsNumber (Or.inl ⟨10, _, by decide, rfl, by decide, rfl, rfl⟩) rfl (by decide) (by decide) (Nat.le_of_ble_eq_true rfl) rfl ?_
            refine ev_if_ne (tgt := 109) dX10_readsTable_104 (by decide) (fun c28 => ?_) (fun c28 => ?_)
            · have h := if_f c28 h
              refine ev_aload_n 1 dX10_readsTable_109 rfl rfl ?_
              refine ev_getR (r := 94) dX10_readsTable_110 fl_X10_50 (by decide) rfl (by decide) (by decide) rfl ?_
              refine ev_bipush (v := 12) dX10_readsTable_113 (by decide) ?_
              refine ev_iload_n 0 dX10_readsTable_115 rfl rfl ?_
              refine ev_iadd dX10_readsTable_116 ?_
              refine ev_aload_n 1 dX10_readsTable_117 rfl rfl ?_
              refine ev_getI dX10_readsTable_118 fl_X10_183 (by decide) rfl (by decide) (by decide) rfl ?_
              refine ev_iastl 18 16 dX10_readsTable_121 (by decide) rfl rfl (by decide) rfl (by decide) ?_
              refine ev_aload_n 1 dX10_readsTable_122 rfl rfl ?_
              refine ev_dup dX10_readsTable_123 rfl ?_
              refine ev_getI dX10_readsTable_124 fl_X10_186 (by decide) rfl (by decide) (by decide) rfl ?_
              refine ev_iconst (v := 1) dX10_readsTable_127 (by decide) ?_
              refine ev_iadd dX10_readsTable_128 ?_
              refine ev_put2 dX10_readsTable_129 fl_X10_186 pk_10_16 (by decide) rfl (by decide) (by decide) rfl ?_
              refine ev_iconst (v := 1) dX10_readsTable_132 (by decide) ?_
              cases h
              exact ev_iret dX10_readsTable_133 rfl rfl ⟨rfl, rfl⟩
            · have h := if_t c28 h
              refine ev_iconst (v := 0) dX10_readsTable_107 (by decide) ?_
              cases h
              exact ev_iret dX10_readsTable_108 rfl rfl ⟨rfl, rfl⟩
        · have h := if_f c12 h
          refine ev_iconst (v := 3) dX10_readsTable_52 (by decide) ?_
          refine ev_goto (tgt := 85) dX10_readsTable_53 (by decide) ?_
          refine ev_istore_n (ls' := [(1, .int ((3 : Int32))), (0, .ref 80)]) dX10_readsTable_85 rfl (by decide) rfl ?_
          refine ev_iload_n 0 dX10_readsTable_86 rfl rfl ?_
          refine ev_iconst (v := -1) dX10_readsTable_87 (by decide) ?_
          refine ev_icmp_ne (tgt := 93) dX10_readsTable_88 (by decide) (fun _ => ?_) (fun hh => absurd hh (by decide))
          refine ev_aload_n 1 dX10_readsTable_93 rfl rfl ?_
          obtain ⟨q29, e30, h⟩ := bd_c h
          refine ev_callVv (av := []) dX10_readsTable_94 (c_X10_token n   q10.2 q29 e30) mk_X10_token lk_X10_180 iv_X10_token (Or.inl ⟨10, _, by decide, rfl, by decide, rfl, rfl⟩) rfl (by decide) (by decide) (Nat.le_of_ble_eq_true rfl) rfl ?_
          refine ev_aload_n 1 dX10_readsTable_97 rfl rfl ?_
          refine ev_iconst (v := 0) dX10_readsTable_98 (by decide) ?_
          refine ev_bipush (v := 99) dX10_readsTable_99 (by decide) ?_
          obtain ⟨q31, e32, h⟩ := bd_c h
          refine ev_callVi (av := [.int ((0 : Int32)), .int ((99 : Int32))]) dX10_readsTable_101 (c_X10_skipsNumber n ((0 : Int32)) ((99 : Int32))  q29.2 q31 e32) mk_X10_skipsNumber lk_X10_192 iv_X10_skipsNumber (Or.inl ⟨10, _, by decide, rfl, by decide, rfl, rfl⟩) rfl (by decide) (by decide) (Nat.le_of_ble_eq_true rfl) rfl ?_
          refine ev_if_ne (tgt := 109) dX10_readsTable_104 (by decide) (fun c33 => ?_) (fun c33 => ?_)
          · have h := if_f c33 h
            refine ev_aload_n 1 dX10_readsTable_109 rfl rfl ?_
            refine ev_getR (r := 94) dX10_readsTable_110 fl_X10_50 (by decide) rfl (by decide) (by decide) rfl ?_
            refine ev_bipush (v := 12) dX10_readsTable_113 (by decide) ?_
            refine ev_iload_n 0 dX10_readsTable_115 rfl rfl ?_
            refine ev_iadd dX10_readsTable_116 ?_
            refine ev_aload_n 1 dX10_readsTable_117 rfl rfl ?_
            refine ev_getI dX10_readsTable_118 fl_X10_183 (by decide) rfl (by decide) (by decide) rfl ?_
            refine ev_iastl 18 15 dX10_readsTable_121 (by decide) rfl rfl (by decide) rfl (by decide) ?_
            refine ev_aload_n 1 dX10_readsTable_122 rfl rfl ?_
            refine ev_dup dX10_readsTable_123 rfl ?_
            refine ev_getI dX10_readsTable_124 fl_X10_186 (by decide) rfl (by decide) (by decide) rfl ?_
            refine ev_iconst (v := 1) dX10_readsTable_127 (by decide) ?_
            refine ev_iadd dX10_readsTable_128 ?_
            refine ev_put2 dX10_readsTable_129 fl_X10_186 pk_10_16 (by decide) rfl (by decide) (by decide) rfl ?_
            refine ev_iconst (v := 1) dX10_readsTable_132 (by decide) ?_
            cases h
            exact ev_iret dX10_readsTable_133 rfl rfl ⟨rfl, rfl⟩
          · have h := if_t c33 h
            refine ev_iconst (v := 0) dX10_readsTable_107 (by decide) ?_
            cases h
            exact ev_iret dX10_readsTable_108 rfl rfl ⟨rfl, rfl⟩
      · have h := if_f c9 h
        refine ev_iconst (v := 2) dX10_readsTable_38 (by decide) ?_
        refine ev_goto (tgt := 85) dX10_readsTable_39 (by decide) ?_
        refine ev_istore_n (ls' := [(1, .int ((2 : Int32))), (0, .ref 80)]) dX10_readsTable_85 rfl (by decide) rfl ?_
        refine ev_iload_n 0 dX10_readsTable_86 rfl rfl ?_
        refine ev_iconst (v := -1) dX10_readsTable_87 (by decide) ?_
        refine ev_icmp_ne (tgt := 93) dX10_readsTable_88 (by decide) (fun _ => ?_) (fun hh => absurd hh (by decide))
        refine ev_aload_n 1 dX10_readsTable_93 rfl rfl ?_
        obtain ⟨q34, e35, h⟩ := bd_c h
        refine ev_callVv (av := []) dX10_readsTable_94 (c_X10_token n   q7.2 q34 e35) mk_X10_token lk_X10_180 iv_X10_token (Or.inl ⟨10, _, by decide, rfl, by decide, rfl, rfl⟩) rfl (by decide) (by decide) (Nat.le_of_ble_eq_true rfl) rfl ?_
        refine ev_aload_n 1 dX10_readsTable_97 rfl rfl ?_
        refine ev_iconst (v := 0) dX10_readsTable_98 (by decide) ?_
        refine ev_bipush (v := 99) dX10_readsTable_99 (by decide) ?_
        obtain ⟨q36, e37, h⟩ := bd_c h
        refine ev_callVi (av := [.int ((0 : Int32)), .int ((99 : Int32))]) dX10_readsTable_101 (c_X10_skipsNumber n ((0 : Int32)) ((99 : Int32))  q34.2 q36 e37) mk_X10_skipsNumber lk_X10_192 iv_X10_skipsNumber (Or.inl ⟨10, _, by decide, rfl, by decide, rfl, rfl⟩) rfl (by decide) (by decide) (Nat.le_of_ble_eq_true rfl) rfl ?_
        refine ev_if_ne (tgt := 109) dX10_readsTable_104 (by decide) (fun c38 => ?_) (fun c38 => ?_)
        · have h := if_f c38 h
          refine ev_aload_n 1 dX10_readsTable_109 rfl rfl ?_
          refine ev_getR (r := 94) dX10_readsTable_110 fl_X10_50 (by decide) rfl (by decide) (by decide) rfl ?_
          refine ev_bipush (v := 12) dX10_readsTable_113 (by decide) ?_
          refine ev_iload_n 0 dX10_readsTable_115 rfl rfl ?_
          refine ev_iadd dX10_readsTable_116 ?_
          refine ev_aload_n 1 dX10_readsTable_117 rfl rfl ?_
          refine ev_getI dX10_readsTable_118 fl_X10_183 (by decide) rfl (by decide) (by decide) rfl ?_
          refine ev_iastl 18 14 dX10_readsTable_121 (by decide) rfl rfl (by decide) rfl (by decide) ?_
          refine ev_aload_n 1 dX10_readsTable_122 rfl rfl ?_
          refine ev_dup dX10_readsTable_123 rfl ?_
          refine ev_getI dX10_readsTable_124 fl_X10_186 (by decide) rfl (by decide) (by decide) rfl ?_
          refine ev_iconst (v := 1) dX10_readsTable_127 (by decide) ?_
          refine ev_iadd dX10_readsTable_128 ?_
          refine ev_put2 dX10_readsTable_129 fl_X10_186 pk_10_16 (by decide) rfl (by decide) (by decide) rfl ?_
          refine ev_iconst (v := 1) dX10_readsTable_132 (by decide) ?_
          cases h
          exact ev_iret dX10_readsTable_133 rfl rfl ⟨rfl, rfl⟩
        · have h := if_t c38 h
          refine ev_iconst (v := 0) dX10_readsTable_107 (by decide) ?_
          cases h
          exact ev_iret dX10_readsTable_108 rfl rfl ⟨rfl, rfl⟩
    · have h := if_f c6 h
      refine ev_iconst (v := 1) dX10_readsTable_24 (by decide) ?_
      refine ev_goto (tgt := 85) dX10_readsTable_25 (by decide) ?_
      refine ev_istore_n (ls' := [(1, .int ((1 : Int32))), (0, .ref 80)]) dX10_readsTable_85 rfl (by decide) rfl ?_
      refine ev_iload_n 0 dX10_readsTable_86 rfl rfl ?_
      refine ev_iconst (v := -1) dX10_readsTable_87 (by decide) ?_
      refine ev_icmp_ne (tgt := 93) dX10_readsTable_88 (by decide) (fun _ => ?_) (fun hh => absurd hh (by decide))
      refine ev_aload_n 1 dX10_readsTable_93 rfl rfl ?_
      obtain ⟨q39, e40, h⟩ := bd_c h
      refine ev_callVv (av := []) dX10_readsTable_94 (c_X10_token n   q4.2 q39 e40) mk_X10_token lk_X10_180 iv_X10_token (Or.inl ⟨10, _, by decide, rfl, by decide, rfl, rfl⟩) rfl (by decide) (by decide) (Nat.le_of_ble_eq_true rfl) rfl ?_
      refine ev_aload_n 1 dX10_readsTable_97 rfl rfl ?_
      refine ev_iconst (v := 0) dX10_readsTable_98 (by decide) ?_
      refine ev_bipush (v := 99) dX10_readsTable_99 (by decide) ?_
      obtain ⟨q41, e42, h⟩ := bd_c h
      refine ev_callVi (av := [.int ((0 : Int32)), .int ((99 : Int32))]) dX10_readsTable_101 (c_X10_skipsNumber n ((0 : Int32)) ((99 : Int32))  q39.2 q41 e42) mk_X10_skipsNumber lk_X10_192 iv_X10_skipsNumber (Or.inl ⟨10, _, by decide, rfl, by decide, rfl, rfl⟩) rfl (by decide) (by decide) (Nat.le_of_ble_eq_true rfl) rfl ?_
      refine ev_if_ne (tgt := 109) dX10_readsTable_104 (by decide) (fun c43 => ?_) (fun c43 => ?_)
      · have h := if_f c43 h
        refine ev_aload_n 1 dX10_readsTable_109 rfl rfl ?_
        refine ev_getR (r := 94) dX10_readsTable_110 fl_X10_50 (by decide) rfl (by decide) (by decide) rfl ?_
        refine ev_bipush (v := 12) dX10_readsTable_113 (by decide) ?_
        refine ev_iload_n 0 dX10_readsTable_115 rfl rfl ?_
        refine ev_iadd dX10_readsTable_116 ?_
        refine ev_aload_n 1 dX10_readsTable_117 rfl rfl ?_
        refine ev_getI dX10_readsTable_118 fl_X10_183 (by decide) rfl (by decide) (by decide) rfl ?_
        refine ev_iastl 18 13 dX10_readsTable_121 (by decide) rfl rfl (by decide) rfl (by decide) ?_
        refine ev_aload_n 1 dX10_readsTable_122 rfl rfl ?_
        refine ev_dup dX10_readsTable_123 rfl ?_
        refine ev_getI dX10_readsTable_124 fl_X10_186 (by decide) rfl (by decide) (by decide) rfl ?_
        refine ev_iconst (v := 1) dX10_readsTable_127 (by decide) ?_
        refine ev_iadd dX10_readsTable_128 ?_
        refine ev_put2 dX10_readsTable_129 fl_X10_186 pk_10_16 (by decide) rfl (by decide) (by decide) rfl ?_
        refine ev_iconst (v := 1) dX10_readsTable_132 (by decide) ?_
        cases h
        exact ev_iret dX10_readsTable_133 rfl rfl ⟨rfl, rfl⟩
      · have h := if_t c43 h
        refine ev_iconst (v := 0) dX10_readsTable_107 (by decide) ?_
        cases h
        exact ev_iret dX10_readsTable_108 rfl rfl ⟨rfl, rfl⟩
  · have h := if_f c3 h
    refine ev_iconst (v := 0) dX10_readsTable_10 (by decide) ?_
    refine ev_goto (tgt := 85) dX10_readsTable_11 (by decide) ?_
    refine ev_istore_n (ls' := [(1, .int ((0 : Int32))), (0, .ref 80)]) dX10_readsTable_85 rfl (by decide) rfl ?_
    refine ev_iload_n 0 dX10_readsTable_86 rfl rfl ?_
    refine ev_iconst (v := -1) dX10_readsTable_87 (by decide) ?_
    refine ev_icmp_ne (tgt := 93) dX10_readsTable_88 (by decide) (fun _ => ?_) (fun hh => absurd hh (by decide))
    refine ev_aload_n 1 dX10_readsTable_93 rfl rfl ?_
    obtain ⟨q44, e45, h⟩ := bd_c h
    refine ev_callVv (av := []) dX10_readsTable_94 (c_X10_token n   q1.2 q44 e45) mk_X10_token lk_X10_180 iv_X10_token (Or.inl ⟨10, _, by decide, rfl, by decide, rfl, rfl⟩) rfl (by decide) (by decide) (Nat.le_of_ble_eq_true rfl) rfl ?_
    refine ev_aload_n 1 dX10_readsTable_97 rfl rfl ?_
    refine ev_iconst (v := 0) dX10_readsTable_98 (by decide) ?_
    refine ev_bipush (v := 99) dX10_readsTable_99 (by decide) ?_
    obtain ⟨q46, e47, h⟩ := bd_c h
    refine ev_callVi (av := [.int ((0 : Int32)), .int ((99 : Int32))]) dX10_readsTable_101 (c_X10_skipsNumber n ((0 : Int32)) ((99 : Int32))  q44.2 q46 e47) mk_X10_skipsNumber lk_X10_192 iv_X10_skipsNumber (Or.inl ⟨10, _, by decide, rfl, by decide, rfl, rfl⟩) rfl (by decide) (by decide) (Nat.le_of_ble_eq_true rfl) rfl ?_
    refine ev_if_ne (tgt := 109) dX10_readsTable_104 (by decide) (fun c48 => ?_) (fun c48 => ?_)
    · have h := if_f c48 h
      refine ev_aload_n 1 dX10_readsTable_109 rfl rfl ?_
      refine ev_getR (r := 94) dX10_readsTable_110 fl_X10_50 (by decide) rfl (by decide) (by decide) rfl ?_
      refine ev_bipush (v := 12) dX10_readsTable_113 (by decide) ?_
      refine ev_iload_n 0 dX10_readsTable_115 rfl rfl ?_
      refine ev_iadd dX10_readsTable_116 ?_
      refine ev_aload_n 1 dX10_readsTable_117 rfl rfl ?_
      refine ev_getI dX10_readsTable_118 fl_X10_183 (by decide) rfl (by decide) (by decide) rfl ?_
      refine ev_iastl 18 12 dX10_readsTable_121 (by decide) rfl rfl (by decide) rfl (by decide) ?_
      refine ev_aload_n 1 dX10_readsTable_122 rfl rfl ?_
      refine ev_dup dX10_readsTable_123 rfl ?_
      refine ev_getI dX10_readsTable_124 fl_X10_186 (by decide) rfl (by decide) (by decide) rfl ?_
      refine ev_iconst (v := 1) dX10_readsTable_127 (by decide) ?_
      refine ev_iadd dX10_readsTable_128 ?_
      refine ev_put2 dX10_readsTable_129 fl_X10_186 pk_10_16 (by decide) rfl (by decide) (by decide) rfl ?_
      refine ev_iconst (v := 1) dX10_readsTable_132 (by decide) ?_
      cases h
      exact ev_iret dX10_readsTable_133 rfl rfl ⟨rfl, rfl⟩
    · have h := if_t c48 h
      refine ev_iconst (v := 0) dX10_readsTable_107 (by decide) ?_
      cases h
      exact ev_iret dX10_readsTable_108 rfl rfl ⟨rfl, rfl⟩
def f_X10_skips (n : Nat) (x1 : Int32) (x2 : Int32) (A : Mem) : Option (Int32 × Mem) :=
  (f_X10_isWord n x1 x2 A).bind fun q1 =>
  if q1.1 = 0 then
    if q1.1 = 0 ∨ q1.1 = 1 then
      some (q1.1, q1.2)
    else
      none
  else
    (f_X10_token n  q1.2).bind fun q5 =>
    if q1.1 = 0 ∨ q1.1 = 1 then
      some (q1.1, q5.2)
    else
      none
set_option maxRecDepth 100000 in
set_option maxHeartbeats 4000000 in
theorem c_X10_skips (n : Nat) (x1 : Int32) (x2 : Int32) (A : Mem) (q : Int32 × Mem) (h : f_X10_skips n x1 x2 A = some q) : Ct yX10_skips cX10_skips 4 (some .boolean) 2 [.ref 80, .int x1, .int x2] A (RI q) := by
  unfold f_X10_skips at h
  refine ct_of (by decide) (Nat.le_of_ble_eq_true rfl) ?_
  show Ev cX10_skips 4 RX10 (some .boolean) 2 none 0 [(0, .ref 80), (1, .int x1), (2, .int x2)] [] A (RI q)
  refine ev_aload_n 0 dX10_skips_0 rfl rfl ?_
  refine ev_iload_n 1 dX10_skips_1 rfl rfl ?_
  refine ev_iload_n 2 dX10_skips_2 rfl rfl ?_
  obtain ⟨q1, e2, h⟩ := bd_c h
  refine ev_callVi (av := [.int x1, .int x2]) dX10_skips_3 (c_X10_isWord n x1 x2  A q1 e2) mk_X10_isWord lk_X10_176 iv_X10_isWord (Or.inl ⟨10, _, by decide, rfl, by decide, rfl, rfl⟩) rfl (by decide) (by decide) (Nat.le_of_ble_eq_true rfl) rfl ?_
  refine ev_istore_n (ls' := [(3, .int q1.1), (0, .ref 80), (1, .int x1), (2, .int x2)]) dX10_skips_6 rfl (by decide) rfl ?_
  refine ev_iload_n 0 dX10_skips_7 rfl rfl ?_
  refine ev_if_eq (tgt := 15) dX10_skips_8 (by decide) (fun c3 => ?_) (fun c3 => ?_)
  · have h := if_t c3 h
    refine ev_iload_n 0 dX10_skips_15 rfl rfl ?_
    obtain ⟨c4, h⟩ := if_c h
    cases h
    exact ev_iret dX10_skips_16 rfl (narB c4) ⟨rfl, rfl⟩
  · have h := if_f c3 h
    refine ev_aload_n 1 dX10_skips_11 rfl rfl ?_
    obtain ⟨q5, e6, h⟩ := bd_c h
    refine ev_callVv (av := []) dX10_skips_12 (c_X10_token n   q1.2 q5 e6) mk_X10_token lk_X10_180 iv_X10_token (Or.inl ⟨10, _, by decide, rfl, by decide, rfl, rfl⟩) rfl (by decide) (by decide) (Nat.le_of_ble_eq_true rfl) rfl ?_
    refine ev_iload_n 0 dX10_skips_15 rfl rfl ?_
    obtain ⟨c7, h⟩ := if_c h
    cases h
    exact ev_iret dX10_skips_16 rfl (narB c7) ⟨rfl, rfl⟩
def f_X10_readsLife (n : Nat) (A : Mem) : Option (Int32 × Mem) :=
  (f_X10_skips n ((641 : Int32)) ((2 : Int32)) A).bind fun q1 =>
  if q1.1 = 0 then
    some ((0 : Int32), q1.2)
  else
    (f_X10_skipsNumber n ((0 : Int32)) ((7 : Int32)) q1.2).bind fun q4 =>
    if q4.1 = 0 then
      some ((0 : Int32), q4.2)
    else
      if ¬ (((48 : Int32)) + (A 80 16)) < 0 ∧ (((48 : Int32)) + (A 80 16)).toNatClampNeg < 56 then
        (f_X10_skips n ((441926 : Int32)) ((4 : Int32)) (st2 q4.2 91 (((48 : Int32)) + (A 80 16)).toNatClampNeg (q4.2 80 46))).bind fun q8 =>
        if q8.1 = 0 then
          some ((0 : Int32), q8.2)
        else
          (f_X10_skipsNumber n ((0 : Int32)) ((60 : Int32)) q8.2).bind fun q11 =>
          if q11.1 = 0 then
            some ((0 : Int32), q11.2)
          else
            (f_X10_skips n ((500 : Int32)) ((2 : Int32)) (st2 q11.2 92 (((48 : Int32)) + (A 80 16)).toNatClampNeg (q11.2 80 46))).bind fun q14 =>
            if q14.1 = 0 then
              some ((0 : Int32), q14.2)
            else
              (f_X10_skipsNumber n (q14.2 92 (((48 : Int32)) + (A 80 16)).toNatClampNeg) ((60 : Int32)) q14.2).bind fun q17 =>
              if q17.1 = 0 then
                some ((0 : Int32), q17.2)
              else
                some ((1 : Int32), st2 (st2 q17.2 93 (((48 : Int32)) + (A 80 16)).toNatClampNeg (q17.2 80 46)) 80 16 (((st2 q17.2 93 (((48 : Int32)) + (A 80 16)).toNatClampNeg (q17.2 80 46)) 80 16) + ((1 : Int32))))
      else
        none
set_option maxRecDepth 100000 in
set_option maxHeartbeats 4000000 in
theorem c_X10_readsLife (n : Nat) (A : Mem) (q : Int32 × Mem) (h : f_X10_readsLife n  A = some q) : Ct yX10_readsLife cX10_readsLife 2 (some .boolean) 3 [.ref 80] A (RI q) := by
  unfold f_X10_readsLife at h
  refine ct_of (by decide) (Nat.le_of_ble_eq_true rfl) ?_
  show Ev cX10_readsLife 2 RX10 (some .boolean) 3 none 0 [(0, .ref 80)] [] A (RI q)
  refine ev_bipush (v := 48) dX10_readsLife_0 (by decide) ?_
  refine ev_aload_n 0 dX10_readsLife_2 rfl rfl ?_
  refine ev_getI dX10_readsLife_3 fl_X10_186 (by decide) rfl (by decide) (by decide) rfl ?_
  refine ev_iadd dX10_readsLife_6 ?_
  refine ev_istore_n (ls' := [(1, .int (((48 : Int32)) + (A 80 16))), (0, .ref 80)]) dX10_readsLife_7 rfl (by decide) rfl ?_
  refine ev_aload_n 1 dX10_readsLife_8 rfl rfl ?_
  refine ev_sipush (v := 641) dX10_readsLife_9 (by decide) ?_
  refine ev_iconst (v := 2) dX10_readsLife_12 (by decide) ?_
  obtain ⟨q1, e2, h⟩ := bd_c h
  refine ev_callVi (av := [.int ((641 : Int32)), .int ((2 : Int32))]) dX10_readsLife_13 (c_X10_skips n ((641 : Int32)) ((2 : Int32))  A q1 e2) mk_X10_skips lk_X10_189 iv_X10_skips (Or.inl ⟨10, _, by decide, rfl, by decide, rfl, rfl⟩) rfl (by decide) (by decide) (Nat.le_of_ble_eq_true rfl) rfl ?_
  refine ev_if_eq (tgt := 29) dX10_readsLife_16 (by decide) (fun c3 => ?_) (fun c3 => ?_)
  · have h := if_t c3 h
    refine ev_iconst (v := 0) dX10_readsLife_29 (by decide) ?_
    cases h
    exact ev_iret dX10_readsLife_30 rfl rfl ⟨rfl, rfl⟩
  · have h := if_f c3 h
    refine ev_aload_n 1 dX10_readsLife_19 rfl rfl ?_
    refine ev_iconst (v := 0) dX10_readsLife_20 (by decide) ?_
    refine ev_bipush (v := 7) dX10_readsLife_21 (by decide) ?_
    obtain ⟨q4, e5, h⟩ := bd_c h
    refine ev_callVi (av := [.int ((0 : Int32)), .int ((7 : Int32))]) dX10_readsLife_23 (c_X10_skipsNumber n ((0 : Int32)) ((7 : Int32))  q1.2 q4 e5) mk_X10_skipsNumber lk_X10_192 iv_X10_skipsNumber (Or.inl ⟨10, _, by decide, rfl, by decide, rfl, rfl⟩) rfl (by decide) (by decide) (Nat.le_of_ble_eq_true rfl) rfl ?_
    refine ev_if_ne (tgt := 31) dX10_readsLife_26 (by decide) (fun c6 => ?_) (fun c6 => ?_)
    · have h := if_f c6 h
      refine ev_aload_n 1 dX10_readsLife_31 rfl rfl ?_
      refine ev_getR (r := 91) dX10_readsLife_32 fl_X10_41 (by decide) rfl (by decide) (by decide) rfl ?_
      refine ev_iload_n 0 dX10_readsLife_35 rfl rfl ?_
      refine ev_aload_n 1 dX10_readsLife_36 rfl rfl ?_
      refine ev_getI dX10_readsLife_37 fl_X10_183 (by decide) rfl (by decide) (by decide) rfl ?_
      obtain ⟨c7, h⟩ := if_c h
      refine ev_iastc 56 dX10_readsLife_40 (by decide) rfl rfl (by decide) c7 ?_
      refine ev_aload_n 1 dX10_readsLife_41 rfl rfl ?_
      refine ev_ldc dX10_readsLife_42 kc_X10_195 ?_
      refine ev_iconst (v := 4) dX10_readsLife_44 (by decide) ?_
      obtain ⟨q8, e9, h⟩ := bd_c h
      refine ev_callVi (av := [.int ((441926 : Int32)), .int ((4 : Int32))]) dX10_readsLife_45 (c_X10_skips n ((441926 : Int32)) ((4 : Int32))  (st2 q4.2 91 (((48 : Int32)) + (A 80 16)).toNatClampNeg (q4.2 80 46)) q8 e9) mk_X10_skips lk_X10_189 iv_X10_skips (Or.inl ⟨10, _, by decide, rfl, by decide, rfl, rfl⟩) rfl (by decide) (by decide) (Nat.le_of_ble_eq_true rfl) rfl ?_
      refine ev_if_eq (tgt := 61) dX10_readsLife_48 (by decide) (fun c10 => ?_) (fun c10 => ?_)
      · have h := if_t c10 h
        refine ev_iconst (v := 0) dX10_readsLife_61 (by decide) ?_
        cases h
        exact ev_iret dX10_readsLife_62 rfl rfl ⟨rfl, rfl⟩
      · have h := if_f c10 h
        refine ev_aload_n 1 dX10_readsLife_51 rfl rfl ?_
        refine ev_iconst (v := 0) dX10_readsLife_52 (by decide) ?_
        refine ev_bipush (v := 60) dX10_readsLife_53 (by decide) ?_
        obtain ⟨q11, e12, h⟩ := bd_c h
        refine ev_callVi (av := [.int ((0 : Int32)), .int ((60 : Int32))]) dX10_readsLife_55 (c_X10_skipsNumber n ((0 : Int32)) ((60 : Int32))  q8.2 q11 e12) mk_X10_skipsNumber lk_X10_192 iv_X10_skipsNumber (Or.inl ⟨10, _, by decide, rfl, by decide, rfl, rfl⟩) rfl (by decide) (by decide) (Nat.le_of_ble_eq_true rfl) rfl ?_
        refine ev_if_ne (tgt := 63) dX10_readsLife_58 (by decide) (fun c13 => ?_) (fun c13 => ?_)
        · have h := if_f c13 h
          refine ev_aload_n 1 dX10_readsLife_63 rfl rfl ?_
          refine ev_getR (r := 92) dX10_readsLife_64 fl_X10_44 (by decide) rfl (by decide) (by decide) rfl ?_
          refine ev_iload_n 0 dX10_readsLife_67 rfl rfl ?_
          refine ev_aload_n 1 dX10_readsLife_68 rfl rfl ?_
          refine ev_getI dX10_readsLife_69 fl_X10_183 (by decide) rfl (by decide) (by decide) rfl ?_
          refine ev_iastc 56 dX10_readsLife_72 (by decide) rfl rfl (by decide) c7 ?_
          refine ev_aload_n 1 dX10_readsLife_73 rfl rfl ?_
          refine ev_sipush (v := 500) dX10_readsLife_74 (by decide) ?_
          refine ev_iconst (v := 2) dX10_readsLife_77 (by decide) ?_
          obtain ⟨q14, e15, h⟩ := bd_c h
          refine ev_callVi (av := [.int ((500 : Int32)), .int ((2 : Int32))]) dX10_readsLife_78 (c_X10_skips n ((500 : Int32)) ((2 : Int32))  (st2 q11.2 92 (((48 : Int32)) + (A 80 16)).toNatClampNeg (q11.2 80 46)) q14 e15) mk_X10_skips lk_X10_189 iv_X10_skips (Or.inl ⟨10, _, by decide, rfl, by decide, rfl, rfl⟩) rfl (by decide) (by decide) (Nat.le_of_ble_eq_true rfl) rfl ?_
          refine ev_if_eq (tgt := 99) dX10_readsLife_81 (by decide) (fun c16 => ?_) (fun c16 => ?_)
          · have h := if_t c16 h
            refine ev_iconst (v := 0) dX10_readsLife_99 (by decide) ?_
            cases h
            exact ev_iret dX10_readsLife_100 rfl rfl ⟨rfl, rfl⟩
          · have h := if_f c16 h
            refine ev_aload_n 1 dX10_readsLife_84 rfl rfl ?_
            refine ev_aload_n 1 dX10_readsLife_85 rfl rfl ?_
            refine ev_getR (r := 92) dX10_readsLife_86 fl_X10_44 (by decide) rfl (by decide) (by decide) rfl ?_
            refine ev_iload_n 0 dX10_readsLife_89 rfl rfl ?_
            refine ev_ialdc 56 dX10_readsLife_90 (by decide) rfl rfl (by decide) c7 ?_
            refine ev_bipush (v := 60) dX10_readsLife_91 (by decide) ?_
            obtain ⟨q17, e18, h⟩ := bd_c h
            refine ev_callVi (av := [.int (q14.2 92 (((48 : Int32)) + (A 80 16)).toNatClampNeg), .int ((60 : Int32))]) dX10_readsLife_93 (c_X10_skipsNumber n (q14.2 92 (((48 : Int32)) + (A 80 16)).toNatClampNeg) ((60 : Int32))  q14.2 q17 e18) mk_X10_skipsNumber lk_X10_192 iv_X10_skipsNumber (Or.inl ⟨10, _, by decide, rfl, by decide, rfl, rfl⟩) rfl (by decide) (by decide) (Nat.le_of_ble_eq_true rfl) rfl ?_
            refine ev_if_ne (tgt := 101) dX10_readsLife_96 (by decide) (fun c19 => ?_) (fun c19 => ?_)
            · have h := if_f c19 h
              refine ev_aload_n 1 dX10_readsLife_101 rfl rfl ?_
              refine ev_getR (r := 93) dX10_readsLife_102 fl_X10_47 (by decide) rfl (by decide) (by decide) rfl ?_
              refine ev_iload_n 0 dX10_readsLife_105 rfl rfl ?_
              refine ev_aload_n 1 dX10_readsLife_106 rfl rfl ?_
              refine ev_getI dX10_readsLife_107 fl_X10_183 (by decide) rfl (by decide) (by decide) rfl ?_
              refine ev_iastc 56 dX10_readsLife_110 (by decide) rfl rfl (by decide) c7 ?_
              refine ev_aload_n 1 dX10_readsLife_111 rfl rfl ?_
              refine ev_dup dX10_readsLife_112 rfl ?_
              refine ev_getI dX10_readsLife_113 fl_X10_186 (by decide) rfl (by decide) (by decide) rfl ?_
              refine ev_iconst (v := 1) dX10_readsLife_116 (by decide) ?_
              refine ev_iadd dX10_readsLife_117 ?_
              refine ev_put2 dX10_readsLife_118 fl_X10_186 pk_10_16 (by decide) rfl (by decide) (by decide) rfl ?_
              refine ev_iconst (v := 1) dX10_readsLife_121 (by decide) ?_
              cases h
              exact ev_iret dX10_readsLife_122 rfl rfl ⟨rfl, rfl⟩
            · have h := if_t c19 h
              refine ev_iconst (v := 0) dX10_readsLife_99 (by decide) ?_
              cases h
              exact ev_iret dX10_readsLife_100 rfl rfl ⟨rfl, rfl⟩
        · have h := if_t c13 h
          refine ev_iconst (v := 0) dX10_readsLife_61 (by decide) ?_
          cases h
          exact ev_iret dX10_readsLife_62 rfl rfl ⟨rfl, rfl⟩
    · have h := if_t c6 h
      refine ev_iconst (v := 0) dX10_readsLife_29 (by decide) ?_
      cases h
      exact ev_iret dX10_readsLife_30 rfl rfl ⟨rfl, rfl⟩
def f_X10_readsOne (n : Nat) (x1 : Int32) (A : Mem) : Option (Int32 × Mem) :=
  if x1 = 0 then
    (f_X10_readsLife n  A).bind fun q5 =>
    if q5.1 = 0 ∨ q5.1 = 1 then
      some (q5.1, q5.2)
    else
      none
  else
    (f_X10_readsTable n  A).bind fun q2 =>
    if q2.1 = 0 ∨ q2.1 = 1 then
      some (q2.1, q2.2)
    else
      none
set_option maxRecDepth 100000 in
set_option maxHeartbeats 4000000 in
theorem c_X10_readsOne (n : Nat) (x1 : Int32) (A : Mem) (q : Int32 × Mem) (h : f_X10_readsOne n x1 A = some q) : Ct yX10_readsOne cX10_readsOne 2 (some .boolean) 4 [.ref 80, .int x1] A (RI q) := by
  unfold f_X10_readsOne at h
  refine ct_of (by decide) (Nat.le_of_ble_eq_true rfl) ?_
  show Ev cX10_readsOne 2 RX10 (some .boolean) 4 none 0 [(0, .ref 80), (1, .int x1)] [] A (RI q)
  refine ev_iload_n 1 dX10_readsOne_0 rfl rfl ?_
  refine ev_if_ne (tgt := 11) dX10_readsOne_1 (by decide) (fun c1 => ?_) (fun c1 => ?_)
  · have h := if_f c1 h
    refine ev_aload_n 0 dX10_readsOne_11 rfl rfl ?_
    obtain ⟨q2, e3, h⟩ := bd_c h
    refine ev_callVi (av := []) dX10_readsOne_12 (c_X10_readsTable n   A q2 e3) mk_X10_readsTable lk_X10_206 iv_X10_readsTable (Or.inl ⟨10, _, by decide, rfl, by decide, rfl, rfl⟩) rfl (by decide) (by decide) (Nat.le_of_ble_eq_true rfl) rfl ?_
    obtain ⟨c4, h⟩ := if_c h
    cases h
    exact ev_iret dX10_readsOne_15 rfl (narB c4) ⟨rfl, rfl⟩
  · have h := if_t c1 h
    refine ev_aload_n 0 dX10_readsOne_4 rfl rfl ?_
    obtain ⟨q5, e6, h⟩ := bd_c h
    refine ev_callVi (av := []) dX10_readsOne_5 (c_X10_readsLife n   A q5 e6) mk_X10_readsLife lk_X10_202 iv_X10_readsLife (Or.inl ⟨10, _, by decide, rfl, by decide, rfl, rfl⟩) rfl (by decide) (by decide) (Nat.le_of_ble_eq_true rfl) rfl ?_
    refine ev_goto (tgt := 15) dX10_readsOne_8 (by decide) ?_
    obtain ⟨c7, h⟩ := if_c h
    cases h
    exact ev_iret dX10_readsOne_15 rfl (narB c7) ⟨rfl, rfl⟩
def g_X10_faultAs_93 (n : Nat) : Nat → Int32 → Mem → Option (Int32 × Mem)
  | 0, _, _ => none
  | m + 1, x1, A =>
    if (A 80 10) ≤ (A 80 44) then
      some ((-1 : Int32), A)
    else
      if ((A 80 45) - (A 80 44)) = ((1 : Int32)) then
        if ¬ (A 80 44) < 0 ∧ (A 80 44).toNatClampNeg < 160 then
          if (A 89 (A 80 44).toNatClampNeg) = ((59 : Int32)) then
            if ((8 : Int32)) ≤ (A 80 16) then
              some (A 80 44, A)
            else
              (f_X10_token n  A).bind fun q21 =>
              (f_X10_readsOne n x1 q21.2).bind fun q23 =>
              if q23.1 = 0 then
                some (q23.2 80 44, q23.2)
              else
                g_X10_faultAs_93 n  m x1 q23.2
          else
            some (A 80 44, A)
        else
          none
      else
        some (A 80 44, A)
set_option maxRecDepth 100000 in
set_option maxHeartbeats 4000000 in
theorem l_X10_faultAs_93 (n : Nat) : ∀ (m : Nat) (x1 : Int32) (A : Mem) (q : Int32 × Mem), g_X10_faultAs_93 n  m x1 A = some q → Ev cX10_faultAs 3 RX10 (some .int) 5 none 93 [(0, .ref 80), (1, .int x1)] [] A (RI q) := by
  intro m
  induction m with
  | zero => intro x1 A q h; exact absurd h (by simp [g_X10_faultAs_93])
  | succ m ih =>
    intro x1 A q h
    rw [g_X10_faultAs_93] at h
    refine ev_aload_n 0 dX10_faultAs_93 rfl rfl ?_
    refine ev_getI dX10_faultAs_94 fl_X10_166 (by decide) rfl (by decide) (by decide) rfl ?_
    refine ev_aload_n 0 dX10_faultAs_97 rfl rfl ?_
    refine ev_getI dX10_faultAs_98 fl_X10_160 (by decide) rfl (by decide) (by decide) rfl ?_
    refine ev_icmp_ge (tgt := 172) dX10_faultAs_101 (by decide) (fun c16 => ?_) (fun c16 => ?_)
    · have h := if_t c16 h
      refine ev_iconst (v := -1) dX10_faultAs_172 (by decide) ?_
      cases h
      exact ev_iret dX10_faultAs_173 rfl rfl ⟨rfl, rfl⟩
    · have h := if_f c16 h
      refine ev_aload_n 0 dX10_faultAs_104 rfl rfl ?_
      refine ev_getI dX10_faultAs_105 fl_X10_173 (by decide) rfl (by decide) (by decide) rfl ?_
      refine ev_aload_n 0 dX10_faultAs_108 rfl rfl ?_
      refine ev_getI dX10_faultAs_109 fl_X10_166 (by decide) rfl (by decide) (by decide) rfl ?_
      refine ev_isub dX10_faultAs_112 ?_
      refine ev_iconst (v := 1) dX10_faultAs_113 (by decide) ?_
      refine ev_icmp_ne (tgt := 144) dX10_faultAs_114 (by decide) (fun c17 => ?_) (fun c17 => ?_)
      · have h := if_f c17 h
        refine ev_iconst (v := 0) dX10_faultAs_144 (by decide) ?_
        refine ev_istore_n (ls' := [(2, .int ((0 : Int32))), (0, .ref 80), (1, .int x1)]) dX10_faultAs_145 rfl (by decide) rfl ?_
        refine ev_iload_n 0 dX10_faultAs_146 rfl rfl ?_
        refine ev_if_eq (tgt := 160) dX10_faultAs_147 (by decide) (fun _ => ?_) (fun hh => absurd hh (by decide))
        refine ev_iload_n 0 dX10_faultAs_160 rfl rfl ?_
        refine ev_if_ne (tgt := 169) dX10_faultAs_161 (by decide) (fun hh => absurd hh (by decide)) (fun _ => ?_)
        refine ev_aload_n 1 dX10_faultAs_164 rfl rfl ?_
        refine ev_getI dX10_faultAs_165 fl_X10_166 (by decide) rfl (by decide) (by decide) rfl ?_
        cases h
        exact ev_iret dX10_faultAs_168 rfl rfl ⟨rfl, rfl⟩
      · have h := if_t c17 h
        refine ev_aload_n 0 dX10_faultAs_117 rfl rfl ?_
        refine ev_getR (r := 89) dX10_faultAs_118 fl_X10_35 (by decide) rfl (by decide) (by decide) rfl ?_
        refine ev_aload_n 0 dX10_faultAs_121 rfl rfl ?_
        refine ev_getI dX10_faultAs_122 fl_X10_166 (by decide) rfl (by decide) (by decide) rfl ?_
        obtain ⟨c18, h⟩ := if_c h
        refine ev_ialdc 160 dX10_faultAs_125 (by decide) rfl rfl (by decide) c18 ?_
        refine ev_bipush (v := 59) dX10_faultAs_126 (by decide) ?_
        refine ev_icmp_ne (tgt := 144) dX10_faultAs_128 (by decide) (fun c19 => ?_) (fun c19 => ?_)
        · have h := if_f c19 h
          refine ev_iconst (v := 0) dX10_faultAs_144 (by decide) ?_
          refine ev_istore_n (ls' := [(2, .int ((0 : Int32))), (0, .ref 80), (1, .int x1)]) dX10_faultAs_145 rfl (by decide) rfl ?_
          refine ev_iload_n 0 dX10_faultAs_146 rfl rfl ?_
          refine ev_if_eq (tgt := 160) dX10_faultAs_147 (by decide) (fun _ => ?_) (fun hh => absurd hh (by decide))
          refine ev_iload_n 0 dX10_faultAs_160 rfl rfl ?_
          refine ev_if_ne (tgt := 169) dX10_faultAs_161 (by decide) (fun hh => absurd hh (by decide)) (fun _ => ?_)
          refine ev_aload_n 1 dX10_faultAs_164 rfl rfl ?_
          refine ev_getI dX10_faultAs_165 fl_X10_166 (by decide) rfl (by decide) (by decide) rfl ?_
          cases h
          exact ev_iret dX10_faultAs_168 rfl rfl ⟨rfl, rfl⟩
        · have h := if_t c19 h
          refine ev_aload_n 0 dX10_faultAs_131 rfl rfl ?_
          refine ev_getI dX10_faultAs_132 fl_X10_186 (by decide) rfl (by decide) (by decide) rfl ?_
          refine ev_bipush (v := 8) dX10_faultAs_135 (by decide) ?_
          refine ev_icmp_ge (tgt := 144) dX10_faultAs_137 (by decide) (fun c20 => ?_) (fun c20 => ?_)
          · have h := if_t c20 h
            refine ev_iconst (v := 0) dX10_faultAs_144 (by decide) ?_
            refine ev_istore_n (ls' := [(2, .int ((0 : Int32))), (0, .ref 80), (1, .int x1)]) dX10_faultAs_145 rfl (by decide) rfl ?_
            refine ev_iload_n 0 dX10_faultAs_146 rfl rfl ?_
            refine ev_if_eq (tgt := 160) dX10_faultAs_147 (by decide) (fun _ => ?_) (fun hh => absurd hh (by decide))
            refine ev_iload_n 0 dX10_faultAs_160 rfl rfl ?_
            refine ev_if_ne (tgt := 169) dX10_faultAs_161 (by decide) (fun hh => absurd hh (by decide)) (fun _ => ?_)
            refine ev_aload_n 1 dX10_faultAs_164 rfl rfl ?_
            refine ev_getI dX10_faultAs_165 fl_X10_166 (by decide) rfl (by decide) (by decide) rfl ?_
            cases h
            exact ev_iret dX10_faultAs_168 rfl rfl ⟨rfl, rfl⟩
          · have h := if_f c20 h
            refine ev_iconst (v := 1) dX10_faultAs_140 (by decide) ?_
            refine ev_goto (tgt := 145) dX10_faultAs_141 (by decide) ?_
            refine ev_istore_n (ls' := [(2, .int ((1 : Int32))), (0, .ref 80), (1, .int x1)]) dX10_faultAs_145 rfl (by decide) rfl ?_
            refine ev_iload_n 0 dX10_faultAs_146 rfl rfl ?_
            refine ev_if_eq (tgt := 160) dX10_faultAs_147 (by decide) (fun hh => absurd hh (by decide)) (fun _ => ?_)
            refine ev_aload_n 1 dX10_faultAs_150 rfl rfl ?_
            obtain ⟨q21, e22, h⟩ := bd_c h
            refine ev_callVv (av := []) dX10_faultAs_151 (c_X10_token n   A q21 e22) mk_X10_token lk_X10_180 iv_X10_token (Or.inl ⟨10, _, by decide, rfl, by decide, rfl, rfl⟩) rfl (by decide) (by decide) (Nat.le_of_ble_eq_true rfl) rfl ?_
            refine ev_aload_n 1 dX10_faultAs_154 rfl rfl ?_
            refine ev_iload_n 2 dX10_faultAs_155 rfl rfl ?_
            obtain ⟨q23, e24, h⟩ := bd_c h
            refine ev_callVi (av := [.int x1]) dX10_faultAs_156 (c_X10_readsOne n x1  q21.2 q23 e24) mk_X10_readsOne lk_X10_209 iv_X10_readsOne (Or.inl ⟨10, _, by decide, rfl, by decide, rfl, rfl⟩) rfl (by decide) (by decide) (Nat.le_of_ble_eq_true rfl) rfl ?_
            refine ev_istore_n (ls' := [(2, .int q23.1), (0, .ref 80), (1, .int x1)]) dX10_faultAs_159 rfl (by decide) rfl ?_
            refine ev_iload_n 0 dX10_faultAs_160 rfl rfl ?_
            refine ev_if_ne (tgt := 169) dX10_faultAs_161 (by decide) (fun c25 => ?_) (fun c25 => ?_)
            · have h := if_f c25 h
              refine ev_goto (tgt := 93) dX10_faultAs_169 (by decide) ?_
              refine ev_pick [1, 2] (ls' := [(0, .ref 80), (1, .int x1)]) rfl ?_
              exact ih x1 _ q h
            · have h := if_t c25 h
              refine ev_aload_n 1 dX10_faultAs_164 rfl rfl ?_
              refine ev_getI dX10_faultAs_165 fl_X10_166 (by decide) rfl (by decide) (by decide) rfl ?_
              cases h
              exact ev_iret dX10_faultAs_168 rfl rfl ⟨rfl, rfl⟩
def g_X10_faultAs_13 (n : Nat) : Nat → Int32 → Int32 → Mem → Option (Int32 × Mem)
  | 0, _, _, _ => none
  | m + 1, x1, x2, A =>
    if ((18 : Int32)) ≤ x2 then
      (f_X10_token n  A).bind fun q2 =>
      (f_X10_readsOne n x1 q2.2).bind fun q4 =>
      if q4.1 = 0 then
        some (q4.2 80 44, q4.2)
      else
        g_X10_faultAs_93 n  n x1 q4.2
    else
      if x2 = ((12 : Int32)) then
        if ¬ x2 < 0 ∧ (x2).toNatClampNeg < 18 then
          g_X10_faultAs_13 n  m x1 (x2 + 1) (st2 A 94 (x2).toNatClampNeg ((50 : Int32)))
        else
          none
      else
        if x2 = ((13 : Int32)) then
          if ¬ x2 < 0 ∧ (x2).toNatClampNeg < 18 then
            g_X10_faultAs_13 n  m x1 (x2 + 1) (st2 A 94 (x2).toNatClampNeg ((10 : Int32)))
          else
            none
        else
          if x2 = ((14 : Int32)) then
            if ¬ x2 < 0 ∧ (x2).toNatClampNeg < 18 then
              g_X10_faultAs_13 n  m x1 (x2 + 1) (st2 A 94 (x2).toNatClampNeg ((30 : Int32)))
            else
              none
          else
            if x2 = ((17 : Int32)) then
              if ¬ x2 < 0 ∧ (x2).toNatClampNeg < 18 then
                g_X10_faultAs_13 n  m x1 (x2 + 1) (st2 A 94 (x2).toNatClampNeg ((40 : Int32)))
              else
                none
            else
              if ¬ x2 < 0 ∧ (x2).toNatClampNeg < 18 then
                g_X10_faultAs_13 n  m x1 (x2 + 1) (st2 A 94 (x2).toNatClampNeg ((0 : Int32)))
              else
                none
set_option maxRecDepth 100000 in
set_option maxHeartbeats 4000000 in
theorem l_X10_faultAs_13 (n : Nat) : ∀ (m : Nat) (x1 : Int32) (x2 : Int32) (A : Mem) (q : Int32 × Mem), g_X10_faultAs_13 n  m x1 x2 A = some q → Ev cX10_faultAs 3 RX10 (some .int) 5 none 13 [(0, .ref 80), (1, .int x1), (2, .int x2)] [] A (RI q) := by
  intro m
  induction m with
  | zero => intro x1 x2 A q h; exact absurd h (by simp [g_X10_faultAs_13])
  | succ m ih =>
    intro x1 x2 A q h
    rw [g_X10_faultAs_13] at h
    refine ev_iload_n 2 dX10_faultAs_13 rfl rfl ?_
    refine ev_bipush (v := 18) dX10_faultAs_14 (by decide) ?_
    refine ev_icmp_ge (tgt := 76) dX10_faultAs_16 (by decide) (fun c1 => ?_) (fun c1 => ?_)
    · have h := if_t c1 h
      refine ev_aload_n 0 dX10_faultAs_76 rfl rfl ?_
      obtain ⟨q2, e3, h⟩ := bd_c h
      refine ev_callVv (av := []) dX10_faultAs_77 (c_X10_token n   A q2 e3) mk_X10_token lk_X10_180 iv_X10_token (Or.inl ⟨10, _, by decide, rfl, by decide, rfl, rfl⟩) rfl (by decide) (by decide) (Nat.le_of_ble_eq_true rfl) rfl ?_
      refine ev_aload_n 0 dX10_faultAs_80 rfl rfl ?_
      refine ev_iload_n 1 dX10_faultAs_81 rfl rfl ?_
      obtain ⟨q4, e5, h⟩ := bd_c h
      refine ev_callVi (av := [.int x1]) dX10_faultAs_82 (c_X10_readsOne n x1  q2.2 q4 e5) mk_X10_readsOne lk_X10_209 iv_X10_readsOne (Or.inl ⟨10, _, by decide, rfl, by decide, rfl, rfl⟩) rfl (by decide) (by decide) (Nat.le_of_ble_eq_true rfl) rfl ?_
      refine ev_if_ne (tgt := 93) dX10_faultAs_85 (by decide) (fun c6 => ?_) (fun c6 => ?_)
      · have h := if_f c6 h
        refine ev_pick [0, 1] (ls' := [(0, .ref 80), (1, .int x1)]) rfl ?_
        exact (l_X10_faultAs_93 n   n) x1 _ q h
      · have h := if_t c6 h
        refine ev_aload_n 0 dX10_faultAs_88 rfl rfl ?_
        refine ev_getI dX10_faultAs_89 fl_X10_166 (by decide) rfl (by decide) (by decide) rfl ?_
        cases h
        exact ev_iret dX10_faultAs_92 rfl rfl ⟨rfl, rfl⟩
    · have h := if_f c1 h
      refine ev_aload_n 0 dX10_faultAs_19 rfl rfl ?_
      refine ev_getR (r := 94) dX10_faultAs_20 fl_X10_50 (by decide) rfl (by decide) (by decide) rfl ?_
      refine ev_iload_n 2 dX10_faultAs_23 rfl rfl ?_
      refine ev_iload_n 2 dX10_faultAs_24 rfl rfl ?_
      refine ev_bipush (v := 12) dX10_faultAs_25 (by decide) ?_
      refine ev_icmp_ne (tgt := 35) dX10_faultAs_27 (by decide) (fun c7 => ?_) (fun c7 => ?_)
      · have h := if_f c7 h
        refine ev_iload_n 2 dX10_faultAs_35 rfl rfl ?_
        refine ev_bipush (v := 13) dX10_faultAs_36 (by decide) ?_
        refine ev_icmp_ne (tgt := 46) dX10_faultAs_38 (by decide) (fun c8 => ?_) (fun c8 => ?_)
        · have h := if_f c8 h
          refine ev_iload_n 2 dX10_faultAs_46 rfl rfl ?_
          refine ev_bipush (v := 14) dX10_faultAs_47 (by decide) ?_
          refine ev_icmp_ne (tgt := 57) dX10_faultAs_49 (by decide) (fun c9 => ?_) (fun c9 => ?_)
          · have h := if_f c9 h
            refine ev_iload_n 2 dX10_faultAs_57 rfl rfl ?_
            refine ev_bipush (v := 17) dX10_faultAs_58 (by decide) ?_
            refine ev_icmp_ne (tgt := 68) dX10_faultAs_60 (by decide) (fun c10 => ?_) (fun c10 => ?_)
            · have h := if_f c10 h
              refine ev_iconst (v := 0) dX10_faultAs_68 (by decide) ?_
              obtain ⟨c11, h⟩ := if_c h
              refine ev_iastc 18 dX10_faultAs_69 (by decide) rfl rfl (by decide) c11 ?_
              refine ev_iinc (v := x2 + 1) (ls' := [(2, .int (x2 + 1)), (0, .ref 80), (1, .int x1)]) 2 dX10_faultAs_70 rfl rfl (by decide) rfl ?_
              refine ev_goto (tgt := 13) dX10_faultAs_73 (by decide) ?_
              refine ev_pick [1, 2, 0] (ls' := [(0, .ref 80), (1, .int x1), (2, .int (x2 + 1))]) rfl ?_
              exact ih x1 (x2 + 1) _ q h
            · have h := if_t c10 h
              refine ev_bipush (v := 40) dX10_faultAs_63 (by decide) ?_
              refine ev_goto (tgt := 69) dX10_faultAs_65 (by decide) ?_
              obtain ⟨c12, h⟩ := if_c h
              refine ev_iastc 18 dX10_faultAs_69 (by decide) rfl rfl (by decide) c12 ?_
              refine ev_iinc (v := x2 + 1) (ls' := [(2, .int (x2 + 1)), (0, .ref 80), (1, .int x1)]) 2 dX10_faultAs_70 rfl rfl (by decide) rfl ?_
              refine ev_goto (tgt := 13) dX10_faultAs_73 (by decide) ?_
              refine ev_pick [1, 2, 0] (ls' := [(0, .ref 80), (1, .int x1), (2, .int (x2 + 1))]) rfl ?_
              exact ih x1 (x2 + 1) _ q h
          · have h := if_t c9 h
            refine ev_bipush (v := 30) dX10_faultAs_52 (by decide) ?_
            refine ev_goto (tgt := 69) dX10_faultAs_54 (by decide) ?_
            obtain ⟨c13, h⟩ := if_c h
            refine ev_iastc 18 dX10_faultAs_69 (by decide) rfl rfl (by decide) c13 ?_
            refine ev_iinc (v := x2 + 1) (ls' := [(2, .int (x2 + 1)), (0, .ref 80), (1, .int x1)]) 2 dX10_faultAs_70 rfl rfl (by decide) rfl ?_
            refine ev_goto (tgt := 13) dX10_faultAs_73 (by decide) ?_
            refine ev_pick [1, 2, 0] (ls' := [(0, .ref 80), (1, .int x1), (2, .int (x2 + 1))]) rfl ?_
            exact ih x1 (x2 + 1) _ q h
        · have h := if_t c8 h
          refine ev_bipush (v := 10) dX10_faultAs_41 (by decide) ?_
          refine ev_goto (tgt := 69) dX10_faultAs_43 (by decide) ?_
          obtain ⟨c14, h⟩ := if_c h
          refine ev_iastc 18 dX10_faultAs_69 (by decide) rfl rfl (by decide) c14 ?_
          refine ev_iinc (v := x2 + 1) (ls' := [(2, .int (x2 + 1)), (0, .ref 80), (1, .int x1)]) 2 dX10_faultAs_70 rfl rfl (by decide) rfl ?_
          refine ev_goto (tgt := 13) dX10_faultAs_73 (by decide) ?_
          refine ev_pick [1, 2, 0] (ls' := [(0, .ref 80), (1, .int x1), (2, .int (x2 + 1))]) rfl ?_
          exact ih x1 (x2 + 1) _ q h
      · have h := if_t c7 h
        refine ev_bipush (v := 50) dX10_faultAs_30 (by decide) ?_
        refine ev_goto (tgt := 69) dX10_faultAs_32 (by decide) ?_
        obtain ⟨c15, h⟩ := if_c h
        refine ev_iastc 18 dX10_faultAs_69 (by decide) rfl rfl (by decide) c15 ?_
        refine ev_iinc (v := x2 + 1) (ls' := [(2, .int (x2 + 1)), (0, .ref 80), (1, .int x1)]) 2 dX10_faultAs_70 rfl rfl (by decide) rfl ?_
        refine ev_goto (tgt := 13) dX10_faultAs_73 (by decide) ?_
        refine ev_pick [1, 2, 0] (ls' := [(0, .ref 80), (1, .int x1), (2, .int (x2 + 1))]) rfl ?_
        exact ih x1 (x2 + 1) _ q h
def f_X10_faultAs (n : Nat) (x1 : Int32) (A : Mem) : Option (Int32 × Mem) :=
  g_X10_faultAs_13 n  n x1 ((12 : Int32)) (st2 (st2 A 80 43 ((0 : Int32))) 80 16 ((0 : Int32)))
set_option maxRecDepth 100000 in
set_option maxHeartbeats 4000000 in
theorem c_X10_faultAs (n : Nat) (x1 : Int32) (A : Mem) (q : Int32 × Mem) (h : f_X10_faultAs n x1 A = some q) : Ct yX10_faultAs cX10_faultAs 3 (some .int) 5 [.ref 80, .int x1] A (RI q) := by
  unfold f_X10_faultAs at h
  refine ct_of (by decide) (Nat.le_of_ble_eq_true rfl) ?_
  show Ev cX10_faultAs 3 RX10 (some .int) 5 none 0 [(0, .ref 80), (1, .int x1)] [] A (RI q)
  refine ev_aload_n 0 dX10_faultAs_0 rfl rfl ?_
  refine ev_iconst (v := 0) dX10_faultAs_1 (by decide) ?_
  refine ev_put2 dX10_faultAs_2 fl_X10_163 pk_10_43 (by decide) rfl (by decide) (by decide) rfl ?_
  refine ev_aload_n 0 dX10_faultAs_5 rfl rfl ?_
  refine ev_iconst (v := 0) dX10_faultAs_6 (by decide) ?_
  refine ev_put2 dX10_faultAs_7 fl_X10_186 pk_10_16 (by decide) rfl (by decide) (by decide) rfl ?_
  refine ev_bipush (v := 12) dX10_faultAs_10 (by decide) ?_
  refine ev_istore_n (ls' := [(2, .int ((12 : Int32))), (0, .ref 80), (1, .int x1)]) dX10_faultAs_12 rfl (by decide) rfl ?_
  refine ev_pick [1, 2, 0] (ls' := [(0, .ref 80), (1, .int x1), (2, .int ((12 : Int32)))]) rfl ?_
  exact (l_X10_faultAs_13 n   n) x1 ((12 : Int32)) _ q h
def f_X10_fault (n : Nat) (x1 : Int32) (A : Mem) : Option (Int32 × Mem) :=
  (f_X10_in n ((x1).toInt64) ((0 : Int64)) ((1 : Int64)) A).bind fun q1 =>
  if q1.1 = 0 then
    some ((-3 : Int32), q1.2)
  else
    (f_X10_faultAs n x1 q1.2).bind fun q4 =>
    some (q4.1, q4.2)
set_option maxRecDepth 100000 in
set_option maxHeartbeats 4000000 in
theorem c_X10_fault (n : Nat) (x1 : Int32) (A : Mem) (q : Int32 × Mem) (h : f_X10_fault n x1 A = some q) : Ct yX10_fault cX10_fault 2 (some .int) 6 [.ref 80, .int x1] A (RI q) := by
  unfold f_X10_fault at h
  refine ct_of (by decide) (Nat.le_of_ble_eq_true rfl) ?_
  show Ev cX10_fault 2 RX10 (some .int) 6 none 0 [(0, .ref 80), (1, .int x1)] [] A (RI q)
  refine ev_iload_n 1 dX10_fault_0 rfl rfl ?_
  refine ev_i2l dX10_fault_1 ?_
  refine ev_lconst (v := 0) dX10_fault_2 (by decide) ?_
  refine ev_lconst (v := 1) dX10_fault_3 (by decide) ?_
  obtain ⟨q1, e2, h⟩ := bd_c h
  refine ev_callSi (av := [.long ((x1).toInt64), .long ((0 : Int64)), .long ((1 : Int64))]) dX10_fault_4 (c_X10_in n ((x1).toInt64) ((0 : Int64)) ((1 : Int64))  A q1 e2) mk_X10_in lk_X10_121 is_X10_in rfl (by decide) (by decide) (Nat.le_of_ble_eq_true rfl) rfl ?_
  refine ev_if_eq (tgt := 18) dX10_fault_7 (by decide) (fun c3 => ?_) (fun c3 => ?_)
  · have h := if_t c3 h
    refine ev_bipush (v := -3) dX10_fault_18 (by decide) ?_
    cases h
    exact ev_iret dX10_fault_20 rfl rfl ⟨rfl, rfl⟩
  · have h := if_f c3 h
    refine ev_aload_n 0 dX10_fault_10 rfl rfl ?_
    refine ev_iload_n 1 dX10_fault_11 rfl rfl ?_
    obtain ⟨q4, e5, h⟩ := bd_c h
    refine ev_callVi (av := [.int x1]) dX10_fault_12 (c_X10_faultAs n x1  q1.2 q4 e5) mk_X10_faultAs lk_X10_212 iv_X10_faultAs (Or.inl ⟨10, _, by decide, rfl, by decide, rfl, rfl⟩) rfl (by decide) (by decide) (Nat.le_of_ble_eq_true rfl) rfl ?_
    refine ev_goto (tgt := 20) dX10_fault_15 (by decide) ?_
    cases h
    exact ev_iret dX10_fault_20 rfl rfl ⟨rfl, rfl⟩
def g_X10_life_34 (n : Nat) : Nat → Int32 → Int32 → Mem → Option (Int32 × Mem)
  | 0, _, _, _ => none
  | m + 1, x1, x2, A =>
    if (A 80 16) ≤ x2 then
      some ((st2 A 80 10 ((0 : Int32))) 80 16, st2 A 80 10 ((0 : Int32)))
    else
      if ¬ (((48 : Int32)) + x2) < 0 ∧ (((48 : Int32)) + x2).toNatClampNeg < 56 then
        if ¬ ((((8 : Int32)) * x1) + x2) < 0 ∧ ((((8 : Int32)) * x1) + x2).toNatClampNeg < 56 then
          g_X10_life_34 n  m x1 (x2 + 1) (st2 (st2 (st2 A 91 ((((8 : Int32)) * x1) + x2).toNatClampNeg (A 91 (((48 : Int32)) + x2).toNatClampNeg)) 92 ((((8 : Int32)) * x1) + x2).toNatClampNeg ((st2 A 91 ((((8 : Int32)) * x1) + x2).toNatClampNeg (A 91 (((48 : Int32)) + x2).toNatClampNeg)) 92 (((48 : Int32)) + x2).toNatClampNeg)) 93 ((((8 : Int32)) * x1) + x2).toNatClampNeg ((st2 (st2 A 91 ((((8 : Int32)) * x1) + x2).toNatClampNeg (A 91 (((48 : Int32)) + x2).toNatClampNeg)) 92 ((((8 : Int32)) * x1) + x2).toNatClampNeg ((st2 A 91 ((((8 : Int32)) * x1) + x2).toNatClampNeg (A 91 (((48 : Int32)) + x2).toNatClampNeg)) 92 (((48 : Int32)) + x2).toNatClampNeg)) 93 (((48 : Int32)) + x2).toNatClampNeg))
        else
          none
      else
        none
set_option maxRecDepth 100000 in
set_option maxHeartbeats 4000000 in
theorem l_X10_life_34 (n : Nat) : ∀ (m : Nat) (x1 : Int32) (x2 : Int32) (A : Mem) (q : Int32 × Mem), g_X10_life_34 n  m x1 x2 A = some q → Ev cX10_life 3 RX10 (some .int) 6 none 34 [(0, .ref 80), (1, .int x1), (2, .int x2)] [] A (RI q) := by
  intro m
  induction m with
  | zero => intro x1 x2 A q h; exact absurd h (by simp [g_X10_life_34])
  | succ m ih =>
    intro x1 x2 A q h
    rw [g_X10_life_34] at h
    refine ev_iload_n 2 dX10_life_34 rfl rfl ?_
    refine ev_aload_n 0 dX10_life_35 rfl rfl ?_
    refine ev_getI dX10_life_36 fl_X10_186 (by decide) rfl (by decide) (by decide) rfl ?_
    refine ev_icmp_ge (tgt := 108) dX10_life_39 (by decide) (fun c8 => ?_) (fun c8 => ?_)
    · have h := if_t c8 h
      refine ev_aload_n 0 dX10_life_108 rfl rfl ?_
      refine ev_iconst (v := 0) dX10_life_109 (by decide) ?_
      refine ev_put2 dX10_life_110 fl_X10_160 pk_10_10 (by decide) rfl (by decide) (by decide) rfl ?_
      refine ev_aload_n 0 dX10_life_113 rfl rfl ?_
      refine ev_getI dX10_life_114 fl_X10_186 (by decide) rfl (by decide) (by decide) rfl ?_
      cases h
      exact ev_iret dX10_life_117 rfl rfl ⟨rfl, rfl⟩
    · have h := if_f c8 h
      refine ev_aload_n 0 dX10_life_42 rfl rfl ?_
      refine ev_getR (r := 91) dX10_life_43 fl_X10_41 (by decide) rfl (by decide) (by decide) rfl ?_
      refine ev_bipush (v := 8) dX10_life_46 (by decide) ?_
      refine ev_iload_n 1 dX10_life_48 rfl rfl ?_
      refine ev_imul dX10_life_49 ?_
      refine ev_iload_n 2 dX10_life_50 rfl rfl ?_
      refine ev_iadd dX10_life_51 ?_
      refine ev_aload_n 0 dX10_life_52 rfl rfl ?_
      refine ev_getR (r := 91) dX10_life_53 fl_X10_41 (by decide) rfl (by decide) (by decide) rfl ?_
      refine ev_bipush (v := 48) dX10_life_56 (by decide) ?_
      refine ev_iload_n 2 dX10_life_58 rfl rfl ?_
      refine ev_iadd dX10_life_59 ?_
      obtain ⟨c9, h⟩ := if_c h
      refine ev_ialdc 56 dX10_life_60 (by decide) rfl rfl (by decide) c9 ?_
      obtain ⟨c10, h⟩ := if_c h
      refine ev_iastc 56 dX10_life_61 (by decide) rfl rfl (by decide) c10 ?_
      refine ev_aload_n 0 dX10_life_62 rfl rfl ?_
      refine ev_getR (r := 92) dX10_life_63 fl_X10_44 (by decide) rfl (by decide) (by decide) rfl ?_
      refine ev_bipush (v := 8) dX10_life_66 (by decide) ?_
      refine ev_iload_n 1 dX10_life_68 rfl rfl ?_
      refine ev_imul dX10_life_69 ?_
      refine ev_iload_n 2 dX10_life_70 rfl rfl ?_
      refine ev_iadd dX10_life_71 ?_
      refine ev_aload_n 0 dX10_life_72 rfl rfl ?_
      refine ev_getR (r := 92) dX10_life_73 fl_X10_44 (by decide) rfl (by decide) (by decide) rfl ?_
      refine ev_bipush (v := 48) dX10_life_76 (by decide) ?_
      refine ev_iload_n 2 dX10_life_78 rfl rfl ?_
      refine ev_iadd dX10_life_79 ?_
      refine ev_ialdc 56 dX10_life_80 (by decide) rfl rfl (by decide) c9 ?_
      refine ev_iastc 56 dX10_life_81 (by decide) rfl rfl (by decide) c10 ?_
      refine ev_aload_n 0 dX10_life_82 rfl rfl ?_
      refine ev_getR (r := 93) dX10_life_83 fl_X10_47 (by decide) rfl (by decide) (by decide) rfl ?_
      refine ev_bipush (v := 8) dX10_life_86 (by decide) ?_
      refine ev_iload_n 1 dX10_life_88 rfl rfl ?_
      refine ev_imul dX10_life_89 ?_
      refine ev_iload_n 2 dX10_life_90 rfl rfl ?_
      refine ev_iadd dX10_life_91 ?_
      refine ev_aload_n 0 dX10_life_92 rfl rfl ?_
      refine ev_getR (r := 93) dX10_life_93 fl_X10_47 (by decide) rfl (by decide) (by decide) rfl ?_
      refine ev_bipush (v := 48) dX10_life_96 (by decide) ?_
      refine ev_iload_n 2 dX10_life_98 rfl rfl ?_
      refine ev_iadd dX10_life_99 ?_
      refine ev_ialdc 56 dX10_life_100 (by decide) rfl rfl (by decide) c9 ?_
      refine ev_iastc 56 dX10_life_101 (by decide) rfl rfl (by decide) c10 ?_
      refine ev_iinc (v := x2 + 1) (ls' := [(2, .int (x2 + 1)), (0, .ref 80), (1, .int x1)]) 2 dX10_life_102 rfl rfl (by decide) rfl ?_
      refine ev_goto (tgt := 34) dX10_life_105 (by decide) ?_
      refine ev_pick [1, 2, 0] (ls' := [(0, .ref 80), (1, .int x1), (2, .int (x2 + 1))]) rfl ?_
      exact ih x1 (x2 + 1) _ q h
def f_X10_life (n : Nat) (x1 : Int32) (A : Mem) : Option (Int32 × Mem) :=
  (f_X10_isAgent n x1 A).bind fun q1 =>
  if q1.1 = 0 then
    some ((-2 : Int32), q1.2)
  else
    (f_X10_faultAs n ((0 : Int32)) q1.2).bind fun q4 =>
    if q4.1 = ((-1 : Int32)) then
      if ¬ x1 < 0 ∧ (x1).toNatClampNeg < 7 then
        g_X10_life_34 n  n x1 ((0 : Int32)) (st2 q4.2 90 (x1).toNatClampNeg (q4.2 80 16))
      else
        none
    else
      some ((-4 : Int32), q4.2)
set_option maxRecDepth 100000 in
set_option maxHeartbeats 4000000 in
theorem c_X10_life (n : Nat) (x1 : Int32) (A : Mem) (q : Int32 × Mem) (h : f_X10_life n x1 A = some q) : Ct yX10_life cX10_life 3 (some .int) 6 [.ref 80, .int x1] A (RI q) := by
  unfold f_X10_life at h
  refine ct_of (by decide) (Nat.le_of_ble_eq_true rfl) ?_
  show Ev cX10_life 3 RX10 (some .int) 6 none 0 [(0, .ref 80), (1, .int x1)] [] A (RI q)
  refine ev_iload_n 1 dX10_life_0 rfl rfl ?_
  obtain ⟨q1, e2, h⟩ := bd_c h
  refine ev_callSi (av := [.int x1]) dX10_life_1 (c_X10_isAgent n x1  A q1 e2) mk_X10_isAgent lk_X10_155 is_X10_isAgent rfl (by decide) (by decide) (Nat.le_of_ble_eq_true rfl) rfl ?_
  refine ev_if_ne (tgt := 10) dX10_life_4 (by decide) (fun c3 => ?_) (fun c3 => ?_)
  · have h := if_f c3 h
    refine ev_aload_n 0 dX10_life_10 rfl rfl ?_
    refine ev_iconst (v := 0) dX10_life_11 (by decide) ?_
    obtain ⟨q4, e5, h⟩ := bd_c h
    refine ev_callVi (av := [.int ((0 : Int32))]) dX10_life_12 (c_X10_faultAs n ((0 : Int32))  q1.2 q4 e5) mk_X10_faultAs lk_X10_212 iv_X10_faultAs (Or.inl ⟨10, _, by decide, rfl, by decide, rfl, rfl⟩) rfl (by decide) (by decide) (Nat.le_of_ble_eq_true rfl) rfl ?_
    refine ev_iconst (v := -1) dX10_life_15 (by decide) ?_
    refine ev_icmp_eq (tgt := 22) dX10_life_16 (by decide) (fun c6 => ?_) (fun c6 => ?_)
    · have h := if_t c6 h
      refine ev_aload_n 0 dX10_life_22 rfl rfl ?_
      refine ev_getR (r := 90) dX10_life_23 fl_X10_38 (by decide) rfl (by decide) (by decide) rfl ?_
      refine ev_iload_n 1 dX10_life_26 rfl rfl ?_
      refine ev_aload_n 0 dX10_life_27 rfl rfl ?_
      refine ev_getI dX10_life_28 fl_X10_186 (by decide) rfl (by decide) (by decide) rfl ?_
      obtain ⟨c7, h⟩ := if_c h
      refine ev_iastc 7 dX10_life_31 (by decide) rfl rfl (by decide) c7 ?_
      refine ev_iconst (v := 0) dX10_life_32 (by decide) ?_
      refine ev_istore_n (ls' := [(2, .int ((0 : Int32))), (0, .ref 80), (1, .int x1)]) dX10_life_33 rfl (by decide) rfl ?_
      refine ev_pick [1, 2, 0] (ls' := [(0, .ref 80), (1, .int x1), (2, .int ((0 : Int32)))]) rfl ?_
      exact (l_X10_life_34 n   n) x1 ((0 : Int32)) _ q h
    · have h := if_f c6 h
      refine ev_bipush (v := -4) dX10_life_19 (by decide) ?_
      cases h
      exact ev_iret dX10_life_21 rfl rfl ⟨rfl, rfl⟩
  · have h := if_t c3 h
    refine ev_bipush (v := -2) dX10_life_7 (by decide) ?_
    cases h
    exact ev_iret dX10_life_9 rfl rfl ⟨rfl, rfl⟩
def f_X10_isReader (n : Nat) (x0 : Int32) (A : Mem) : Option (Int32 × Mem) :=
  (f_X10_in n ((x0).toInt64) ((0 : Int64)) ((1 : Int64)) A).bind fun q1 =>
  if q1.1 = 0 ∨ q1.1 = 1 then
    some (q1.1, q1.2)
  else
    none
set_option maxRecDepth 100000 in
set_option maxHeartbeats 4000000 in
theorem c_X10_isReader (n : Nat) (x0 : Int32) (A : Mem) (q : Int32 × Mem) (h : f_X10_isReader n x0 A = some q) : Ct yX10_isReader cX10_isReader 1 (some .boolean) 1 [.int x0] A (RI q) := by
  unfold f_X10_isReader at h
  refine ct_of (by decide) (Nat.le_of_ble_eq_true rfl) ?_
  show Ev cX10_isReader 1 RX10 (some .boolean) 1 none 0 [(0, .int x0)] [] A (RI q)
  refine ev_iload_n 0 dX10_isReader_0 rfl rfl ?_
  refine ev_i2l dX10_isReader_1 ?_
  refine ev_lconst (v := 0) dX10_isReader_2 (by decide) ?_
  refine ev_lconst (v := 1) dX10_isReader_3 (by decide) ?_
  obtain ⟨q1, e2, h⟩ := bd_c h
  refine ev_callSi (av := [.long ((x0).toInt64), .long ((0 : Int64)), .long ((1 : Int64))]) dX10_isReader_4 (c_X10_in n ((x0).toInt64) ((0 : Int64)) ((1 : Int64))  A q1 e2) mk_X10_in lk_X10_121 is_X10_in rfl (by decide) (by decide) (Nat.le_of_ble_eq_true rfl) rfl ?_
  obtain ⟨c3, h⟩ := if_c h
  cases h
  exact ev_iret dX10_isReader_7 rfl (narB c3) ⟨rfl, rfl⟩
def g_X10_table_24 (n : Nat) : Nat → Int32 → Int32 → Mem → Option (Int32 × Mem)
  | 0, _, _, _ => none
  | m + 1, x1, x2, A =>
    if ((6 : Int32)) ≤ x2 then
      some ((st2 A 80 10 ((0 : Int32))) 80 16, st2 A 80 10 ((0 : Int32)))
    else
      if ¬ (((12 : Int32)) + x2) < 0 ∧ (((12 : Int32)) + x2).toNatClampNeg < 18 then
        if ¬ ((((6 : Int32)) * x1) + x2) < 0 ∧ ((((6 : Int32)) * x1) + x2).toNatClampNeg < 18 then
          g_X10_table_24 n  m x1 (x2 + 1) (st2 A 94 ((((6 : Int32)) * x1) + x2).toNatClampNeg (A 94 (((12 : Int32)) + x2).toNatClampNeg))
        else
          none
      else
        none
set_option maxRecDepth 100000 in
set_option maxHeartbeats 4000000 in
theorem l_X10_table_24 (n : Nat) : ∀ (m : Nat) (x1 : Int32) (x2 : Int32) (A : Mem) (q : Int32 × Mem), g_X10_table_24 n  m x1 x2 A = some q → Ev cX10_table 3 RX10 (some .int) 6 none 24 [(0, .ref 80), (1, .int x1), (2, .int x2)] [] A (RI q) := by
  intro m
  induction m with
  | zero => intro x1 x2 A q h; exact absurd h (by simp [g_X10_table_24])
  | succ m ih =>
    intro x1 x2 A q h
    rw [g_X10_table_24] at h
    refine ev_iload_n 2 dX10_table_24 rfl rfl ?_
    refine ev_bipush (v := 6) dX10_table_25 (by decide) ?_
    refine ev_icmp_ge (tgt := 56) dX10_table_27 (by decide) (fun c7 => ?_) (fun c7 => ?_)
    · have h := if_t c7 h
      refine ev_aload_n 0 dX10_table_56 rfl rfl ?_
      refine ev_iconst (v := 0) dX10_table_57 (by decide) ?_
      refine ev_put2 dX10_table_58 fl_X10_160 pk_10_10 (by decide) rfl (by decide) (by decide) rfl ?_
      refine ev_aload_n 0 dX10_table_61 rfl rfl ?_
      refine ev_getI dX10_table_62 fl_X10_186 (by decide) rfl (by decide) (by decide) rfl ?_
      cases h
      exact ev_iret dX10_table_65 rfl rfl ⟨rfl, rfl⟩
    · have h := if_f c7 h
      refine ev_aload_n 0 dX10_table_30 rfl rfl ?_
      refine ev_getR (r := 94) dX10_table_31 fl_X10_50 (by decide) rfl (by decide) (by decide) rfl ?_
      refine ev_bipush (v := 6) dX10_table_34 (by decide) ?_
      refine ev_iload_n 1 dX10_table_36 rfl rfl ?_
      refine ev_imul dX10_table_37 ?_
      refine ev_iload_n 2 dX10_table_38 rfl rfl ?_
      refine ev_iadd dX10_table_39 ?_
      refine ev_aload_n 0 dX10_table_40 rfl rfl ?_
      refine ev_getR (r := 94) dX10_table_41 fl_X10_50 (by decide) rfl (by decide) (by decide) rfl ?_
      refine ev_bipush (v := 12) dX10_table_44 (by decide) ?_
      refine ev_iload_n 2 dX10_table_46 rfl rfl ?_
      refine ev_iadd dX10_table_47 ?_
      obtain ⟨c8, h⟩ := if_c h
      refine ev_ialdc 18 dX10_table_48 (by decide) rfl rfl (by decide) c8 ?_
      obtain ⟨c9, h⟩ := if_c h
      refine ev_iastc 18 dX10_table_49 (by decide) rfl rfl (by decide) c9 ?_
      refine ev_iinc (v := x2 + 1) (ls' := [(2, .int (x2 + 1)), (0, .ref 80), (1, .int x1)]) 2 dX10_table_50 rfl rfl (by decide) rfl ?_
      refine ev_goto (tgt := 24) dX10_table_53 (by decide) ?_
      refine ev_pick [1, 2, 0] (ls' := [(0, .ref 80), (1, .int x1), (2, .int (x2 + 1))]) rfl ?_
      exact ih x1 (x2 + 1) _ q h
def f_X10_table (n : Nat) (x1 : Int32) (A : Mem) : Option (Int32 × Mem) :=
  (f_X10_isReader n x1 A).bind fun q1 =>
  if q1.1 = 0 then
    some ((-2 : Int32), q1.2)
  else
    (f_X10_faultAs n ((1 : Int32)) q1.2).bind fun q4 =>
    if q4.1 = ((-1 : Int32)) then
      g_X10_table_24 n  n x1 ((0 : Int32)) q4.2
    else
      some ((-4 : Int32), q4.2)
set_option maxRecDepth 100000 in
set_option maxHeartbeats 4000000 in
theorem c_X10_table (n : Nat) (x1 : Int32) (A : Mem) (q : Int32 × Mem) (h : f_X10_table n x1 A = some q) : Ct yX10_table cX10_table 3 (some .int) 6 [.ref 80, .int x1] A (RI q) := by
  unfold f_X10_table at h
  refine ct_of (by decide) (Nat.le_of_ble_eq_true rfl) ?_
  show Ev cX10_table 3 RX10 (some .int) 6 none 0 [(0, .ref 80), (1, .int x1)] [] A (RI q)
  refine ev_iload_n 1 dX10_table_0 rfl rfl ?_
  obtain ⟨q1, e2, h⟩ := bd_c h
  refine ev_callSi (av := [.int x1]) dX10_table_1 (c_X10_isReader n x1  A q1 e2) mk_X10_isReader lk_X10_215 is_X10_isReader rfl (by decide) (by decide) (Nat.le_of_ble_eq_true rfl) rfl ?_
  refine ev_if_ne (tgt := 10) dX10_table_4 (by decide) (fun c3 => ?_) (fun c3 => ?_)
  · have h := if_f c3 h
    refine ev_aload_n 0 dX10_table_10 rfl rfl ?_
    refine ev_iconst (v := 1) dX10_table_11 (by decide) ?_
    obtain ⟨q4, e5, h⟩ := bd_c h
    refine ev_callVi (av := [.int ((1 : Int32))]) dX10_table_12 (c_X10_faultAs n ((1 : Int32))  q1.2 q4 e5) mk_X10_faultAs lk_X10_212 iv_X10_faultAs (Or.inl ⟨10, _, by decide, rfl, by decide, rfl, rfl⟩) rfl (by decide) (by decide) (Nat.le_of_ble_eq_true rfl) rfl ?_
    refine ev_iconst (v := -1) dX10_table_15 (by decide) ?_
    refine ev_icmp_eq (tgt := 22) dX10_table_16 (by decide) (fun c6 => ?_) (fun c6 => ?_)
    · have h := if_t c6 h
      refine ev_iconst (v := 0) dX10_table_22 (by decide) ?_
      refine ev_istore_n (ls' := [(2, .int ((0 : Int32))), (0, .ref 80), (1, .int x1)]) dX10_table_23 rfl (by decide) rfl ?_
      refine ev_pick [1, 2, 0] (ls' := [(0, .ref 80), (1, .int x1), (2, .int ((0 : Int32)))]) rfl ?_
      exact (l_X10_table_24 n   n) x1 ((0 : Int32)) _ q h
    · have h := if_f c6 h
      refine ev_bipush (v := -4) dX10_table_19 (by decide) ?_
      cases h
      exact ev_iret dX10_table_21 rfl rfl ⟨rfl, rfl⟩
  · have h := if_t c3 h
    refine ev_bipush (v := -2) dX10_table_7 (by decide) ?_
    cases h
    exact ev_iret dX10_table_9 rfl rfl ⟨rfl, rfl⟩
def g_X10_whereIs_13 (n : Nat) : Nat → Int32 → Int32 → Int32 → Int32 → Mem → Option (Int32 × Mem)
  | 0, _, _, _, _, _ => none
  | m + 1, x1, x2, x3, x4, A =>
    if ¬ x1 < 0 ∧ (x1).toNatClampNeg < 7 then
      if ((((8 : Int32)) * x1) + (A 90 (x1).toNatClampNeg)) ≤ x4 then
        some (x3, A)
      else
        if ¬ x4 < 0 ∧ (x4).toNatClampNeg < 56 then
          (f_X10_in n ((x2).toInt64) ((A 92 (x4).toNatClampNeg).toInt64) ((A 93 (x4).toNatClampNeg).toInt64) A).bind fun q5 =>
          if q5.1 = 0 then
            g_X10_whereIs_13 n  m x1 x2 x3 (x4 + 1) q5.2
          else
            g_X10_whereIs_13 n  m x1 x2 (q5.2 91 (x4).toNatClampNeg) (x4 + 1) q5.2
        else
          none
    else
      none
set_option maxRecDepth 100000 in
set_option maxHeartbeats 4000000 in
theorem l_X10_whereIs_13 (n : Nat) : ∀ (m : Nat) (x1 : Int32) (x2 : Int32) (x3 : Int32) (x4 : Int32) (A : Mem) (q : Int32 × Mem), g_X10_whereIs_13 n  m x1 x2 x3 x4 A = some q → Ev cX10_whereIs 5 RX10 (some .int) 1 none 13 [(0, .ref 80), (1, .int x1), (2, .int x2), (3, .int x3), (4, .int x4)] [] A (RI q) := by
  intro m
  induction m with
  | zero => intro x1 x2 x3 x4 A q h; exact absurd h (by simp [g_X10_whereIs_13])
  | succ m ih =>
    intro x1 x2 x3 x4 A q h
    rw [g_X10_whereIs_13] at h
    refine ev_iload 4 dX10_whereIs_13 rfl ?_
    refine ev_bipush (v := 8) dX10_whereIs_15 (by decide) ?_
    refine ev_iload_n 1 dX10_whereIs_17 rfl rfl ?_
    refine ev_imul dX10_whereIs_18 ?_
    refine ev_aload_n 0 dX10_whereIs_19 rfl rfl ?_
    refine ev_getR (r := 90) dX10_whereIs_20 fl_X10_38 (by decide) rfl (by decide) (by decide) rfl ?_
    refine ev_iload_n 1 dX10_whereIs_23 rfl rfl ?_
    obtain ⟨c2, h⟩ := if_c h
    refine ev_ialdc 7 dX10_whereIs_24 (by decide) rfl rfl (by decide) c2 ?_
    refine ev_iadd dX10_whereIs_25 ?_
    refine ev_icmp_ge (tgt := 71) dX10_whereIs_26 (by decide) (fun c3 => ?_) (fun c3 => ?_)
    · have h := if_t c3 h
      refine ev_iload_n 3 dX10_whereIs_71 rfl rfl ?_
      cases h
      exact ev_iret dX10_whereIs_72 rfl rfl ⟨rfl, rfl⟩
    · have h := if_f c3 h
      refine ev_iload_n 2 dX10_whereIs_29 rfl rfl ?_
      refine ev_i2l dX10_whereIs_30 ?_
      refine ev_aload_n 0 dX10_whereIs_31 rfl rfl ?_
      refine ev_getR (r := 92) dX10_whereIs_32 fl_X10_44 (by decide) rfl (by decide) (by decide) rfl ?_
      refine ev_iload 4 dX10_whereIs_35 rfl ?_
      obtain ⟨c4, h⟩ := if_c h
      refine ev_ialdc 56 dX10_whereIs_37 (by decide) rfl rfl (by decide) c4 ?_
      refine ev_i2l dX10_whereIs_38 ?_
      refine ev_aload_n 0 dX10_whereIs_39 rfl rfl ?_
      refine ev_getR (r := 93) dX10_whereIs_40 fl_X10_47 (by decide) rfl (by decide) (by decide) rfl ?_
      refine ev_iload 4 dX10_whereIs_43 rfl ?_
      refine ev_ialdc 56 dX10_whereIs_45 (by decide) rfl rfl (by decide) c4 ?_
      refine ev_i2l dX10_whereIs_46 ?_
      obtain ⟨q5, e6, h⟩ := bd_c h
      refine ev_callSi (av := [.long ((x2).toInt64), .long ((A 92 (x4).toNatClampNeg).toInt64), .long ((A 93 (x4).toNatClampNeg).toInt64)]) dX10_whereIs_47 (c_X10_in n ((x2).toInt64) ((A 92 (x4).toNatClampNeg).toInt64) ((A 93 (x4).toNatClampNeg).toInt64)  A q5 e6) mk_X10_in lk_X10_121 is_X10_in rfl (by decide) (by decide) (Nat.le_of_ble_eq_true rfl) rfl ?_
      refine ev_if_eq (tgt := 63) dX10_whereIs_50 (by decide) (fun c7 => ?_) (fun c7 => ?_)
      · have h := if_t c7 h
        refine ev_iload_n 3 dX10_whereIs_63 rfl rfl ?_
        refine ev_istore_n (ls' := [(3, .int x3), (0, .ref 80), (1, .int x1), (2, .int x2), (4, .int x4)]) dX10_whereIs_64 rfl (by decide) rfl ?_
        refine ev_iinc (v := x4 + 1) (ls' := [(4, .int (x4 + 1)), (3, .int x3), (0, .ref 80), (1, .int x1), (2, .int x2)]) 4 dX10_whereIs_65 rfl rfl (by decide) rfl ?_
        refine ev_goto (tgt := 13) dX10_whereIs_68 (by decide) ?_
        refine ev_pick [2, 3, 4, 1, 0] (ls' := [(0, .ref 80), (1, .int x1), (2, .int x2), (3, .int x3), (4, .int (x4 + 1))]) rfl ?_
        exact ih x1 x2 x3 (x4 + 1) _ q h
      · have h := if_f c7 h
        refine ev_aload_n 0 dX10_whereIs_53 rfl rfl ?_
        refine ev_getR (r := 91) dX10_whereIs_54 fl_X10_41 (by decide) rfl (by decide) (by decide) rfl ?_
        refine ev_iload 4 dX10_whereIs_57 rfl ?_
        refine ev_ialdc 56 dX10_whereIs_59 (by decide) rfl rfl (by decide) c4 ?_
        refine ev_goto (tgt := 64) dX10_whereIs_60 (by decide) ?_
        refine ev_istore_n (ls' := [(3, .int (q5.2 91 (x4).toNatClampNeg)), (0, .ref 80), (1, .int x1), (2, .int x2), (4, .int x4)]) dX10_whereIs_64 rfl (by decide) rfl ?_
        refine ev_iinc (v := x4 + 1) (ls' := [(4, .int (x4 + 1)), (3, .int (q5.2 91 (x4).toNatClampNeg)), (0, .ref 80), (1, .int x1), (2, .int x2)]) 4 dX10_whereIs_65 rfl rfl (by decide) rfl ?_
        refine ev_goto (tgt := 13) dX10_whereIs_68 (by decide) ?_
        refine ev_pick [2, 3, 4, 1, 0] (ls' := [(0, .ref 80), (1, .int x1), (2, .int x2), (3, .int (q5.2 91 (x4).toNatClampNeg)), (4, .int (x4 + 1))]) rfl ?_
        exact ih x1 x2 (q5.2 91 (x4).toNatClampNeg) (x4 + 1) _ q h
def f_X10_whereIs (n : Nat) (x1 : Int32) (x2 : Int32) (A : Mem) : Option (Int32 × Mem) :=
  if ¬ x1 < 0 ∧ (x1).toNatClampNeg < 6 then
    g_X10_whereIs_13 n  n x1 x2 (A 88 (x1).toNatClampNeg) (((8 : Int32)) * x1) A
  else
    none
set_option maxRecDepth 100000 in
set_option maxHeartbeats 4000000 in
theorem c_X10_whereIs (n : Nat) (x1 : Int32) (x2 : Int32) (A : Mem) (q : Int32 × Mem) (h : f_X10_whereIs n x1 x2 A = some q) : Ct yX10_whereIs cX10_whereIs 5 (some .int) 1 [.ref 80, .int x1, .int x2] A (RI q) := by
  unfold f_X10_whereIs at h
  refine ct_of (by decide) (Nat.le_of_ble_eq_true rfl) ?_
  show Ev cX10_whereIs 5 RX10 (some .int) 1 none 0 [(0, .ref 80), (1, .int x1), (2, .int x2)] [] A (RI q)
  refine ev_aload_n 0 dX10_whereIs_0 rfl rfl ?_
  refine ev_getR (r := 88) dX10_whereIs_1 fl_X10_32 (by decide) rfl (by decide) (by decide) rfl ?_
  refine ev_iload_n 1 dX10_whereIs_4 rfl rfl ?_
  obtain ⟨c1, h⟩ := if_c h
  refine ev_ialdc 6 dX10_whereIs_5 (by decide) rfl rfl (by decide) c1 ?_
  refine ev_istore_n (ls' := [(3, .int (A 88 (x1).toNatClampNeg)), (0, .ref 80), (1, .int x1), (2, .int x2)]) dX10_whereIs_6 rfl (by decide) rfl ?_
  refine ev_bipush (v := 8) dX10_whereIs_7 (by decide) ?_
  refine ev_iload_n 2 dX10_whereIs_9 rfl rfl ?_
  refine ev_imul dX10_whereIs_10 ?_
  refine ev_istore (ls' := [(4, .int (((8 : Int32)) * x1)), (3, .int (A 88 (x1).toNatClampNeg)), (0, .ref 80), (1, .int x1), (2, .int x2)]) dX10_whereIs_11 (by decide) rfl ?_
  refine ev_pick [2, 3, 4, 1, 0] (ls' := [(0, .ref 80), (1, .int x1), (2, .int x2), (3, .int (A 88 (x1).toNatClampNeg)), (4, .int (((8 : Int32)) * x1))]) rfl ?_
  exact (l_X10_whereIs_13 n   n) x1 x2 (A 88 (x1).toNatClampNeg) (((8 : Int32)) * x1) _ q h
def f_X10_where (n : Nat) (x1 : Int32) (x2 : Int32) (A : Mem) : Option (Int32 × Mem) :=
  (f_X10_isAgent n x1 A).bind fun q1 =>
  if q1.1 = 0 then
    some ((-2 : Int32), q1.2)
  else
    (f_X10_isDay n x2 q1.2).bind fun q4 =>
    if q4.1 = 0 then
      some ((-3 : Int32), q4.2)
    else
      (f_X10_whereIs n x1 x2 q4.2).bind fun q7 =>
      some (q7.1, q7.2)
set_option maxRecDepth 100000 in
set_option maxHeartbeats 4000000 in
theorem c_X10_where (n : Nat) (x1 : Int32) (x2 : Int32) (A : Mem) (q : Int32 × Mem) (h : f_X10_where n x1 x2 A = some q) : Ct yX10_where cX10_where 3 (some .int) 2 [.ref 80, .int x1, .int x2] A (RI q) := by
  unfold f_X10_where at h
  refine ct_of (by decide) (Nat.le_of_ble_eq_true rfl) ?_
  show Ev cX10_where 3 RX10 (some .int) 2 none 0 [(0, .ref 80), (1, .int x1), (2, .int x2)] [] A (RI q)
  refine ev_iload_n 1 dX10_where_0 rfl rfl ?_
  obtain ⟨q1, e2, h⟩ := bd_c h
  refine ev_callSi (av := [.int x1]) dX10_where_1 (c_X10_isAgent n x1  A q1 e2) mk_X10_isAgent lk_X10_155 is_X10_isAgent rfl (by decide) (by decide) (Nat.le_of_ble_eq_true rfl) rfl ?_
  refine ev_if_ne (tgt := 10) dX10_where_4 (by decide) (fun c3 => ?_) (fun c3 => ?_)
  · have h := if_f c3 h
    refine ev_iload_n 2 dX10_where_10 rfl rfl ?_
    obtain ⟨q4, e5, h⟩ := bd_c h
    refine ev_callSi (av := [.int x2]) dX10_where_11 (c_X10_isDay n x2  q1.2 q4 e5) mk_X10_isDay lk_X10_142 is_X10_isDay rfl (by decide) (by decide) (Nat.le_of_ble_eq_true rfl) rfl ?_
    refine ev_if_eq (tgt := 26) dX10_where_14 (by decide) (fun c6 => ?_) (fun c6 => ?_)
    · have h := if_t c6 h
      refine ev_bipush (v := -3) dX10_where_26 (by decide) ?_
      cases h
      exact ev_iret dX10_where_28 rfl rfl ⟨rfl, rfl⟩
    · have h := if_f c6 h
      refine ev_aload_n 0 dX10_where_17 rfl rfl ?_
      refine ev_iload_n 1 dX10_where_18 rfl rfl ?_
      refine ev_iload_n 2 dX10_where_19 rfl rfl ?_
      obtain ⟨q7, e8, h⟩ := bd_c h
      refine ev_callVi (av := [.int x1, .int x2]) dX10_where_20 (c_X10_whereIs n x1 x2  q4.2 q7 e8) mk_X10_whereIs lk_X10_218 iv_X10_whereIs (Or.inl ⟨10, _, by decide, rfl, by decide, rfl, rfl⟩) rfl (by decide) (by decide) (Nat.le_of_ble_eq_true rfl) rfl ?_
      refine ev_goto (tgt := 28) dX10_where_23 (by decide) ?_
      cases h
      exact ev_iret dX10_where_28 rfl rfl ⟨rfl, rfl⟩
  · have h := if_t c3 h
    refine ev_bipush (v := -2) dX10_where_7 (by decide) ?_
    cases h
    exact ev_iret dX10_where_9 rfl rfl ⟨rfl, rfl⟩
