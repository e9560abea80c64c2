def f_X9_make (n : Nat) (x1 : Int32) (A : Mem) : Option (Int32 × Mem) :=
  (f_X9_isBelow n x1 ((61 : Int32)) A).bind fun q1 =>
  if q1.1 = 0 then
    some ((-3 : Int32), q1.2)
  else
    if ¬ ((0 : Int32)) < 0 ∧ ((0 : Int32)).toNatClampNeg < 2 then
      (f_X2_leastRisk_66 n (rf 50 ((0 : Int32)).toNatClampNeg) x1 q1.2).bind fun q6 =>
      some (q6.1, q6.2)
    else
      none
set_option maxRecDepth 100000 in
set_option maxHeartbeats 4000000 in
theorem c_X9_make (n : Nat) (x1 : Int32) (A : Mem) (q : Int32 × Mem) (h : f_X9_make n x1 A = some q) : Ct yX9_make cX9_make 2 (some .int) 6 [.ref 0, .int x1] A (RI q) := by
  unfold f_X9_make at h
  refine ct_of (by decide) (Nat.le_of_ble_eq_true rfl) ?_
  show Ev cX9_make 2 RX9 (some .int) 6 none 0 [(0, .ref 0), (1, .int x1)] [] A (RI q)
  refine ev_iload_n 1 dX9_make_0 rfl rfl ?_
  refine ev_bipush (v := 61) dX9_make_1 (by decide) ?_
  obtain ⟨q1, e2, h⟩ := bd_c h
  refine ev_callSi (av := [.int x1, .int ((61 : Int32))]) dX9_make_3 (c_X9_isBelow n x1 ((61 : Int32))  A q1 e2) mk_X9_isBelow lk_X9_93 is_X9_isBelow rfl (by decide) (by decide) (Nat.le_of_ble_eq_true rfl) rfl ?_
  refine ev_if_eq (tgt := 30) dX9_make_6 (by decide) (fun c3 => ?_) (fun c3 => ?_)
  · have h := if_t c3 h
    refine ev_bipush (v := -3) dX9_make_30 (by decide) ?_
    cases h
    exact ev_iret dX9_make_32 rfl rfl ⟨rfl, rfl⟩
  · have h := if_f c3 h
    refine ev_aload_n 0 dX9_make_9 rfl rfl ?_
    refine ev_getR (r := 69) dX9_make_10 fl_X9_82 (by decide) rfl (by decide) (by decide) rfl ?_
    refine ev_aload_n 0 dX9_make_13 rfl rfl ?_
    refine ev_getR (r := 50) dX9_make_14 fl_X9_62 (by decide) rfl (by decide) (by decide) rfl ?_
    refine ev_iconst (v := 0) dX9_make_17 (by decide) ?_
    obtain ⟨c4, h⟩ := if_c h
    have e5 := el_50 _ c4.2
    refine ev_aaldc 2 dX9_make_18 (by decide) rfl (Or.inr rfl) rfl (by decide) c4 e5.1 ?_
    refine ev_aload_n 0 dX9_make_19 rfl rfl ?_
    refine ev_getR (r := 66) dX9_make_20 fl_X9_69 (by decide) rfl (by decide) (by decide) rfl ?_
    refine ev_iload_n 1 dX9_make_23 rfl rfl ?_
    obtain ⟨q6, e7, h⟩ := bd_c h
    refine ev_callVi (av := [.ref (rf 50 ((0 : Int32)).toNatClampNeg), .ref 66, .int x1]) dX9_make_24 (c_X2_leastRisk_66 n (rf 50 ((0 : Int32)).toNatClampNeg) x1 e5.2.1 e5.2.2 q1.2 q6 e7) mk_X2_leastRisk lk_X9_248 iv_X2_leastRisk (Or.inl ⟨2, _, by decide, rfl, by decide, rfl, rfl⟩) rfl (by decide) (by decide) (Nat.le_of_ble_eq_true rfl) rfl ?_
    refine ev_goto (tgt := 32) dX9_make_27 (by decide) ?_
    cases h
    exact ev_iret dX9_make_32 rfl rfl ⟨rfl, rfl⟩
def g_X2_usefulForTrust_4 (n : Nat) : Nat → Int32 → Int32 → Int32 → Mem → Option (Int32 × Mem)
  | 0, _, _, _, _ => none
  | m + 1, x1, x2, x3, A =>
    if (A 16 7) ≤ x3 then
      some (x2, A)
    else
      if ¬ x3 < 0 ∧ (x3).toNatClampNeg < 10 then
        if (A 17 (x3).toNatClampNeg) = x1 then
          if (A 72 (x3).toNatClampNeg) ≤ 0 then
            g_X2_usefulForTrust_4 n  m x1 x2 (x3 + 1) A
          else
            g_X2_usefulForTrust_4 n  m x1 (x2 ||| (((1 : Int32)) <<< (x3 &&& 31))) (x3 + 1) A
        else
          g_X2_usefulForTrust_4 n  m x1 x2 (x3 + 1) A
      else
        none
set_option maxRecDepth 100000 in
set_option maxHeartbeats 4000000 in
theorem l_X2_usefulForTrust_4 (n : Nat) : ∀ (m : Nat) (x1 : Int32) (x2 : Int32) (x3 : Int32) (A : Mem) (q : Int32 × Mem), g_X2_usefulForTrust_4 n  m x1 x2 x3 A = some q → Ev cX2_usefulForTrust 4 RX2 (some .int) 0 none 4 [(0, .ref 69), (1, .int x1), (2, .int x2), (3, .int x3)] [] A (RI q) := by
  intro m
  induction m with
  | zero => intro x1 x2 x3 A q h; exact absurd h (by simp [g_X2_usefulForTrust_4])
  | succ m ih =>
    intro x1 x2 x3 A q h
    rw [g_X2_usefulForTrust_4] at h
    refine ev_iload_n 3 dX2_usefulForTrust_4 rfl rfl ?_
    refine ev_aload_n 0 dX2_usefulForTrust_5 rfl rfl ?_
    refine ev_getR (r := 16) dX2_usefulForTrust_6 fl_X2_42 (by decide) rfl (by decide) (by decide) rfl ?_
    refine ev_getI dX2_usefulForTrust_9 fl_X2_62 (by decide) rfl (by decide) (by decide) rfl ?_
    refine ev_icmp_ge (tgt := 49) dX2_usefulForTrust_12 (by decide) (fun c1 => ?_) (fun c1 => ?_)
    · have h := if_t c1 h
      refine ev_iload_n 2 dX2_usefulForTrust_49 rfl rfl ?_
      cases h
      exact ev_iret dX2_usefulForTrust_50 rfl rfl ⟨rfl, rfl⟩
    · have h := if_f c1 h
      refine ev_aload_n 0 dX2_usefulForTrust_15 rfl rfl ?_
      refine ev_getR (r := 16) dX2_usefulForTrust_16 fl_X2_42 (by decide) rfl (by decide) (by decide) rfl ?_
      refine ev_getR (r := 17) dX2_usefulForTrust_19 fl_X2_130 (by decide) rfl (by decide) (by decide) rfl ?_
      refine ev_iload_n 3 dX2_usefulForTrust_22 rfl rfl ?_
      obtain ⟨c2, h⟩ := if_c h
      refine ev_ialdc 10 dX2_usefulForTrust_23 (by decide) rfl rfl (by decide) c2 ?_
      refine ev_iload_n 1 dX2_usefulForTrust_24 rfl rfl ?_
      refine ev_icmp_ne (tgt := 43) dX2_usefulForTrust_25 (by decide) (fun c3 => ?_) (fun c3 => ?_)
      · have h := if_f c3 h
        refine ev_iinc (v := x3 + 1) (ls' := [(3, .int (x3 + 1)), (0, .ref 69), (1, .int x1), (2, .int x2)]) 3 dX2_usefulForTrust_43 rfl rfl (by decide) rfl ?_
        refine ev_goto (tgt := 4) dX2_usefulForTrust_46 (by decide) ?_
        refine ev_pick [1, 2, 3, 0] (ls' := [(0, .ref 69), (1, .int x1), (2, .int x2), (3, .int (x3 + 1))]) rfl ?_
        exact ih x1 x2 (x3 + 1) _ q h
      · have h := if_t c3 h
        refine ev_aload_n 0 dX2_usefulForTrust_28 rfl rfl ?_
        refine ev_getR (r := 72) dX2_usefulForTrust_29 fl_X2_18 (by decide) rfl (by decide) (by decide) rfl ?_
        refine ev_iload_n 3 dX2_usefulForTrust_32 rfl rfl ?_
        refine ev_ialdc 10 dX2_usefulForTrust_33 (by decide) rfl rfl (by decide) c2 ?_
        refine ev_if_le (tgt := 43) dX2_usefulForTrust_34 (by decide) (fun c4 => ?_) (fun c4 => ?_)
        · have h := if_t c4 h
          refine ev_iinc (v := x3 + 1) (ls' := [(3, .int (x3 + 1)), (0, .ref 69), (1, .int x1), (2, .int x2)]) 3 dX2_usefulForTrust_43 rfl rfl (by decide) rfl ?_
          refine ev_goto (tgt := 4) dX2_usefulForTrust_46 (by decide) ?_
          refine ev_pick [1, 2, 3, 0] (ls' := [(0, .ref 69), (1, .int x1), (2, .int x2), (3, .int (x3 + 1))]) rfl ?_
          exact ih x1 x2 (x3 + 1) _ q h
        · have h := if_f c4 h
          refine ev_iload_n 2 dX2_usefulForTrust_37 rfl rfl ?_
          refine ev_iconst (v := 1) dX2_usefulForTrust_38 (by decide) ?_
          refine ev_iload_n 3 dX2_usefulForTrust_39 rfl rfl ?_
          refine ev_ishl dX2_usefulForTrust_40 ?_
          refine ev_ior dX2_usefulForTrust_41 ?_
          refine ev_istore_n (ls' := [(2, .int (x2 ||| (((1 : Int32)) <<< (x3 &&& 31)))), (0, .ref 69), (1, .int x1), (3, .int x3)]) dX2_usefulForTrust_42 rfl (by decide) rfl ?_
          refine ev_iinc (v := x3 + 1) (ls' := [(3, .int (x3 + 1)), (2, .int (x2 ||| (((1 : Int32)) <<< (x3 &&& 31)))), (0, .ref 69), (1, .int x1)]) 3 dX2_usefulForTrust_43 rfl rfl (by decide) rfl ?_
          refine ev_goto (tgt := 4) dX2_usefulForTrust_46 (by decide) ?_
          refine ev_pick [2, 3, 1, 0] (ls' := [(0, .ref 69), (1, .int x1), (2, .int (x2 ||| (((1 : Int32)) <<< (x3 &&& 31)))), (3, .int (x3 + 1))]) rfl ?_
          exact ih x1 (x2 ||| (((1 : Int32)) <<< (x3 &&& 31))) (x3 + 1) _ q h
def f_X2_usefulForTrust (n : Nat) (x1 : Int32) (A : Mem) : Option (Int32 × Mem) :=
  g_X2_usefulForTrust_4 n  n x1 ((0 : Int32)) ((0 : Int32)) A
set_option maxRecDepth 100000 in
set_option maxHeartbeats 4000000 in
theorem c_X2_usefulForTrust (n : Nat) (x1 : Int32) (A : Mem) (q : Int32 × Mem) (h : f_X2_usefulForTrust n x1 A = some q) : Ct yX2_usefulForTrust cX2_usefulForTrust 4 (some .int) 0 [.ref 69, .int x1] A (RI q) := by
  unfold f_X2_usefulForTrust at h
  refine ct_of (by decide) (Nat.le_of_ble_eq_true rfl) ?_
  show Ev cX2_usefulForTrust 4 RX2 (some .int) 0 none 0 [(0, .ref 69), (1, .int x1)] [] A (RI q)
  refine ev_iconst (v := 0) dX2_usefulForTrust_0 (by decide) ?_
  refine ev_istore_n (ls' := [(2, .int ((0 : Int32))), (0, .ref 69), (1, .int x1)]) dX2_usefulForTrust_1 rfl (by decide) rfl ?_
  refine ev_iconst (v := 0) dX2_usefulForTrust_2 (by decide) ?_
  refine ev_istore_n (ls' := [(3, .int ((0 : Int32))), (2, .int ((0 : Int32))), (0, .ref 69), (1, .int x1)]) dX2_usefulForTrust_3 rfl (by decide) rfl ?_
  refine ev_pick [2, 3, 1, 0] (ls' := [(0, .ref 69), (1, .int x1), (2, .int ((0 : Int32))), (3, .int ((0 : Int32)))]) rfl ?_
  exact (l_X2_usefulForTrust_4 n   n) x1 ((0 : Int32)) ((0 : Int32)) _ q h
def g_X2_addUp_71_5 (n : Nat) : Nat → Int32 → Int32 → Int32 → Mem → Option (Int32 × Mem)
  | 0, _, _, _, _ => none
  | m + 1, x2, x3, x4, A =>
    if (A 16 7) ≤ x4 then
      some (x3, A)
    else
      (f_X9_hasBit n x2 x4 A).bind fun q2 =>
      if q2.1 = 0 then
        g_X2_addUp_71_5 n  m x2 x3 (x4 + 1) q2.2
      else
        if ¬ x4 < 0 ∧ (x4).toNatClampNeg < 10 then
          g_X2_addUp_71_5 n  m x2 (x3 + (q2.2 71 (x4).toNatClampNeg)) (x4 + 1) q2.2
        else
          none
set_option maxRecDepth 100000 in
set_option maxHeartbeats 4000000 in
theorem l_X2_addUp_71_5 (n : Nat) : ∀ (m : Nat) (x2 : Int32) (x3 : Int32) (x4 : Int32) (A : Mem) (q : Int32 × Mem), g_X2_addUp_71_5 n  m x2 x3 x4 A = some q → Ev cX2_addUp 5 RX2 (some .int) 1 none 5 [(0, .ref 69), (1, .ref 71), (2, .int x2), (3, .int x3), (4, .int x4)] [] A (RI q) := by
  intro m
  induction m with
  | zero => intro x2 x3 x4 A q h; exact absurd h (by simp [g_X2_addUp_71_5])
  | succ m ih =>
    intro x2 x3 x4 A q h
    rw [g_X2_addUp_71_5] at h
    refine ev_iload 4 dX2_addUp_5 rfl ?_
    refine ev_aload_n 0 dX2_addUp_7 rfl rfl ?_
    refine ev_getR (r := 16) dX2_addUp_8 fl_X2_42 (by decide) rfl (by decide) (by decide) rfl ?_
    refine ev_getI dX2_addUp_11 fl_X2_62 (by decide) rfl (by decide) (by decide) rfl ?_
    refine ev_icmp_ge (tgt := 39) dX2_addUp_14 (by decide) (fun c1 => ?_) (fun c1 => ?_)
    · have h := if_t c1 h
      refine ev_iload_n 3 dX2_addUp_39 rfl rfl ?_
      cases h
      exact ev_iret dX2_addUp_40 rfl rfl ⟨rfl, rfl⟩
    · have h := if_f c1 h
      refine ev_iload_n 2 dX2_addUp_17 rfl rfl ?_
      refine ev_iload 4 dX2_addUp_18 rfl ?_
      obtain ⟨q2, e3, h⟩ := bd_c h
      refine ev_callSi (av := [.int x2, .int x4]) dX2_addUp_20 (c_X9_hasBit n x2 x4  A q2 e3) mk_X9_hasBit lk_X2_123 is_X9_hasBit rfl (by decide) (by decide) (Nat.le_of_ble_eq_true rfl) rfl ?_
      refine ev_if_eq (tgt := 33) dX2_addUp_23 (by decide) (fun c4 => ?_) (fun c4 => ?_)
      · have h := if_t c4 h
        refine ev_iinc (v := x4 + 1) (ls' := [(4, .int (x4 + 1)), (0, .ref 69), (1, .ref 71), (2, .int x2), (3, .int x3)]) 4 dX2_addUp_33 rfl rfl (by decide) rfl ?_
        refine ev_goto (tgt := 5) dX2_addUp_36 (by decide) ?_
        refine ev_pick [1, 2, 3, 4, 0] (ls' := [(0, .ref 69), (1, .ref 71), (2, .int x2), (3, .int x3), (4, .int (x4 + 1))]) rfl ?_
        exact ih x2 x3 (x4 + 1) _ q h
      · have h := if_f c4 h
        refine ev_iload_n 3 dX2_addUp_26 rfl rfl ?_
        refine ev_aload_n 1 dX2_addUp_27 rfl rfl ?_
        refine ev_iload 4 dX2_addUp_28 rfl ?_
        obtain ⟨c5, h⟩ := if_c h
        refine ev_ialdc 10 dX2_addUp_30 (by decide) rfl rfl (by decide) c5 ?_
        refine ev_iadd dX2_addUp_31 ?_
        refine ev_istore_n (ls' := [(3, .int (x3 + (q2.2 71 (x4).toNatClampNeg))), (0, .ref 69), (1, .ref 71), (2, .int x2), (4, .int x4)]) dX2_addUp_32 rfl (by decide) rfl ?_
        refine ev_iinc (v := x4 + 1) (ls' := [(4, .int (x4 + 1)), (3, .int (x3 + (q2.2 71 (x4).toNatClampNeg))), (0, .ref 69), (1, .ref 71), (2, .int x2)]) 4 dX2_addUp_33 rfl rfl (by decide) rfl ?_
        refine ev_goto (tgt := 5) dX2_addUp_36 (by decide) ?_
        refine ev_pick [2, 3, 4, 1, 0] (ls' := [(0, .ref 69), (1, .ref 71), (2, .int x2), (3, .int (x3 + (q2.2 71 (x4).toNatClampNeg))), (4, .int (x4 + 1))]) rfl ?_
        exact ih x2 (x3 + (q2.2 71 (x4).toNatClampNeg)) (x4 + 1) _ q h
def f_X2_addUp_71 (n : Nat) (x2 : Int32) (A : Mem) : Option (Int32 × Mem) :=
  g_X2_addUp_71_5 n  n x2 ((0 : Int32)) ((0 : Int32)) A
set_option maxRecDepth 100000 in
set_option maxHeartbeats 4000000 in
theorem c_X2_addUp_71 (n : Nat) (x2 : Int32) (A : Mem) (q : Int32 × Mem) (h : f_X2_addUp_71 n x2 A = some q) : Ct yX2_addUp cX2_addUp 5 (some .int) 1 [.ref 69, .ref 71, .int x2] A (RI q) := by
  unfold f_X2_addUp_71 at h
  refine ct_of (by decide) (Nat.le_of_ble_eq_true rfl) ?_
  show Ev cX2_addUp 5 RX2 (some .int) 1 none 0 [(0, .ref 69), (1, .ref 71), (2, .int x2)] [] A (RI q)
  refine ev_iconst (v := 0) dX2_addUp_0 (by decide) ?_
  refine ev_istore_n (ls' := [(3, .int ((0 : Int32))), (0, .ref 69), (1, .ref 71), (2, .int x2)]) dX2_addUp_1 rfl (by decide) rfl ?_
  refine ev_iconst (v := 0) dX2_addUp_2 (by decide) ?_
  refine ev_istore (ls' := [(4, .int ((0 : Int32))), (3, .int ((0 : Int32))), (0, .ref 69), (1, .ref 71), (2, .int x2)]) dX2_addUp_3 (by decide) rfl ?_
  refine ev_pick [2, 3, 4, 1, 0] (ls' := [(0, .ref 69), (1, .ref 71), (2, .int x2), (3, .int ((0 : Int32))), (4, .int ((0 : Int32)))]) rfl ?_
  exact (l_X2_addUp_71_5 n   n) x2 ((0 : Int32)) ((0 : Int32)) _ q h
def g_X2_addUp_72_5 (n : Nat) : Nat → Int32 → Int32 → Int32 → Mem → Option (Int32 × Mem)
  | 0, _, _, _, _ => none
  | m + 1, x2, x3, x4, A =>
    if (A 16 7) ≤ x4 then
      some (x3, A)
    else
      (f_X9_hasBit n x2 x4 A).bind fun q2 =>
      if q2.1 = 0 then
        g_X2_addUp_72_5 n  m x2 x3 (x4 + 1) q2.2
      else
        if ¬ x4 < 0 ∧ (x4).toNatClampNeg < 10 then
          g_X2_addUp_72_5 n  m x2 (x3 + (q2.2 72 (x4).toNatClampNeg)) (x4 + 1) q2.2
        else
          none
set_option maxRecDepth 100000 in
set_option maxHeartbeats 4000000 in
theorem l_X2_addUp_72_5 (n : Nat) : ∀ (m : Nat) (x2 : Int32) (x3 : Int32) (x4 : Int32) (A : Mem) (q : Int32 × Mem), g_X2_addUp_72_5 n  m x2 x3 x4 A = some q → Ev cX2_addUp 5 RX2 (some .int) 1 none 5 [(0, .ref 69), (1, .ref 72), (2, .int x2), (3, .int x3), (4, .int x4)] [] A (RI q) := by
  intro m
  induction m with
  | zero => intro x2 x3 x4 A q h; exact absurd h (by simp [g_X2_addUp_72_5])
  | succ m ih =>
    intro x2 x3 x4 A q h
    rw [g_X2_addUp_72_5] at h
    refine ev_iload 4 dX2_addUp_5 rfl ?_
    refine ev_aload_n 0 dX2_addUp_7 rfl rfl ?_
    refine ev_getR (r := 16) dX2_addUp_8 fl_X2_42 (by decide) rfl (by decide) (by decide) rfl ?_
    refine ev_getI dX2_addUp_11 fl_X2_62 (by decide) rfl (by decide) (by decide) rfl ?_
    refine ev_icmp_ge (tgt := 39) dX2_addUp_14 (by decide) (fun c1 => ?_) (fun c1 => ?_)
    · have h := if_t c1 h
      refine ev_iload_n 3 dX2_addUp_39 rfl rfl ?_
      cases h
      exact ev_iret dX2_addUp_40 rfl rfl ⟨rfl, rfl⟩
    · have h := if_f c1 h
      refine ev_iload_n 2 dX2_addUp_17 rfl rfl ?_
      refine ev_iload 4 dX2_addUp_18 rfl ?_
      obtain ⟨q2, e3, h⟩ := bd_c h
      refine ev_callSi (av := [.int x2, .int x4]) dX2_addUp_20 (c_X9_hasBit n x2 x4  A q2 e3) mk_X9_hasBit lk_X2_123 is_X9_hasBit rfl (by decide) (by decide) (Nat.le_of_ble_eq_true rfl) rfl ?_
      refine ev_if_eq (tgt := 33) dX2_addUp_23 (by decide) (fun c4 => ?_) (fun c4 => ?_)
      · have h := if_t c4 h
        refine ev_iinc (v := x4 + 1) (ls' := [(4, .int (x4 + 1)), (0, .ref 69), (1, .ref 72), (2, .int x2), (3, .int x3)]) 4 dX2_addUp_33 rfl rfl (by decide) rfl ?_
        refine ev_goto (tgt := 5) dX2_addUp_36 (by decide) ?_
        refine ev_pick [1, 2, 3, 4, 0] (ls' := [(0, .ref 69), (1, .ref 72), (2, .int x2), (3, .int x3), (4, .int (x4 + 1))]) rfl ?_
        exact ih x2 x3 (x4 + 1) _ q h
      · have h := if_f c4 h
        refine ev_iload_n 3 dX2_addUp_26 rfl rfl ?_
        refine ev_aload_n 1 dX2_addUp_27 rfl rfl ?_
        refine ev_iload 4 dX2_addUp_28 rfl ?_
        obtain ⟨c5, h⟩ := if_c h
        refine ev_ialdc 10 dX2_addUp_30 (by decide) rfl rfl (by decide) c5 ?_
        refine ev_iadd dX2_addUp_31 ?_
        refine ev_istore_n (ls' := [(3, .int (x3 + (q2.2 72 (x4).toNatClampNeg))), (0, .ref 69), (1, .ref 72), (2, .int x2), (4, .int x4)]) dX2_addUp_32 rfl (by decide) rfl ?_
        refine ev_iinc (v := x4 + 1) (ls' := [(4, .int (x4 + 1)), (3, .int (x3 + (q2.2 72 (x4).toNatClampNeg))), (0, .ref 69), (1, .ref 72), (2, .int x2)]) 4 dX2_addUp_33 rfl rfl (by decide) rfl ?_
        refine ev_goto (tgt := 5) dX2_addUp_36 (by decide) ?_
        refine ev_pick [2, 3, 4, 1, 0] (ls' := [(0, .ref 69), (1, .ref 72), (2, .int x2), (3, .int (x3 + (q2.2 72 (x4).toNatClampNeg))), (4, .int (x4 + 1))]) rfl ?_
        exact ih x2 (x3 + (q2.2 72 (x4).toNatClampNeg)) (x4 + 1) _ q h
def f_X2_addUp_72 (n : Nat) (x2 : Int32) (A : Mem) : Option (Int32 × Mem) :=
  g_X2_addUp_72_5 n  n x2 ((0 : Int32)) ((0 : Int32)) A
set_option maxRecDepth 100000 in
set_option maxHeartbeats 4000000 in
theorem c_X2_addUp_72 (n : Nat) (x2 : Int32) (A : Mem) (q : Int32 × Mem) (h : f_X2_addUp_72 n x2 A = some q) : Ct yX2_addUp cX2_addUp 5 (some .int) 1 [.ref 69, .ref 72, .int x2] A (RI q) := by
  unfold f_X2_addUp_72 at h
  refine ct_of (by decide) (Nat.le_of_ble_eq_true rfl) ?_
  show Ev cX2_addUp 5 RX2 (some .int) 1 none 0 [(0, .ref 69), (1, .ref 72), (2, .int x2)] [] A (RI q)
  refine ev_iconst (v := 0) dX2_addUp_0 (by decide) ?_
  refine ev_istore_n (ls' := [(3, .int ((0 : Int32))), (0, .ref 69), (1, .ref 72), (2, .int x2)]) dX2_addUp_1 rfl (by decide) rfl ?_
  refine ev_iconst (v := 0) dX2_addUp_2 (by decide) ?_
  refine ev_istore (ls' := [(4, .int ((0 : Int32))), (3, .int ((0 : Int32))), (0, .ref 69), (1, .ref 72), (2, .int x2)]) dX2_addUp_3 (by decide) rfl ?_
  refine ev_pick [2, 3, 4, 1, 0] (ls' := [(0, .ref 69), (1, .ref 72), (2, .int x2), (3, .int ((0 : Int32))), (4, .int ((0 : Int32)))]) rfl ?_
  exact (l_X2_addUp_72_5 n   n) x2 ((0 : Int32)) ((0 : Int32)) _ q h
def g_X2_leastCost_24 (n : Nat) (p1 : Nat) : Nat → Int32 → Int32 → Int32 → Int32 → Int32 → Int32 → Mem → Option (Int32 × Mem)
  | 0, _, _, _, _, _, _, _ => none
  | m + 1, x2, x4, x5, x6, x7, x8, A =>
    if (((1 : Int32)) <<< ((A 16 7) &&& 31)) ≤ x8 then
      some (x6, A)
    else
      if (x8 &&& (x5 ^^^ ((-1 : Int32)))) = 0 then
        (f_X2_addUp_71 n x8 A).bind fun q7 =>
        if x7 ≤ q7.1 then
          g_X2_leastCost_24 n p1 m x2 x4 x5 x6 x7 (x8 + 1) q7.2
        else
          if ¬ x2 < 0 ∧ (x2).toNatClampNeg < 6 then
            (f_X2_addUp_72 n x8 q7.2).bind fun q11 =>
            (f_X4_bounded n ((q7.2 74 (x2).toNatClampNeg) + q11.1) q11.2).bind fun q13 =>
            if q13.1 < x4 then
              g_X2_leastCost_24 n p1 m x2 x4 x5 x6 x7 (x8 + 1) q13.2
            else
              g_X2_leastCost_24 n p1 m x2 x4 x5 x8 q7.1 (x8 + 1) q13.2
          else
            none
      else
        if x7 ≤ x7 then
          g_X2_leastCost_24 n p1 m x2 x4 x5 x6 x7 (x8 + 1) A
        else
          if ¬ x2 < 0 ∧ (x2).toNatClampNeg < 6 then
            (f_X2_addUp_72 n x8 A).bind fun q18 =>
            (f_X4_bounded n ((A 74 (x2).toNatClampNeg) + q18.1) q18.2).bind fun q20 =>
            if q20.1 < x4 then
              g_X2_leastCost_24 n p1 m x2 x4 x5 x6 x7 (x8 + 1) q20.2
            else
              g_X2_leastCost_24 n p1 m x2 x4 x5 x8 x7 (x8 + 1) q20.2
          else
            none
set_option maxRecDepth 100000 in
set_option maxHeartbeats 4000000 in
theorem l_X2_leastCost_24 (n : Nat) (p1 : Nat) (hp1 : p1 < NT) (hk1 : kd p1 = 3) : ∀ (m : Nat) (x2 : Int32) (x4 : Int32) (x5 : Int32) (x6 : Int32) (x7 : Int32) (x8 : Int32) (A : Mem) (q : Int32 × Mem), g_X2_leastCost_24 n p1 m x2 x4 x5 x6 x7 x8 A = some q → Ev cX2_leastCost 10 RX2 (some .int) 5 none 24 [(0, .ref 69), (2, .int x2), (4, .int x4), (5, .int x5), (6, .int x6), (7, .int x7), (8, .int x8)] [] A (RI q) := by
  intro m
  induction m with
  | zero => intro x2 x4 x5 x6 x7 x8 A q h; exact absurd h (by simp [g_X2_leastCost_24])
  | succ m ih =>
    intro x2 x4 x5 x6 x7 x8 A q h
    rw [g_X2_leastCost_24] at h
    refine ev_iload 6 dX2_leastCost_24 rfl ?_
    refine ev_iconst (v := 1) dX2_leastCost_26 (by decide) ?_
    refine ev_aload_n 0 dX2_leastCost_27 rfl rfl ?_
    refine ev_getR (r := 16) dX2_leastCost_28 fl_X2_42 (by decide) rfl (by decide) (by decide) rfl ?_
    refine ev_getI dX2_leastCost_31 fl_X2_62 (by decide) rfl (by decide) (by decide) rfl ?_
    refine ev_ishl dX2_leastCost_34 ?_
    refine ev_icmp_ge (tgt := 111) dX2_leastCost_35 (by decide) (fun c5 => ?_) (fun c5 => ?_)
    · have h := if_t c5 h
      refine ev_iload 4 dX2_leastCost_111 rfl ?_
      cases h
      exact ev_iret dX2_leastCost_113 rfl rfl ⟨rfl, rfl⟩
    · have h := if_f c5 h
      refine ev_iload 6 dX2_leastCost_38 rfl ?_
      refine ev_iload 3 dX2_leastCost_40 rfl ?_
      refine ev_iconst (v := -1) dX2_leastCost_42 (by decide) ?_
      refine ev_ixor dX2_leastCost_43 ?_
      refine ev_iand dX2_leastCost_44 ?_
      refine ev_if_eq (tgt := 53) dX2_leastCost_45 (by decide) (fun c6 => ?_) (fun c6 => ?_)
      · have h := if_t c6 h
        refine ev_aload_n 0 dX2_leastCost_53 rfl rfl ?_
        refine ev_aload_n 0 dX2_leastCost_54 rfl rfl ?_
        refine ev_getR (r := 71) dX2_leastCost_55 fl_X2_15 (by decide) rfl (by decide) (by decide) rfl ?_
        refine ev_iload 6 dX2_leastCost_58 rfl ?_
        obtain ⟨q7, e8, h⟩ := bd_c h
        refine ev_callVi (av := [.ref 71, .int x8]) dX2_leastCost_60 (c_X2_addUp_71 n x8  A q7 e8) mk_X2_addUp lk_X2_67 iv_X2_addUp (Or.inl ⟨2, _, by decide, rfl, by decide, rfl, rfl⟩) rfl (by decide) (by decide) (Nat.le_of_ble_eq_true rfl) rfl ?_
        refine ev_istore (ls' := [(9, .int q7.1), (0, .ref 69), (2, .int x2), (4, .int x4), (5, .int x5), (6, .int x6), (7, .int x7), (8, .int x8)]) dX2_leastCost_63 (by decide) rfl ?_
        refine ev_iload 0 dX2_leastCost_65 rfl ?_
        refine ev_iload 6 dX2_leastCost_67 rfl ?_
        refine ev_icmp_ge (tgt := 105) dX2_leastCost_69 (by decide) (fun c9 => ?_) (fun c9 => ?_)
        · have h := if_t c9 h
          refine ev_iinc (v := x8 + 1) (ls' := [(8, .int (x8 + 1)), (9, .int q7.1), (0, .ref 69), (2, .int x2), (4, .int x4), (5, .int x5), (6, .int x6), (7, .int x7)]) 7 dX2_leastCost_105 rfl rfl (by decide) rfl ?_
          refine ev_goto (tgt := 24) dX2_leastCost_108 (by decide) ?_
          refine ev_pick [2, 3, 4, 5, 6, 7, 0] (ls' := [(0, .ref 69), (2, .int x2), (4, .int x4), (5, .int x5), (6, .int x6), (7, .int x7), (8, .int (x8 + 1))]) rfl ?_
          exact ih x2 x4 x5 x6 x7 (x8 + 1) _ q h
        · have h := if_f c9 h
          refine ev_aload_n 1 dX2_leastCost_72 rfl rfl ?_
          refine ev_getR (r := 74) dX2_leastCost_73 fl_X2_24 (by decide) rfl (by decide) (by decide) rfl ?_
          refine ev_iload_n 2 dX2_leastCost_76 rfl rfl ?_
          obtain ⟨c10, h⟩ := if_c h
          refine ev_ialdc 6 dX2_leastCost_77 (by decide) rfl rfl (by decide) c10 ?_
          refine ev_aload_n 1 dX2_leastCost_78 rfl rfl ?_
          refine ev_aload_n 1 dX2_leastCost_79 rfl rfl ?_
          refine ev_getR (r := 72) dX2_leastCost_80 fl_X2_18 (by decide) rfl (by decide) (by decide) rfl ?_
          refine ev_iload 7 dX2_leastCost_83 rfl ?_
          obtain ⟨q11, e12, h⟩ := bd_c h
          refine ev_callVi (av := [.ref 72, .int x8]) dX2_leastCost_85 (c_X2_addUp_72 n x8  q7.2 q11 e12) mk_X2_addUp lk_X2_67 iv_X2_addUp (Or.inl ⟨2, _, by decide, rfl, by decide, rfl, rfl⟩) rfl (by decide) (by decide) (Nat.le_of_ble_eq_true rfl) rfl ?_
          refine ev_iadd dX2_leastCost_88 ?_
          obtain ⟨q13, e14, h⟩ := bd_c h
          refine ev_callSi (av := [.int ((q7.2 74 (x2).toNatClampNeg) + q11.1)]) dX2_leastCost_89 (c_X4_bounded n ((q7.2 74 (x2).toNatClampNeg) + q11.1)  q11.2 q13 e14) mk_X4_bounded lk_X2_79 is_X4_bounded rfl (by decide) (by decide) (Nat.le_of_ble_eq_true rfl) rfl ?_
          refine ev_iload 3 dX2_leastCost_92 rfl ?_
          refine ev_icmp_lt (tgt := 105) dX2_leastCost_94 (by decide) (fun c15 => ?_) (fun c15 => ?_)
          · have h := if_t c15 h
            refine ev_iinc (v := x8 + 1) (ls' := [(8, .int (x8 + 1)), (9, .int q7.1), (0, .ref 69), (2, .int x2), (4, .int x4), (5, .int x5), (6, .int x6), (7, .int x7)]) 7 dX2_leastCost_105 rfl rfl (by decide) rfl ?_
            refine ev_goto (tgt := 24) dX2_leastCost_108 (by decide) ?_
            refine ev_pick [2, 3, 4, 5, 6, 7, 0] (ls' := [(0, .ref 69), (2, .int x2), (4, .int x4), (5, .int x5), (6, .int x6), (7, .int x7), (8, .int (x8 + 1))]) rfl ?_
            exact ih x2 x4 x5 x6 x7 (x8 + 1) _ q h
          · have h := if_f c15 h
            refine ev_iload 7 dX2_leastCost_97 rfl ?_
            refine ev_istore (ls' := [(6, .int x8), (9, .int q7.1), (0, .ref 69), (2, .int x2), (4, .int x4), (5, .int x5), (7, .int x7), (8, .int x8)]) dX2_leastCost_99 (by decide) rfl ?_
            refine ev_iload 1 dX2_leastCost_101 rfl ?_
            refine ev_istore (ls' := [(7, .int q7.1), (6, .int x8), (9, .int q7.1), (0, .ref 69), (2, .int x2), (4, .int x4), (5, .int x5), (8, .int x8)]) dX2_leastCost_103 (by decide) rfl ?_
            refine ev_iinc (v := x8 + 1) (ls' := [(8, .int (x8 + 1)), (7, .int q7.1), (6, .int x8), (9, .int q7.1), (0, .ref 69), (2, .int x2), (4, .int x4), (5, .int x5)]) 7 dX2_leastCost_105 rfl rfl (by decide) rfl ?_
            refine ev_goto (tgt := 24) dX2_leastCost_108 (by decide) ?_
            refine ev_pick [4, 5, 6, 7, 2, 1, 0] (ls' := [(0, .ref 69), (2, .int x2), (4, .int x4), (5, .int x5), (6, .int x8), (7, .int q7.1), (8, .int (x8 + 1))]) rfl ?_
            exact ih x2 x4 x5 x8 q7.1 (x8 + 1) _ q h
      · have h := if_f c6 h
        refine ev_iload 5 dX2_leastCost_48 rfl ?_
        refine ev_goto (tgt := 63) dX2_leastCost_50 (by decide) ?_
        refine ev_istore (ls' := [(9, .int x7), (0, .ref 69), (2, .int x2), (4, .int x4), (5, .int x5), (6, .int x6), (7, .int x7), (8, .int x8)]) dX2_leastCost_63 (by decide) rfl ?_
        refine ev_iload 0 dX2_leastCost_65 rfl ?_
        refine ev_iload 6 dX2_leastCost_67 rfl ?_
        refine ev_icmp_ge (tgt := 105) dX2_leastCost_69 (by decide) (fun c16 => ?_) (fun c16 => ?_)
        · have h := if_t c16 h
          refine ev_iinc (v := x8 + 1) (ls' := [(8, .int (x8 + 1)), (9, .int x7), (0, .ref 69), (2, .int x2), (4, .int x4), (5, .int x5), (6, .int x6), (7, .int x7)]) 7 dX2_leastCost_105 rfl rfl (by decide) rfl ?_
          refine ev_goto (tgt := 24) dX2_leastCost_108 (by decide) ?_
          refine ev_pick [2, 3, 4, 5, 6, 7, 0] (ls' := [(0, .ref 69), (2, .int x2), (4, .int x4), (5, .int x5), (6, .int x6), (7, .int x7), (8, .int (x8 + 1))]) rfl ?_
          exact ih x2 x4 x5 x6 x7 (x8 + 1) _ q h
        · have h := if_f c16 h
          refine ev_aload_n 1 dX2_leastCost_72 rfl rfl ?_
          refine ev_getR (r := 74) dX2_leastCost_73 fl_X2_24 (by decide) rfl (by decide) (by decide) rfl ?_
          refine ev_iload_n 2 dX2_leastCost_76 rfl rfl ?_
          obtain ⟨c17, h⟩ := if_c h
          refine ev_ialdc 6 dX2_leastCost_77 (by decide) rfl rfl (by decide) c17 ?_
          refine ev_aload_n 1 dX2_leastCost_78 rfl rfl ?_
          refine ev_aload_n 1 dX2_leastCost_79 rfl rfl ?_
          refine ev_getR (r := 72) dX2_leastCost_80 fl_X2_18 (by decide) rfl (by decide) (by decide) rfl ?_
          refine ev_iload 7 dX2_leastCost_83 rfl ?_
          obtain ⟨q18, e19, h⟩ := bd_c h
          refine ev_callVi (av := [.ref 72, .int x8]) dX2_leastCost_85 (c_X2_addUp_72 n x8  A q18 e19) mk_X2_addUp lk_X2_67 iv_X2_addUp (Or.inl ⟨2, _, by decide, rfl, by decide, rfl, rfl⟩) rfl (by decide) (by decide) (Nat.le_of_ble_eq_true rfl) rfl ?_
          refine ev_iadd dX2_leastCost_88 ?_
          obtain ⟨q20, e21, h⟩ := bd_c h
          refine ev_callSi (av := [.int ((A 74 (x2).toNatClampNeg) + q18.1)]) dX2_leastCost_89 (c_X4_bounded n ((A 74 (x2).toNatClampNeg) + q18.1)  q18.2 q20 e21) mk_X4_bounded lk_X2_79 is_X4_bounded rfl (by decide) (by decide) (Nat.le_of_ble_eq_true rfl) rfl ?_
          refine ev_iload 3 dX2_leastCost_92 rfl ?_
          refine ev_icmp_lt (tgt := 105) dX2_leastCost_94 (by decide) (fun c22 => ?_) (fun c22 => ?_)
          · have h := if_t c22 h
            refine ev_iinc (v := x8 + 1) (ls' := [(8, .int (x8 + 1)), (9, .int x7), (0, .ref 69), (2, .int x2), (4, .int x4), (5, .int x5), (6, .int x6), (7, .int x7)]) 7 dX2_leastCost_105 rfl rfl (by decide) rfl ?_
            refine ev_goto (tgt := 24) dX2_leastCost_108 (by decide) ?_
            refine ev_pick [2, 3, 4, 5, 6, 7, 0] (ls' := [(0, .ref 69), (2, .int x2), (4, .int x4), (5, .int x5), (6, .int x6), (7, .int x7), (8, .int (x8 + 1))]) rfl ?_
            exact ih x2 x4 x5 x6 x7 (x8 + 1) _ q h
          · have h := if_f c22 h
            refine ev_iload 7 dX2_leastCost_97 rfl ?_
            refine ev_istore (ls' := [(6, .int x8), (9, .int x7), (0, .ref 69), (2, .int x2), (4, .int x4), (5, .int x5), (7, .int x7), (8, .int x8)]) dX2_leastCost_99 (by decide) rfl ?_
            refine ev_iload 1 dX2_leastCost_101 rfl ?_
            refine ev_istore (ls' := [(7, .int x7), (6, .int x8), (9, .int x7), (0, .ref 69), (2, .int x2), (4, .int x4), (5, .int x5), (8, .int x8)]) dX2_leastCost_103 (by decide) rfl ?_
            refine ev_iinc (v := x8 + 1) (ls' := [(8, .int (x8 + 1)), (7, .int x7), (6, .int x8), (9, .int x7), (0, .ref 69), (2, .int x2), (4, .int x4), (5, .int x5)]) 7 dX2_leastCost_105 rfl rfl (by decide) rfl ?_
            refine ev_goto (tgt := 24) dX2_leastCost_108 (by decide) ?_
            refine ev_pick [4, 5, 6, 7, 2, 1, 0] (ls' := [(0, .ref 69), (2, .int x2), (4, .int x4), (5, .int x5), (6, .int x8), (7, .int x7), (8, .int (x8 + 1))]) rfl ?_
            exact ih x2 x4 x5 x8 x7 (x8 + 1) _ q h
def f_X2_leastCost (n : Nat) (p1 : Nat) (x2 : Int32) (x3 : Int32) (x4 : Int32) (A : Mem) : Option (Int32 × Mem) :=
  (f_X2_sumLetters n p1 x3 A).bind fun q1 =>
  (f_X2_usefulForTrust n x2 q1.2).bind fun q3 =>
  g_X2_leastCost_24 n p1 n x2 x4 q3.1 ((-1 : Int32)) ((991 : Int32)) ((0 : Int32)) q3.2
set_option maxRecDepth 100000 in
set_option maxHeartbeats 4000000 in
theorem c_X2_leastCost (n : Nat) (p1 : Nat) (x2 : Int32) (x3 : Int32) (x4 : Int32) (hp1 : p1 < NT) (hk1 : kd p1 = 3) (A : Mem) (q : Int32 × Mem) (h : f_X2_leastCost n p1 x2 x3 x4 A = some q) : Ct yX2_leastCost cX2_leastCost 10 (some .int) 5 [.ref 69, .ref p1, .int x2, .int x3, .int x4] A (RI q) := by
  unfold f_X2_leastCost at h
  refine ct_of (by decide) (Nat.le_of_ble_eq_true rfl) ?_
  show Ev cX2_leastCost 10 RX2 (some .int) 5 none 0 [(0, .ref 69), (1, .ref p1), (2, .int x2), (3, .int x3), (4, .int x4)] [] A (RI q)
  refine ev_aload_n 0 dX2_leastCost_0 rfl rfl ?_
  refine ev_aload_n 1 dX2_leastCost_1 rfl rfl ?_
  refine ev_iload_n 3 dX2_leastCost_2 rfl rfl ?_
  obtain ⟨q1, e2, h⟩ := bd_c h
  refine ev_callVv (av := [.ref p1, .int x3]) dX2_leastCost_3 (c_X2_sumLetters n p1 x3 hp1 hk1 A q1 e2) mk_X2_sumLetters lk_X2_50 iv_X2_sumLetters (Or.inl ⟨2, _, by decide, rfl, by decide, rfl, rfl⟩) rfl (by decide) (by decide) (Nat.le_of_ble_eq_true rfl) rfl ?_
  refine ev_aload_n 0 dX2_leastCost_6 rfl rfl ?_
  refine ev_iload_n 2 dX2_leastCost_7 rfl rfl ?_
  obtain ⟨q3, e4, h⟩ := bd_c h
  refine ev_callVi (av := [.int x2]) dX2_leastCost_8 (c_X2_usefulForTrust n x2  q1.2 q3 e4) mk_X2_usefulForTrust lk_X2_75 iv_X2_usefulForTrust (Or.inl ⟨2, _, by decide, rfl, by decide, rfl, rfl⟩) rfl (by decide) (by decide) (Nat.le_of_ble_eq_true rfl) rfl ?_
  refine ev_istore (ls' := [(5, .int q3.1), (0, .ref 69), (1, .ref p1), (2, .int x2), (3, .int x3), (4, .int x4)]) dX2_leastCost_11 (by decide) rfl ?_
  refine ev_iconst (v := -1) dX2_leastCost_13 (by decide) ?_
  refine ev_istore (ls' := [(6, .int ((-1 : Int32))), (5, .int q3.1), (0, .ref 69), (1, .ref p1), (2, .int x2), (3, .int x3), (4, .int x4)]) dX2_leastCost_14 (by decide) rfl ?_
  refine ev_sipush (v := 991) dX2_leastCost_16 (by decide) ?_
  refine ev_istore (ls' := [(7, .int ((991 : Int32))), (6, .int ((-1 : Int32))), (5, .int q3.1), (0, .ref 69), (1, .ref p1), (2, .int x2), (3, .int x3), (4, .int x4)]) dX2_leastCost_19 (by decide) rfl ?_
  refine ev_iconst (v := 0) dX2_leastCost_21 (by decide) ?_
  refine ev_istore (ls' := [(8, .int ((0 : Int32))), (7, .int ((991 : Int32))), (6, .int ((-1 : Int32))), (5, .int q3.1), (0, .ref 69), (1, .ref p1), (2, .int x2), (3, .int x3), (4, .int x4)]) dX2_leastCost_22 (by decide) rfl ?_
  refine ev_pick [4, 6, 8, 3, 2, 1, 0] (ls' := [(0, .ref 69), (2, .int x2), (4, .int x4), (5, .int q3.1), (6, .int ((-1 : Int32))), (7, .int ((991 : Int32))), (8, .int ((0 : Int32)))]) rfl ?_
  exact (l_X2_leastCost_24 n p1 hp1 hk1 n) x2 x4 q3.1 ((-1 : Int32)) ((991 : Int32)) ((0 : Int32)) _ q h
def f_X9_buy (n : Nat) (x1 : Int32) (x2 : Int32) (x3 : Int32) (A : Mem) : Option (Int32 × Mem) :=
  (f_X9_isBelow n x1 ((6 : Int32)) A).bind fun q1 =>
  if q1.1 = 0 then
    some ((-2 : Int32), q1.2)
  else
    (f_X9_isBelow n x2 ((61 : Int32)) q1.2).bind fun q4 =>
    if q4.1 = 0 then
      some ((-3 : Int32), q4.2)
    else
      if x3 < 0 then
        some ((-3 : Int32), q4.2)
      else
        if x3 ≤ ((100 : Int32)) then
          if ¬ ((0 : Int32)) < 0 ∧ ((0 : Int32)).toNatClampNeg < 2 then
            (f_X2_leastCost n (rf 50 ((0 : Int32)).toNatClampNeg) x1 x2 x3 q4.2).bind fun q11 =>
            some (q11.1, q11.2)
          else
            none
        else
          some ((-3 : Int32), q4.2)
set_option maxRecDepth 100000 in
set_option maxHeartbeats 4000000 in
theorem c_X9_buy (n : Nat) (x1 : Int32) (x2 : Int32) (x3 : Int32) (A : Mem) (q : Int32 × Mem) (h : f_X9_buy n x1 x2 x3 A = some q) : Ct yX9_buy cX9_buy 4 (some .int) 6 [.ref 0, .int x1, .int x2, .int x3] A (RI q) := by
  unfold f_X9_buy at h
  refine ct_of (by decide) (Nat.le_of_ble_eq_true rfl) ?_
  show Ev cX9_buy 4 RX9 (some .int) 6 none 0 [(0, .ref 0), (1, .int x1), (2, .int x2), (3, .int x3)] [] A (RI q)
  refine ev_iload_n 1 dX9_buy_0 rfl rfl ?_
  refine ev_bipush (v := 6) dX9_buy_1 (by decide) ?_
  obtain ⟨q1, e2, h⟩ := bd_c h
  refine ev_callSi (av := [.int x1, .int ((6 : Int32))]) dX9_buy_3 (c_X9_isBelow n x1 ((6 : Int32))  A q1 e2) mk_X9_isBelow lk_X9_93 is_X9_isBelow rfl (by decide) (by decide) (Nat.le_of_ble_eq_true rfl) rfl ?_
  refine ev_if_ne (tgt := 12) dX9_buy_6 (by decide) (fun c3 => ?_) (fun c3 => ?_)
  · have h := if_f c3 h
    refine ev_iload_n 2 dX9_buy_12 rfl rfl ?_
    refine ev_bipush (v := 61) dX9_buy_13 (by decide) ?_
    obtain ⟨q4, e5, h⟩ := bd_c h
    refine ev_callSi (av := [.int x2, .int ((61 : Int32))]) dX9_buy_15 (c_X9_isBelow n x2 ((61 : Int32))  q1.2 q4 e5) mk_X9_isBelow lk_X9_93 is_X9_isBelow rfl (by decide) (by decide) (Nat.le_of_ble_eq_true rfl) rfl ?_
    refine ev_if_eq (tgt := 31) dX9_buy_18 (by decide) (fun c6 => ?_) (fun c6 => ?_)
    · have h := if_t c6 h
      refine ev_bipush (v := -3) dX9_buy_31 (by decide) ?_
      cases h
      exact ev_iret dX9_buy_33 rfl rfl ⟨rfl, rfl⟩
    · have h := if_f c6 h
      refine ev_iload_n 3 dX9_buy_21 rfl rfl ?_
      refine ev_if_lt (tgt := 31) dX9_buy_22 (by decide) (fun c7 => ?_) (fun c7 => ?_)
      · have h := if_t c7 h
        refine ev_bipush (v := -3) dX9_buy_31 (by decide) ?_
        cases h
        exact ev_iret dX9_buy_33 rfl rfl ⟨rfl, rfl⟩
      · have h := if_f c7 h
        refine ev_iload_n 3 dX9_buy_25 rfl rfl ?_
        refine ev_bipush (v := 100) dX9_buy_26 (by decide) ?_
        refine ev_icmp_le (tgt := 34) dX9_buy_28 (by decide) (fun c8 => ?_) (fun c8 => ?_)
        · have h := if_t c8 h
          refine ev_aload_n 0 dX9_buy_34 rfl rfl ?_
          refine ev_getR (r := 69) dX9_buy_35 fl_X9_82 (by decide) rfl (by decide) (by decide) rfl ?_
          refine ev_aload_n 0 dX9_buy_38 rfl rfl ?_
          refine ev_getR (r := 50) dX9_buy_39 fl_X9_62 (by decide) rfl (by decide) (by decide) rfl ?_
          refine ev_iconst (v := 0) dX9_buy_42 (by decide) ?_
          obtain ⟨c9, h⟩ := if_c h
          have e10 := el_50 _ c9.2
          refine ev_aaldc 2 dX9_buy_43 (by decide) rfl (Or.inr rfl) rfl (by decide) c9 e10.1 ?_
          refine ev_iload_n 1 dX9_buy_44 rfl rfl ?_
          refine ev_iload_n 2 dX9_buy_45 rfl rfl ?_
          refine ev_iload_n 3 dX9_buy_46 rfl rfl ?_
          obtain ⟨q11, e12, h⟩ := bd_c h
          refine ev_callVi (av := [.ref (rf 50 ((0 : Int32)).toNatClampNeg), .int x1, .int x2, .int x3]) dX9_buy_47 (c_X2_leastCost n (rf 50 ((0 : Int32)).toNatClampNeg) x1 x2 x3 e10.2.1 e10.2.2 q4.2 q11 e12) mk_X2_leastCost lk_X9_251 iv_X2_leastCost (Or.inl ⟨2, _, by decide, rfl, by decide, rfl, rfl⟩) rfl (by decide) (by decide) (Nat.le_of_ble_eq_true rfl) rfl ?_
          cases h
          exact ev_iret dX9_buy_50 rfl rfl ⟨rfl, rfl⟩
        · have h := if_f c8 h
          refine ev_bipush (v := -3) dX9_buy_31 (by decide) ?_
          cases h
          exact ev_iret dX9_buy_33 rfl rfl ⟨rfl, rfl⟩
  · have h := if_t c3 h
    refine ev_bipush (v := -2) dX9_buy_9 (by decide) ?_
    cases h
    exact ev_iret dX9_buy_11 rfl rfl ⟨rfl, rfl⟩
def f_X5_add (n : Nat) (x1 : Int32) (x2 : Int32) (x3 : Int32) (A : Mem) : Option (Int32 × Mem) :=
  if (A 76 3) < ((12 : Int32)) then
    if ¬ (A 76 3) < 0 ∧ (A 76 3).toNatClampNeg < 12 then
      if ¬ ((st2 A 77 (A 76 3).toNatClampNeg x1) 76 3) < 0 ∧ ((st2 A 77 (A 76 3).toNatClampNeg x1) 76 3).toNatClampNeg < 12 then
        if ¬ ((st2 (st2 A 77 (A 76 3).toNatClampNeg x1) 78 ((st2 A 77 (A 76 3).toNatClampNeg x1) 76 3).toNatClampNeg x2) 76 3) < 0 ∧ ((st2 (st2 A 77 (A 76 3).toNatClampNeg x1) 78 ((st2 A 77 (A 76 3).toNatClampNeg x1) 76 3).toNatClampNeg x2) 76 3).toNatClampNeg < 12 then
          some ((st2 (st2 (st2 (st2 A 77 (A 76 3).toNatClampNeg x1) 78 ((st2 A 77 (A 76 3).toNatClampNeg x1) 76 3).toNatClampNeg x2) 79 ((st2 (st2 A 77 (A 76 3).toNatClampNeg x1) 78 ((st2 A 77 (A 76 3).toNatClampNeg x1) 76 3).toNatClampNeg x2) 76 3).toNatClampNeg x3) 76 3 (((st2 (st2 (st2 A 77 (A 76 3).toNatClampNeg x1) 78 ((st2 A 77 (A 76 3).toNatClampNeg x1) 76 3).toNatClampNeg x2) 79 ((st2 (st2 A 77 (A 76 3).toNatClampNeg x1) 78 ((st2 A 77 (A 76 3).toNatClampNeg x1) 76 3).toNatClampNeg x2) 76 3).toNatClampNeg x3) 76 3) + ((1 : Int32)))) 76 3, st2 (st2 (st2 (st2 A 77 (A 76 3).toNatClampNeg x1) 78 ((st2 A 77 (A 76 3).toNatClampNeg x1) 76 3).toNatClampNeg x2) 79 ((st2 (st2 A 77 (A 76 3).toNatClampNeg x1) 78 ((st2 A 77 (A 76 3).toNatClampNeg x1) 76 3).toNatClampNeg x2) 76 3).toNatClampNeg x3) 76 3 (((st2 (st2 (st2 A 77 (A 76 3).toNatClampNeg x1) 78 ((st2 A 77 (A 76 3).toNatClampNeg x1) 76 3).toNatClampNeg x2) 79 ((st2 (st2 A 77 (A 76 3).toNatClampNeg x1) 78 ((st2 A 77 (A 76 3).toNatClampNeg x1) 76 3).toNatClampNeg x2) 76 3).toNatClampNeg x3) 76 3) + ((1 : Int32))))
        else
          none
      else
        none
    else
      none
  else
    some ((-5 : Int32), A)
set_option maxRecDepth 100000 in
set_option maxHeartbeats 4000000 in
theorem c_X5_add (n : Nat) (x1 : Int32) (x2 : Int32) (x3 : Int32) (A : Mem) (q : Int32 × Mem) (h : f_X5_add n x1 x2 x3 A = some q) : Ct yX5_add cX5_add 4 (some .int) 0 [.ref 76, .int x1, .int x2, .int x3] A (RI q) := by
  unfold f_X5_add at h
  refine ct_of (by decide) (Nat.le_of_ble_eq_true rfl) ?_
  show Ev cX5_add 4 RX5 (some .int) 0 none 0 [(0, .ref 76), (1, .int x1), (2, .int x2), (3, .int x3)] [] A (RI q)
  refine ev_aload_n 0 dX5_add_0 rfl rfl ?_
  refine ev_getI dX5_add_1 fl_X5_21 (by decide) rfl (by decide) (by decide) rfl ?_
  refine ev_bipush (v := 12) dX5_add_4 (by decide) ?_
  refine ev_icmp_lt (tgt := 12) dX5_add_6 (by decide) (fun c1 => ?_) (fun c1 => ?_)
  · have h := if_t c1 h
    refine ev_aload_n 0 dX5_add_12 rfl rfl ?_
    refine ev_getR (r := 77) dX5_add_13 fl_X5_9 (by decide) rfl (by decide) (by decide) rfl ?_
    refine ev_aload_n 0 dX5_add_16 rfl rfl ?_
    refine ev_getI dX5_add_17 fl_X5_21 (by decide) rfl (by decide) (by decide) rfl ?_
    refine ev_iload_n 1 dX5_add_20 rfl rfl ?_
    obtain ⟨c2, h⟩ := if_c h
    refine ev_iastc 12 dX5_add_21 (by decide) rfl rfl (by decide) c2 ?_
    refine ev_aload_n 0 dX5_add_22 rfl rfl ?_
    refine ev_getR (r := 78) dX5_add_23 fl_X5_15 (by decide) rfl (by decide) (by decide) rfl ?_
    refine ev_aload_n 0 dX5_add_26 rfl rfl ?_
    refine ev_getI dX5_add_27 fl_X5_21 (by decide) rfl (by decide) (by decide) rfl ?_
    refine ev_iload_n 2 dX5_add_30 rfl rfl ?_
    obtain ⟨c3, h⟩ := if_c h
    refine ev_iastc 12 dX5_add_31 (by decide) rfl rfl (by decide) c3 ?_
    refine ev_aload_n 0 dX5_add_32 rfl rfl ?_
    refine ev_getR (r := 79) dX5_add_33 fl_X5_18 (by decide) rfl (by decide) (by decide) rfl ?_
    refine ev_aload_n 0 dX5_add_36 rfl rfl ?_
    refine ev_getI dX5_add_37 fl_X5_21 (by decide) rfl (by decide) (by decide) rfl ?_
    refine ev_iload_n 3 dX5_add_40 rfl rfl ?_
    obtain ⟨c4, h⟩ := if_c h
    refine ev_iastc 12 dX5_add_41 (by decide) rfl rfl (by decide) c4 ?_
    refine ev_aload_n 0 dX5_add_42 rfl rfl ?_
    refine ev_dup dX5_add_43 rfl ?_
    refine ev_getI dX5_add_44 fl_X5_21 (by decide) rfl (by decide) (by decide) rfl ?_
    refine ev_iconst (v := 1) dX5_add_47 (by decide) ?_
    refine ev_iadd dX5_add_48 ?_
    refine ev_put2 dX5_add_49 fl_X5_21 pk_5_3 (by decide) rfl (by decide) (by decide) rfl ?_
    refine ev_aload_n 0 dX5_add_52 rfl rfl ?_
    refine ev_getI dX5_add_53 fl_X5_21 (by decide) rfl (by decide) (by decide) rfl ?_
    cases h
    exact ev_iret dX5_add_56 rfl rfl ⟨rfl, rfl⟩
  · have h := if_f c1 h
    refine ev_bipush (v := -5) dX5_add_9 (by decide) ?_
    cases h
    exact ev_iret dX5_add_11 rfl rfl ⟨rfl, rfl⟩
def f_X5_addQuestion (n : Nat) (x1 : Int32) (x2 : Int32) (A : Mem) : Option (Int32 × Mem) :=
  (f_X5_add n x1 x2 ((-1 : Int32)) A).bind fun q1 =>
  some (q1.1, q1.2)
set_option maxRecDepth 100000 in
set_option maxHeartbeats 4000000 in
theorem c_X5_addQuestion (n : Nat) (x1 : Int32) (x2 : Int32) (A : Mem) (q : Int32 × Mem) (h : f_X5_addQuestion n x1 x2 A = some q) : Ct yX5_addQuestion cX5_addQuestion 3 (some .int) 1 [.ref 76, .int x1, .int x2] A (RI q) := by
  unfold f_X5_addQuestion at h
  refine ct_of (by decide) (Nat.le_of_ble_eq_true rfl) ?_
  show Ev cX5_addQuestion 3 RX5 (some .int) 1 none 0 [(0, .ref 76), (1, .int x1), (2, .int x2)] [] A (RI q)
  refine ev_aload_n 0 dX5_addQuestion_0 rfl rfl ?_
  refine ev_iload_n 1 dX5_addQuestion_1 rfl rfl ?_
  refine ev_iload_n 2 dX5_addQuestion_2 rfl rfl ?_
  refine ev_iconst (v := -1) dX5_addQuestion_3 (by decide) ?_
  obtain ⟨q1, e2, h⟩ := bd_c h
  refine ev_callVi (av := [.int x1, .int x2, .int ((-1 : Int32))]) dX5_addQuestion_4 (c_X5_add n x1 x2 ((-1 : Int32))  A q1 e2) mk_X5_add lk_X5_25 iv_X5_add (Or.inl ⟨5, _, by decide, rfl, by decide, rfl, rfl⟩) rfl (by decide) (by decide) (Nat.le_of_ble_eq_true rfl) rfl ?_
  cases h
  exact ev_iret dX5_addQuestion_7 rfl rfl ⟨rfl, rfl⟩
def f_X9_question (n : Nat) (x1 : Int32) (x2 : Int32) (x3 : Int32) (x4 : Int32) (A : Mem) : Option (Int32 × Mem) :=
  (f_X9_refuseTopic n x2 x3 x4 A).bind fun q1 =>
  if q1.1 = 0 then
    (f_X9_isBelow n x1 ((61 : Int32)) q1.2).bind fun q4 =>
    if q4.1 = 0 then
      some ((-3 : Int32), q4.2)
    else
      (f_X9_topicOf n x2 x3 x4 q4.2).bind fun q7 =>
      (f_X5_addQuestion n x1 q7.1 q7.2).bind fun q9 =>
      some (q9.1, q9.2)
  else
    some (q1.1, q1.2)
set_option maxRecDepth 100000 in
set_option maxHeartbeats 4000000 in
theorem c_X9_question (n : Nat) (x1 : Int32) (x2 : Int32) (x3 : Int32) (x4 : Int32) (A : Mem) (q : Int32 × Mem) (h : f_X9_question n x1 x2 x3 x4 A = some q) : Ct yX9_question cX9_question 6 (some .int) 2 [.ref 0, .int x1, .int x2, .int x3, .int x4] A (RI q) := by
  unfold f_X9_question at h
  refine ct_of (by decide) (Nat.le_of_ble_eq_true rfl) ?_
  show Ev cX9_question 6 RX9 (some .int) 2 none 0 [(0, .ref 0), (1, .int x1), (2, .int x2), (3, .int x3), (4, .int x4)] [] A (RI q)
  refine ev_iload_n 2 dX9_question_0 rfl rfl ?_
  refine ev_iload_n 3 dX9_question_1 rfl rfl ?_
  refine ev_iload 4 dX9_question_2 rfl ?_
  obtain ⟨q1, e2, h⟩ := bd_c h
  refine ev_callSi (av := [.int x2, .int x3, .int x4]) dX9_question_4 (c_X9_refuseTopic n x2 x3 x4  A q1 e2) mk_X9_refuseTopic lk_X9_107 is_X9_refuseTopic rfl (by decide) (by decide) (Nat.le_of_ble_eq_true rfl) rfl ?_
  refine ev_istore (ls' := [(5, .int q1.1), (0, .ref 0), (1, .int x1), (2, .int x2), (3, .int x3), (4, .int x4)]) dX9_question_7 (by decide) rfl ?_
  refine ev_iload 0 dX9_question_9 rfl ?_
  refine ev_if_eq (tgt := 17) dX9_question_11 (by decide) (fun c3 => ?_) (fun c3 => ?_)
  · have h := if_t c3 h
    refine ev_iload_n 2 dX9_question_17 rfl rfl ?_
    refine ev_bipush (v := 61) dX9_question_18 (by decide) ?_
    obtain ⟨q4, e5, h⟩ := bd_c h
    refine ev_callSi (av := [.int x1, .int ((61 : Int32))]) dX9_question_20 (c_X9_isBelow n x1 ((61 : Int32))  q1.2 q4 e5) mk_X9_isBelow lk_X9_93 is_X9_isBelow rfl (by decide) (by decide) (Nat.le_of_ble_eq_true rfl) rfl ?_
    refine ev_if_eq (tgt := 44) dX9_question_23 (by decide) (fun c6 => ?_) (fun c6 => ?_)
    · have h := if_t c6 h
      refine ev_bipush (v := -3) dX9_question_44 (by decide) ?_
      cases h
      exact ev_iret dX9_question_46 rfl rfl ⟨rfl, rfl⟩
    · have h := if_f c6 h
      refine ev_aload_n 1 dX9_question_26 rfl rfl ?_
      refine ev_getR (r := 76) dX9_question_27 fl_X9_89 (by decide) rfl (by decide) (by decide) rfl ?_
      refine ev_iload_n 2 dX9_question_30 rfl rfl ?_
      refine ev_iload_n 3 dX9_question_31 rfl rfl ?_
      refine ev_iload_n 4 dX9_question_32 rfl rfl ?_
      refine ev_iload 5 dX9_question_33 rfl ?_
      obtain ⟨q7, e8, h⟩ := bd_c h
      refine ev_callSi (av := [.int x2, .int x3, .int x4]) dX9_question_35 (c_X9_topicOf n x2 x3 x4  q4.2 q7 e8) mk_X9_topicOf lk_X9_111 is_X9_topicOf rfl (by decide) (by decide) (Nat.le_of_ble_eq_true rfl) rfl ?_
      obtain ⟨q9, e10, h⟩ := bd_c h
      refine ev_callVi (av := [.int x1, .int q7.1]) dX9_question_38 (c_X5_addQuestion n x1 q7.1  q7.2 q9 e10) mk_X5_addQuestion lk_X9_255 iv_X5_addQuestion (Or.inl ⟨5, _, by decide, rfl, by decide, rfl, rfl⟩) rfl (by decide) (by decide) (Nat.le_of_ble_eq_true rfl) rfl ?_
      refine ev_goto (tgt := 46) dX9_question_41 (by decide) ?_
      cases h
      exact ev_iret dX9_question_46 rfl rfl ⟨rfl, rfl⟩
  · have h := if_f c3 h
    refine ev_iload 0 dX9_question_14 rfl ?_
    cases h
    exact ev_iret dX9_question_16 rfl rfl ⟨rfl, rfl⟩
def f_X5_addPay (n : Nat) (x1 : Int32) (x2 : Int32) (A : Mem) : Option (Int32 × Mem) :=
  (f_X5_add n x1 ((0 : Int32)) x2 A).bind fun q1 =>
  some (q1.1, q1.2)
set_option maxRecDepth 100000 in
set_option maxHeartbeats 4000000 in
theorem c_X5_addPay (n : Nat) (x1 : Int32) (x2 : Int32) (A : Mem) (q : Int32 × Mem) (h : f_X5_addPay n x1 x2 A = some q) : Ct yX5_addPay cX5_addPay 3 (some .int) 1 [.ref 76, .int x1, .int x2] A (RI q) := by
  unfold f_X5_addPay at h
  refine ct_of (by decide) (Nat.le_of_ble_eq_true rfl) ?_
  show Ev cX5_addPay 3 RX5 (some .int) 1 none 0 [(0, .ref 76), (1, .int x1), (2, .int x2)] [] A (RI q)
  refine ev_aload_n 0 dX5_addPay_0 rfl rfl ?_
  refine ev_iload_n 1 dX5_addPay_1 rfl rfl ?_
  refine ev_iconst (v := 0) dX5_addPay_2 (by decide) ?_
  refine ev_iload_n 2 dX5_addPay_3 rfl rfl ?_
  obtain ⟨q1, e2, h⟩ := bd_c h
  refine ev_callVi (av := [.int x1, .int ((0 : Int32)), .int x2]) dX5_addPay_4 (c_X5_add n x1 ((0 : Int32)) x2  A q1 e2) mk_X5_add lk_X5_25 iv_X5_add (Or.inl ⟨5, _, by decide, rfl, by decide, rfl, rfl⟩) rfl (by decide) (by decide) (Nat.le_of_ble_eq_true rfl) rfl ?_
  cases h
  exact ev_iret dX5_addPay_7 rfl rfl ⟨rfl, rfl⟩
def f_X9_pay (n : Nat) (x1 : Int32) (x2 : Int32) (A : Mem) : Option (Int32 × Mem) :=
  (f_X9_refuseDayOf n x2 ((6 : Int32)) x1 A).bind fun q1 =>
  if q1.1 = 0 then
    (f_X5_addPay n x1 x2 q1.2).bind fun q4 =>
    some (q4.1, q4.2)
  else
    some (q1.1, q1.2)
set_option maxRecDepth 100000 in
set_option maxHeartbeats 4000000 in
theorem c_X9_pay (n : Nat) (x1 : Int32) (x2 : Int32) (A : Mem) (q : Int32 × Mem) (h : f_X9_pay n x1 x2 A = some q) : Ct yX9_pay cX9_pay 4 (some .int) 2 [.ref 0, .int x1, .int x2] A (RI q) := by
  unfold f_X9_pay at h
  refine ct_of (by decide) (Nat.le_of_ble_eq_true rfl) ?_
  show Ev cX9_pay 4 RX9 (some .int) 2 none 0 [(0, .ref 0), (1, .int x1), (2, .int x2)] [] A (RI q)
  refine ev_iload_n 2 dX9_pay_0 rfl rfl ?_
  refine ev_bipush (v := 6) dX9_pay_1 (by decide) ?_
  refine ev_iload_n 1 dX9_pay_3 rfl rfl ?_
  obtain ⟨q1, e2, h⟩ := bd_c h
  refine ev_callSi (av := [.int x2, .int ((6 : Int32)), .int x1]) dX9_pay_4 (c_X9_refuseDayOf n x2 ((6 : Int32)) x1  A q1 e2) mk_X9_refuseDayOf lk_X9_141 is_X9_refuseDayOf rfl (by decide) (by decide) (Nat.le_of_ble_eq_true rfl) rfl ?_
  refine ev_istore_n (ls' := [(3, .int q1.1), (0, .ref 0), (1, .int x1), (2, .int x2)]) dX9_pay_7 rfl (by decide) rfl ?_
  refine ev_iload_n 0 dX9_pay_8 rfl rfl ?_
  refine ev_if_eq (tgt := 16) dX9_pay_9 (by decide) (fun c3 => ?_) (fun c3 => ?_)
  · have h := if_t c3 h
    refine ev_aload_n 1 dX9_pay_16 rfl rfl ?_
    refine ev_getR (r := 76) dX9_pay_17 fl_X9_89 (by decide) rfl (by decide) (by decide) rfl ?_
    refine ev_iload_n 2 dX9_pay_20 rfl rfl ?_
    refine ev_iload_n 3 dX9_pay_21 rfl rfl ?_
    obtain ⟨q4, e5, h⟩ := bd_c h
    refine ev_callVi (av := [.int x1, .int x2]) dX9_pay_22 (c_X5_addPay n x1 x2  q1.2 q4 e5) mk_X5_addPay lk_X9_258 iv_X5_addPay (Or.inl ⟨5, _, by decide, rfl, by decide, rfl, rfl⟩) rfl (by decide) (by decide) (Nat.le_of_ble_eq_true rfl) rfl ?_
    cases h
    exact ev_iret dX9_pay_25 rfl rfl ⟨rfl, rfl⟩
  · have h := if_f c3 h
    refine ev_iload_n 0 dX9_pay_12 rfl rfl ?_
    refine ev_goto (tgt := 25) dX9_pay_13 (by decide) ?_
    cases h
    exact ev_iret dX9_pay_25 rfl rfl ⟨rfl, rfl⟩
def g_X5_fit_22_2 (n : Nat) (p1 : Nat) : Nat → Int32 → Mem → Option (Int32 × Mem)
  | 0, _, _ => none
  | m + 1, x3, A =>
    if (A 76 3) ≤ x3 then
      some ((1 : Int32), A)
    else
      if ¬ x3 < 0 ∧ (x3).toNatClampNeg < 12 then
        if (A 79 (x3).toNatClampNeg) = ((-1 : Int32)) then
          (f_X4_conclude n p1 (A 78 (x3).toNatClampNeg) (A 77 (x3).toNatClampNeg) A).bind fun q7 =>
          if q7.1 = ((-1 : Int32)) then
            g_X5_fit_22_2 n p1 m (x3 + 1) q7.2
          else
            some ((0 : Int32), q7.2)
        else
          (f_X4_trustIn n p1 (A 79 (x3).toNatClampNeg) (A 77 (x3).toNatClampNeg) A).bind fun q4 =>
          if q4.1 < ((50 : Int32)) then
            some ((0 : Int32), q4.2)
          else
            g_X5_fit_22_2 n p1 m (x3 + 1) q4.2
      else
        none
set_option maxRecDepth 100000 in
set_option maxHeartbeats 4000000 in
theorem l_X5_fit_22_2 (n : Nat) (p1 : Nat) (hp1 : p1 < NT) (hk1 : kd p1 = 3) : ∀ (m : Nat) (x3 : Int32) (A : Mem) (q : Int32 × Mem), g_X5_fit_22_2 n p1 m x3 A = some q → Ev cX5_fit 5 RX5 (some .boolean) 6 none 2 [(0, .ref 76), (1, .ref p1), (2, .ref 22), (3, .int x3)] [] A (RI q) := by
  intro m
  induction m with
  | zero => intro x3 A q h; exact absurd h (by simp [g_X5_fit_22_2])
  | succ m ih =>
    intro x3 A q h
    rw [g_X5_fit_22_2] at h
    refine ev_iload_n 3 dX5_fit_2 rfl rfl ?_
    refine ev_aload_n 0 dX5_fit_3 rfl rfl ?_
    refine ev_getI dX5_fit_4 fl_X5_21 (by decide) rfl (by decide) (by decide) rfl ?_
    refine ev_icmp_ge (tgt := 91) dX5_fit_7 (by decide) (fun c1 => ?_) (fun c1 => ?_)
    · have h := if_t c1 h
      refine ev_iconst (v := 1) dX5_fit_91 (by decide) ?_
      cases h
      exact ev_iret dX5_fit_92 rfl rfl ⟨rfl, rfl⟩
    · have h := if_f c1 h
      refine ev_aload_n 0 dX5_fit_10 rfl rfl ?_
      refine ev_getR (r := 79) dX5_fit_11 fl_X5_18 (by decide) rfl (by decide) (by decide) rfl ?_
      refine ev_iload_n 3 dX5_fit_14 rfl rfl ?_
      obtain ⟨c2, h⟩ := if_c h
      refine ev_ialdc 12 dX5_fit_15 (by decide) rfl rfl (by decide) c2 ?_
      refine ev_iconst (v := -1) dX5_fit_16 (by decide) ?_
      refine ev_icmp_ne (tgt := 49) dX5_fit_17 (by decide) (fun c3 => ?_) (fun c3 => ?_)
      · have h := if_f c3 h
        refine ev_aload_n 2 dX5_fit_49 rfl rfl ?_
        refine ev_aload_n 1 dX5_fit_50 rfl rfl ?_
        refine ev_aload_n 0 dX5_fit_51 rfl rfl ?_
        refine ev_getR (r := 79) dX5_fit_52 fl_X5_18 (by decide) rfl (by decide) (by decide) rfl ?_
        refine ev_iload_n 3 dX5_fit_55 rfl rfl ?_
        refine ev_ialdc 12 dX5_fit_56 (by decide) rfl rfl (by decide) c2 ?_
        refine ev_aload_n 0 dX5_fit_57 rfl rfl ?_
        refine ev_getR (r := 77) dX5_fit_58 fl_X5_9 (by decide) rfl (by decide) (by decide) rfl ?_
        refine ev_iload_n 3 dX5_fit_61 rfl rfl ?_
        refine ev_ialdc 12 dX5_fit_62 (by decide) rfl rfl (by decide) c2 ?_
        obtain ⟨q4, e5, h⟩ := bd_c h
        refine ev_callVi (av := [.ref p1, .int (A 79 (x3).toNatClampNeg), .int (A 77 (x3).toNatClampNeg)]) dX5_fit_63 (c_X4_trustIn n p1 (A 79 (x3).toNatClampNeg) (A 77 (x3).toNatClampNeg) hp1 hk1 A q4 e5) mk_X4_trustIn lk_X5_35 iv_X4_trustIn (Or.inl ⟨4, _, by decide, rfl, by decide, rfl, rfl⟩) rfl (by decide) (by decide) (Nat.le_of_ble_eq_true rfl) rfl ?_
        refine ev_bipush (v := 50) dX5_fit_66 (by decide) ?_
        refine ev_icmp_lt (tgt := 75) dX5_fit_68 (by decide) (fun c6 => ?_) (fun c6 => ?_)
        · have h := if_t c6 h
          refine ev_iconst (v := 0) dX5_fit_75 (by decide) ?_
          refine ev_istore (ls' := [(4, .int ((0 : Int32))), (0, .ref 76), (1, .ref p1), (2, .ref 22), (3, .int x3)]) dX5_fit_76 (by decide) rfl ?_
          refine ev_iload 0 dX5_fit_78 rfl ?_
          refine ev_if_ne (tgt := 85) dX5_fit_80 (by decide) (fun hh => absurd hh (by decide)) (fun _ => ?_)
          refine ev_iconst (v := 0) dX5_fit_83 (by decide) ?_
          cases h
          exact ev_iret dX5_fit_84 rfl rfl ⟨rfl, rfl⟩
        · have h := if_f c6 h
          refine ev_iconst (v := 1) dX5_fit_71 (by decide) ?_
          refine ev_goto (tgt := 76) dX5_fit_72 (by decide) ?_
          refine ev_istore (ls' := [(4, .int ((1 : Int32))), (0, .ref 76), (1, .ref p1), (2, .ref 22), (3, .int x3)]) dX5_fit_76 (by decide) rfl ?_
          refine ev_iload 0 dX5_fit_78 rfl ?_
          refine ev_if_ne (tgt := 85) dX5_fit_80 (by decide) (fun _ => ?_) (fun hh => absurd hh (by decide))
          refine ev_iinc (v := x3 + 1) (ls' := [(3, .int (x3 + 1)), (4, .int ((1 : Int32))), (0, .ref 76), (1, .ref p1), (2, .ref 22)]) 4 dX5_fit_85 rfl rfl (by decide) rfl ?_
          refine ev_goto (tgt := 2) dX5_fit_88 (by decide) ?_
          refine ev_pick [2, 3, 4, 0] (ls' := [(0, .ref 76), (1, .ref p1), (2, .ref 22), (3, .int (x3 + 1))]) rfl ?_
          exact ih (x3 + 1) _ q h
      · have h := if_t c3 h
        refine ev_aload_n 2 dX5_fit_20 rfl rfl ?_
        refine ev_aload_n 1 dX5_fit_21 rfl rfl ?_
        refine ev_aload_n 0 dX5_fit_22 rfl rfl ?_
        refine ev_getR (r := 78) dX5_fit_23 fl_X5_15 (by decide) rfl (by decide) (by decide) rfl ?_
        refine ev_iload_n 3 dX5_fit_26 rfl rfl ?_
        refine ev_ialdc 12 dX5_fit_27 (by decide) rfl rfl (by decide) c2 ?_
        refine ev_aload_n 0 dX5_fit_28 rfl rfl ?_
        refine ev_getR (r := 77) dX5_fit_29 fl_X5_9 (by decide) rfl (by decide) (by decide) rfl ?_
        refine ev_iload_n 3 dX5_fit_32 rfl rfl ?_
        refine ev_ialdc 12 dX5_fit_33 (by decide) rfl rfl (by decide) c2 ?_
        obtain ⟨q7, e8, h⟩ := bd_c h
        refine ev_callVi (av := [.ref p1, .int (A 78 (x3).toNatClampNeg), .int (A 77 (x3).toNatClampNeg)]) dX5_fit_34 (c_X4_conclude n p1 (A 78 (x3).toNatClampNeg) (A 77 (x3).toNatClampNeg) hp1 hk1 A q7 e8) mk_X4_conclude lk_X5_29 iv_X4_conclude (Or.inl ⟨4, _, by decide, rfl, by decide, rfl, rfl⟩) rfl (by decide) (by decide) (Nat.le_of_ble_eq_true rfl) rfl ?_
        refine ev_iconst (v := -1) dX5_fit_37 (by decide) ?_
        refine ev_icmp_ne (tgt := 45) dX5_fit_38 (by decide) (fun c9 => ?_) (fun c9 => ?_)
        · have h := if_f c9 h
          refine ev_iconst (v := 0) dX5_fit_45 (by decide) ?_
          refine ev_goto (tgt := 76) dX5_fit_46 (by decide) ?_
          refine ev_istore (ls' := [(4, .int ((0 : Int32))), (0, .ref 76), (1, .ref p1), (2, .ref 22), (3, .int x3)]) dX5_fit_76 (by decide) rfl ?_
          refine ev_iload 0 dX5_fit_78 rfl ?_
          refine ev_if_ne (tgt := 85) dX5_fit_80 (by decide) (fun hh => absurd hh (by decide)) (fun _ => ?_)
          refine ev_iconst (v := 0) dX5_fit_83 (by decide) ?_
          cases h
          exact ev_iret dX5_fit_84 rfl rfl ⟨rfl, rfl⟩
        · have h := if_t c9 h
          refine ev_iconst (v := 1) dX5_fit_41 (by decide) ?_
          refine ev_goto (tgt := 76) dX5_fit_42 (by decide) ?_
          refine ev_istore (ls' := [(4, .int ((1 : Int32))), (0, .ref 76), (1, .ref p1), (2, .ref 22), (3, .int x3)]) dX5_fit_76 (by decide) rfl ?_
          refine ev_iload 0 dX5_fit_78 rfl ?_
          refine ev_if_ne (tgt := 85) dX5_fit_80 (by decide) (fun _ => ?_) (fun hh => absurd hh (by decide))
          refine ev_iinc (v := x3 + 1) (ls' := [(3, .int (x3 + 1)), (4, .int ((1 : Int32))), (0, .ref 76), (1, .ref p1), (2, .ref 22)]) 4 dX5_fit_85 rfl rfl (by decide) rfl ?_
          refine ev_goto (tgt := 2) dX5_fit_88 (by decide) ?_
          refine ev_pick [2, 3, 4, 0] (ls' := [(0, .ref 76), (1, .ref p1), (2, .ref 22), (3, .int (x3 + 1))]) rfl ?_
          exact ih (x3 + 1) _ q h
def f_X5_fit_22 (n : Nat) (p1 : Nat) (A : Mem) : Option (Int32 × Mem) :=
  g_X5_fit_22_2 n p1 n ((0 : Int32)) A
set_option maxRecDepth 100000 in
set_option maxHeartbeats 4000000 in
theorem c_X5_fit_22 (n : Nat) (p1 : Nat) (hp1 : p1 < NT) (hk1 : kd p1 = 3) (A : Mem) (q : Int32 × Mem) (h : f_X5_fit_22 n p1 A = some q) : Ct yX5_fit cX5_fit 5 (some .boolean) 6 [.ref 76, .ref p1, .ref 22] A (RI q) := by
  unfold f_X5_fit_22 at h
  refine ct_of (by decide) (Nat.le_of_ble_eq_true rfl) ?_
  show Ev cX5_fit 5 RX5 (some .boolean) 6 none 0 [(0, .ref 76), (1, .ref p1), (2, .ref 22)] [] A (RI q)
  refine ev_iconst (v := 0) dX5_fit_0 (by decide) ?_
  refine ev_istore_n (ls' := [(3, .int ((0 : Int32))), (0, .ref 76), (1, .ref p1), (2, .ref 22)]) dX5_fit_1 rfl (by decide) rfl ?_
  refine ev_pick [1, 2, 3, 0] (ls' := [(0, .ref 76), (1, .ref p1), (2, .ref 22), (3, .int ((0 : Int32)))]) rfl ?_
  exact (l_X5_fit_22_2 n p1 hp1 hk1 n) ((0 : Int32)) _ q h
def g_X9_which_4 (n : Nat) : Nat → Int32 → Int32 → Mem → Option (Int32 × Mem)
  | 0, _, _, _ => none
  | m + 1, x1, x2, A =>
    if ((2 : Int32)) ≤ x2 then
      some (x1, A)
    else
      if ¬ x2 < 0 ∧ (x2).toNatClampNeg < 2 then
        (f_X5_fit_22 n (rf 50 (x2).toNatClampNeg) A).bind fun q4 =>
        if q4.1 = 0 then
          g_X9_which_4 n  m x1 (x2 + 1) q4.2
        else
          g_X9_which_4 n  m (x1 ||| (((1 : Int32)) <<< (x2 &&& 31))) (x2 + 1) q4.2
      else
        none
set_option maxRecDepth 100000 in
set_option maxHeartbeats 4000000 in
theorem l_X9_which_4 (n : Nat) : ∀ (m : Nat) (x1 : Int32) (x2 : Int32) (A : Mem) (q : Int32 × Mem), g_X9_which_4 n  m x1 x2 A = some q → Ev cX9_which 3 RX9 (some .int) 7 none 4 [(0, .ref 0), (1, .int x1), (2, .int x2)] [] A (RI q) := by
  intro m
  induction m with
  | zero => intro x1 x2 A q h; exact absurd h (by simp [g_X9_which_4])
  | succ m ih =>
    intro x1 x2 A q h
    rw [g_X9_which_4] at h
    refine ev_iload_n 2 dX9_which_4 rfl rfl ?_
    refine ev_iconst (v := 2) dX9_which_5 (by decide) ?_
    refine ev_icmp_ge (tgt := 41) dX9_which_6 (by decide) (fun c1 => ?_) (fun c1 => ?_)
    · have h := if_t c1 h
      refine ev_iload_n 1 dX9_which_41 rfl rfl ?_
      cases h
      exact ev_iret dX9_which_42 rfl rfl ⟨rfl, rfl⟩
    · have h := if_f c1 h
      refine ev_aload_n 0 dX9_which_9 rfl rfl ?_
      refine ev_getR (r := 76) dX9_which_10 fl_X9_89 (by decide) rfl (by decide) (by decide) rfl ?_
      refine ev_aload_n 0 dX9_which_13 rfl rfl ?_
      refine ev_getR (r := 50) dX9_which_14 fl_X9_62 (by decide) rfl (by decide) (by decide) rfl ?_
      refine ev_iload_n 2 dX9_which_17 rfl rfl ?_
      obtain ⟨c2, h⟩ := if_c h
      have e3 := el_50 _ c2.2
      refine ev_aaldc 2 dX9_which_18 (by decide) rfl (Or.inr rfl) rfl (by decide) c2 e3.1 ?_
      refine ev_aload_n 0 dX9_which_19 rfl rfl ?_
      refine ev_getR (r := 22) dX9_which_20 fl_X9_73 (by decide) rfl (by decide) (by decide) rfl ?_
      obtain ⟨q4, e5, h⟩ := bd_c h
      refine ev_callVi (av := [.ref (rf 50 (x2).toNatClampNeg), .ref 22]) dX9_which_23 (c_X5_fit_22 n (rf 50 (x2).toNatClampNeg) e3.2.1 e3.2.2 A q4 e5) mk_X5_fit lk_X9_261 iv_X5_fit (Or.inl ⟨5, _, by decide, rfl, by decide, rfl, rfl⟩) rfl (by decide) (by decide) (Nat.le_of_ble_eq_true rfl) rfl ?_
      refine ev_if_eq (tgt := 35) dX9_which_26 (by decide) (fun c6 => ?_) (fun c6 => ?_)
      · have h := if_t c6 h
        refine ev_iinc (v := x2 + 1) (ls' := [(2, .int (x2 + 1)), (0, .ref 0), (1, .int x1)]) 2 dX9_which_35 rfl rfl (by decide) rfl ?_
        refine ev_goto (tgt := 4) dX9_which_38 (by decide) ?_
        refine ev_pick [1, 2, 0] (ls' := [(0, .ref 0), (1, .int x1), (2, .int (x2 + 1))]) rfl ?_
        exact ih x1 (x2 + 1) _ q h
      · have h := if_f c6 h
        refine ev_iload_n 1 dX9_which_29 rfl rfl ?_
        refine ev_iconst (v := 1) dX9_which_30 (by decide) ?_
        refine ev_iload_n 2 dX9_which_31 rfl rfl ?_
        refine ev_ishl dX9_which_32 ?_
        refine ev_ior dX9_which_33 ?_
        refine ev_istore_n (ls' := [(1, .int (x1 ||| (((1 : Int32)) <<< (x2 &&& 31)))), (0, .ref 0), (2, .int x2)]) dX9_which_34 rfl (by decide) rfl ?_
        refine ev_iinc (v := x2 + 1) (ls' := [(2, .int (x2 + 1)), (1, .int (x1 ||| (((1 : Int32)) <<< (x2 &&& 31)))), (0, .ref 0)]) 2 dX9_which_35 rfl rfl (by decide) rfl ?_
        refine ev_goto (tgt := 4) dX9_which_38 (by decide) ?_
        refine ev_pick [2, 1, 0] (ls' := [(0, .ref 0), (1, .int (x1 ||| (((1 : Int32)) <<< (x2 &&& 31)))), (2, .int (x2 + 1))]) rfl ?_
        exact ih (x1 ||| (((1 : Int32)) <<< (x2 &&& 31))) (x2 + 1) _ q h
def f_X9_which (n : Nat) (A : Mem) : Option (Int32 × Mem) :=
  g_X9_which_4 n  n ((0 : Int32)) ((0 : Int32)) A
set_option maxRecDepth 100000 in
set_option maxHeartbeats 4000000 in
theorem c_X9_which (n : Nat) (A : Mem) (q : Int32 × Mem) (h : f_X9_which n  A = some q) : Ct yX9_which cX9_which 3 (some .int) 7 [.ref 0] A (RI q) := by
  unfold f_X9_which at h
  refine ct_of (by decide) (Nat.le_of_ble_eq_true rfl) ?_
  show Ev cX9_which 3 RX9 (some .int) 7 none 0 [(0, .ref 0)] [] A (RI q)
  refine ev_iconst (v := 0) dX9_which_0 (by decide) ?_
  refine ev_istore_n (ls' := [(1, .int ((0 : Int32))), (0, .ref 0)]) dX9_which_1 rfl (by decide) rfl ?_
  refine ev_iconst (v := 0) dX9_which_2 (by decide) ?_
  refine ev_istore_n (ls' := [(2, .int ((0 : Int32))), (1, .int ((0 : Int32))), (0, .ref 0)]) dX9_which_3 rfl (by decide) rfl ?_
  refine ev_pick [2, 1, 0] (ls' := [(0, .ref 0), (1, .int ((0 : Int32))), (2, .int ((0 : Int32)))]) rfl ?_
  exact (l_X9_which_4 n   n) ((0 : Int32)) ((0 : Int32)) _ q h
def f_X9_warning (n : Nat) (x1 : Int32) (x2 : Int32) (x3 : Int32) (A : Mem) : Option (Int32 × Mem) :=
  (f_X9_refuseDayOf n x1 ((3 : Int32)) x2 A).bind fun q1 =>
  if q1.1 = 0 then
    (f_X9_isBelow n x3 ((2 : Int32)) q1.2).bind fun q4 =>
    if q4.1 = 0 then
      some ((-3 : Int32), q4.2)
    else
      if ¬ x1 < 0 ∧ (x1).toNatClampNeg < 3 then
        if x3 = 0 then
          some (if ((0 : Int32)) < (x2 - (q4.2 9 (x1).toNatClampNeg)) then x2 - (q4.2 9 (x1).toNatClampNeg) else (0 : Int32), q4.2)
        else
          some (if ((0 : Int32)) < (-(x2 - (q4.2 9 (x1).toNatClampNeg))) then -(x2 - (q4.2 9 (x1).toNatClampNeg)) else (0 : Int32), q4.2)
      else
        none
  else
    some (q1.1, q1.2)
set_option maxRecDepth 100000 in
set_option maxHeartbeats 4000000 in
theorem c_X9_warning (n : Nat) (x1 : Int32) (x2 : Int32) (x3 : Int32) (A : Mem) (q : Int32 × Mem) (h : f_X9_warning n x1 x2 x3 A = some q) : Ct yX9_warning cX9_warning 6 (some .int) 2 [.ref 0, .int x1, .int x2, .int x3] A (RI q) := by
  unfold f_X9_warning at h
  refine ct_of (by decide) (Nat.le_of_ble_eq_true rfl) ?_
  show Ev cX9_warning 6 RX9 (some .int) 2 none 0 [(0, .ref 0), (1, .int x1), (2, .int x2), (3, .int x3)] [] A (RI q)
  refine ev_iload_n 1 dX9_warning_0 rfl rfl ?_
  refine ev_iconst (v := 3) dX9_warning_1 (by decide) ?_
  refine ev_iload_n 2 dX9_warning_2 rfl rfl ?_
  obtain ⟨q1, e2, h⟩ := bd_c h
  refine ev_callSi (av := [.int x1, .int ((3 : Int32)), .int x2]) dX9_warning_3 (c_X9_refuseDayOf n x1 ((3 : Int32)) x2  A q1 e2) mk_X9_refuseDayOf lk_X9_141 is_X9_refuseDayOf rfl (by decide) (by decide) (Nat.le_of_ble_eq_true rfl) rfl ?_
  refine ev_istore (ls' := [(4, .int q1.1), (0, .ref 0), (1, .int x1), (2, .int x2), (3, .int x3)]) dX9_warning_6 (by decide) rfl ?_
  refine ev_iload 0 dX9_warning_8 rfl ?_
  refine ev_if_eq (tgt := 16) dX9_warning_10 (by decide) (fun c3 => ?_) (fun c3 => ?_)
  · have h := if_t c3 h
    refine ev_iload_n 4 dX9_warning_16 rfl rfl ?_
    refine ev_iconst (v := 2) dX9_warning_17 (by decide) ?_
    obtain ⟨q4, e5, h⟩ := bd_c h
    refine ev_callSi (av := [.int x3, .int ((2 : Int32))]) dX9_warning_18 (c_X9_isBelow n x3 ((2 : Int32))  q1.2 q4 e5) mk_X9_isBelow lk_X9_93 is_X9_isBelow rfl (by decide) (by decide) (Nat.le_of_ble_eq_true rfl) rfl ?_
    refine ev_if_ne (tgt := 27) dX9_warning_21 (by decide) (fun c6 => ?_) (fun c6 => ?_)
    · have h := if_f c6 h
      refine ev_iload_n 3 dX9_warning_27 rfl rfl ?_
      refine ev_aload_n 1 dX9_warning_28 rfl rfl ?_
      refine ev_getR (r := 9) dX9_warning_29 fl_X9_52 (by decide) rfl (by decide) (by decide) rfl ?_
      refine ev_iload_n 2 dX9_warning_32 rfl rfl ?_
      obtain ⟨c7, h⟩ := if_c h
      refine ev_ialdc 3 dX9_warning_33 (by decide) rfl rfl (by decide) c7 ?_
      refine ev_isub dX9_warning_34 ?_
      refine ev_istore (ls' := [(5, .int (x2 - (q4.2 9 (x1).toNatClampNeg))), (4, .int q1.1), (0, .ref 0), (1, .int x1), (2, .int x2), (3, .int x3)]) dX9_warning_35 (by decide) rfl ?_
      refine ev_iconst (v := 0) dX9_warning_37 (by decide) ?_
      refine ev_iload_n 5 dX9_warning_38 rfl rfl ?_
      refine ev_if_ne (tgt := 47) dX9_warning_39 (by decide) (fun c8 => ?_) (fun c8 => ?_)
      · have h := if_f c8 h
        refine ev_iload 0 dX9_warning_47 rfl ?_
        refine ev_ineg dX9_warning_49 ?_
        refine ev_mmax dX9_warning_50 lm_X9_265 (by decide) (Nat.le_of_ble_eq_true rfl) ?_
        cases h
        exact ev_iret dX9_warning_53 rfl rfl ⟨rfl, rfl⟩
      · have h := if_t c8 h
        refine ev_iload 0 dX9_warning_42 rfl ?_
        refine ev_goto (tgt := 50) dX9_warning_44 (by decide) ?_
        refine ev_mmax dX9_warning_50 lm_X9_265 (by decide) (Nat.le_of_ble_eq_true rfl) ?_
        cases h
        exact ev_iret dX9_warning_53 rfl rfl ⟨rfl, rfl⟩
    · have h := if_t c6 h
      refine ev_bipush (v := -3) dX9_warning_24 (by decide) ?_
      cases h
      exact ev_iret dX9_warning_26 rfl rfl ⟨rfl, rfl⟩
  · have h := if_f c3 h
    refine ev_iload 0 dX9_warning_13 rfl ?_
    cases h
    exact ev_iret dX9_warning_15 rfl rfl ⟨rfl, rfl⟩
def f_X9_count (n : Nat) (x1 : Int32) (A : Mem) : Option (Int32 × Mem) :=
  if x1 = 0 then
    some (A 1 7, A)
  else
    if x1 = 1 then
      some (A 61 4, A)
    else
      if x1 = 2 then
        some (A 10 7, A)
      else
        if x1 = 3 then
          some (A 66 2, A)
        else
          if x1 = 4 then
            some (A 16 7, A)
          else
            if x1 = 5 then
              some (A 76 3, A)
            else
              if x1 = 6 then
                if ¬ ((0 : Int32)) < 0 ∧ ((0 : Int32)).toNatClampNeg < 2 then
                  if ¬ ((1 : Int32)) < 0 ∧ ((1 : Int32)).toNatClampNeg < 2 then
                    some ((A (rf 50 ((0 : Int32)).toNatClampNeg) 4) + (A (rf 50 ((1 : Int32)).toNatClampNeg) 4), A)
                  else
                    none
                else
                  none
              else
                some ((-3 : Int32), A)
set_option maxRecDepth 100000 in
set_option maxHeartbeats 4000000 in
theorem c_X9_count (n : Nat) (x1 : Int32) (A : Mem) (q : Int32 × Mem) (h : f_X9_count n x1 A = some q) : Ct yX9_count cX9_count 2 (some .int) 0 [.ref 0, .int x1] A (RI q) := by
  unfold f_X9_count at h
  refine ct_of (by decide) (Nat.le_of_ble_eq_true rfl) ?_
  show Ev cX9_count 2 RX9 (some .int) 0 none 0 [(0, .ref 0), (1, .int x1)] [] A (RI q)
  refine ev_iload_n 1 dX9_count_0 rfl rfl ?_
  by_cases c1 : x1 = 0
  · have h := if_t c1 h
    refine ev_tin 0 (off := 43) (tgt := 44) dX9_count_1 c1 (by decide) (by decide) (by decide) (by decide) ?_
    refine ev_aload_n 0 dX9_count_44 rfl rfl ?_
    refine ev_getR (r := 1) dX9_count_45 fl_X9_37 (by decide) rfl (by decide) (by decide) rfl ?_
    refine ev_getI dX9_count_48 fl_X9_189 (by decide) rfl (by decide) (by decide) rfl ?_
    cases h
    exact ev_iret dX9_count_51 rfl rfl ⟨rfl, rfl⟩
  · have h := if_f c1 h
    by_cases c2 : x1 = 1
    · have h := if_t c2 h
      refine ev_tin 1 (off := 51) (tgt := 52) dX9_count_1 c2 (by decide) (by decide) (by decide) (by decide) ?_
      refine ev_aload_n 0 dX9_count_52 rfl rfl ?_
      refine ev_getR (r := 61) dX9_count_53 fl_X9_48 (by decide) rfl (by decide) (by decide) rfl ?_
      refine ev_getI dX9_count_56 fl_X9_270 (by decide) rfl (by decide) (by decide) rfl ?_
      cases h
      exact ev_iret dX9_count_59 rfl rfl ⟨rfl, rfl⟩
    · have h := if_f c2 h
      by_cases c3 : x1 = 2
      · have h := if_t c3 h
        refine ev_tin 2 (off := 59) (tgt := 60) dX9_count_1 c3 (by decide) (by decide) (by decide) (by decide) ?_
        refine ev_aload_n 0 dX9_count_60 rfl rfl ?_
        refine ev_getR (r := 10) dX9_count_61 fl_X9_55 (by decide) rfl (by decide) (by decide) rfl ?_
        refine ev_getI dX9_count_64 fl_X9_159 (by decide) rfl (by decide) (by decide) rfl ?_
        cases h
        exact ev_iret dX9_count_67 rfl rfl ⟨rfl, rfl⟩
      · have h := if_f c3 h
        by_cases c4 : x1 = 3
        · have h := if_t c4 h
          refine ev_tin 3 (off := 67) (tgt := 68) dX9_count_1 c4 (by decide) (by decide) (by decide) (by decide) ?_
          refine ev_aload_n 0 dX9_count_68 rfl rfl ?_
          refine ev_getR (r := 66) dX9_count_69 fl_X9_69 (by decide) rfl (by decide) (by decide) rfl ?_
          refine ev_getI dX9_count_72 fl_X9_273 (by decide) rfl (by decide) (by decide) rfl ?_
          cases h
          exact ev_iret dX9_count_75 rfl rfl ⟨rfl, rfl⟩
        · have h := if_f c4 h
          by_cases c5 : x1 = 4
          · have h := if_t c5 h
            refine ev_tin 4 (off := 75) (tgt := 76) dX9_count_1 c5 (by decide) (by decide) (by decide) (by decide) ?_
            refine ev_aload_n 0 dX9_count_76 rfl rfl ?_
            refine ev_getR (r := 16) dX9_count_77 fl_X9_59 (by decide) rfl (by decide) (by decide) rfl ?_
            refine ev_getI dX9_count_80 fl_X9_159 (by decide) rfl (by decide) (by decide) rfl ?_
            cases h
            exact ev_iret dX9_count_83 rfl rfl ⟨rfl, rfl⟩
          · have h := if_f c5 h
            by_cases c6 : x1 = 5
            · have h := if_t c6 h
              refine ev_tin 5 (off := 83) (tgt := 84) dX9_count_1 c6 (by decide) (by decide) (by decide) (by decide) ?_
              refine ev_aload_n 0 dX9_count_84 rfl rfl ?_
              refine ev_getR (r := 76) dX9_count_85 fl_X9_89 (by decide) rfl (by decide) (by decide) rfl ?_
              refine ev_getI dX9_count_88 fl_X9_274 (by decide) rfl (by decide) (by decide) rfl ?_
              cases h
              exact ev_iret dX9_count_91 rfl rfl ⟨rfl, rfl⟩
            · have h := if_f c6 h
              by_cases c7 : x1 = 6
              · have h := if_t c7 h
                refine ev_tin 6 (off := 91) (tgt := 92) dX9_count_1 c7 (by decide) (by decide) (by decide) (by decide) ?_
                refine ev_aload_n 0 dX9_count_92 rfl rfl ?_
                refine ev_getR (r := 50) dX9_count_93 fl_X9_62 (by decide) rfl (by decide) (by decide) rfl ?_
                refine ev_iconst (v := 0) dX9_count_96 (by decide) ?_
                obtain ⟨c8, h⟩ := if_c h
                have e9 := el_50 _ c8.2
                refine ev_aaldc 2 dX9_count_97 (by decide) rfl (Or.inr rfl) rfl (by decide) c8 e9.1 ?_
                refine ev_getI dX9_count_98 fl_X9_275 e9.2.1 e9.2.2 (sl_3_4 (rf 50 ((0 : Int32)).toNatClampNeg) e9.2.1 e9.2.2) (by decide) (sn_3_4 (rf 50 ((0 : Int32)).toNatClampNeg) e9.2.1 e9.2.2) ?_
                refine ev_aload_n 0 dX9_count_101 rfl rfl ?_
                refine ev_getR (r := 50) dX9_count_102 fl_X9_62 (by decide) rfl (by decide) (by decide) rfl ?_
                refine ev_iconst (v := 1) dX9_count_105 (by decide) ?_
                obtain ⟨c10, h⟩ := if_c h
                have e11 := el_50 _ c10.2
                refine ev_aaldc 2 dX9_count_106 (by decide) rfl (Or.inr rfl) rfl (by decide) c10 e11.1 ?_
                refine ev_getI dX9_count_107 fl_X9_275 e11.2.1 e11.2.2 (sl_3_4 (rf 50 ((1 : Int32)).toNatClampNeg) e11.2.1 e11.2.2) (by decide) (sn_3_4 (rf 50 ((1 : Int32)).toNatClampNeg) e11.2.1 e11.2.2) ?_
                refine ev_iadd dX9_count_110 ?_
                cases h
                exact ev_iret dX9_count_111 rfl rfl ⟨rfl, rfl⟩
              · have h := if_f c7 h
                refine ev_tout 7 (tgt := 112) dX9_count_1 (lt_s (lt_s (lt_s (lt_s (lt_s (lt_s (lt_s (fun j hj => absurd hj (Nat.not_lt_zero j)) c1) c2) c3) c4) c5) c6) c7) (by decide) (by decide) ?_
                refine ev_bipush (v := -3) dX9_count_112 (by decide) ?_
                cases h
                exact ev_iret dX9_count_114 rfl rfl ⟨rfl, rfl⟩
