def f_X4_gain_10 (n : Nat) (p1 : Nat) (x3 : Int32) (x4 : Int32) (A : Mem) : Option (Int32 × Mem) :=
  (f_X1_cameOn_10 n x3 A).bind fun q1 =>
  if x4 < q1.1 then
    some ((0 : Int32), q1.2)
  else
    if ¬ x3 < 0 ∧ (x3).toNatClampNeg < 24 then
      (f_X3_knows n p1 (q1.2 14 (x3).toNatClampNeg) x4 q1.2).bind fun q5 =>
      if q5.1 = 0 then
        some ((0 : Int32), q5.2)
      else
        (f_X8_valueOf n (q5.2 14 (x3).toNatClampNeg) q5.2).bind fun q8 =>
        if q8.1 = (q8.2 15 (x3).toNatClampNeg) then
          (f_X9_dayOf n (q8.2 14 (x3).toNatClampNeg) q8.2).bind fun q11 =>
          some (if ((0 : Int32)) < ((q11.2 (rf p1 0) 1) - ((q11.2 (rf p1 0) 3) * (if ((0 : Int32)) < (q1.1 - q11.1) then q1.1 - q11.1 else (0 : Int32)))) then (q11.2 (rf p1 0) 1) - ((q11.2 (rf p1 0) 3) * (if ((0 : Int32)) < (q1.1 - q11.1) then q1.1 - q11.1 else (0 : Int32))) else (0 : Int32), q11.2)
        else
          some (-(q8.2 (rf p1 0) 2), q8.2)
    else
      none
set_option maxRecDepth 100000 in
set_option maxHeartbeats 4000000 in
theorem c_X4_gain_10 (n : Nat) (p1 : Nat) (x3 : Int32) (x4 : Int32) (hp1 : p1 < NT) (hk1 : kd p1 = 3) (A : Mem) (q : Int32 × Mem) (h : f_X4_gain_10 n p1 x3 x4 A = some q) : Ct yX4_gain cX4_gain 7 (some .int) 2 [.ref 22, .ref p1, .ref 10, .int x3, .int x4] A (RI q) := by
  unfold f_X4_gain_10 at h
  refine ct_of (by decide) (Nat.le_of_ble_eq_true rfl) ?_
  show Ev cX4_gain 7 RX4 (some .int) 2 none 0 [(0, .ref 22), (1, .ref p1), (2, .ref 10), (3, .int x3), (4, .int x4)] [] A (RI q)
  refine ev_aload_n 2 dX4_gain_0 rfl rfl ?_
  refine ev_iload_n 3 dX4_gain_1 rfl rfl ?_
  obtain ⟨q1, e2, h⟩ := bd_c h
  refine ev_callVi (av := [.int x3]) dX4_gain_2 (c_X1_cameOn_10 n x3  A q1 e2) mk_X1_cameOn lk_X4_26 iv_X1_cameOn (Or.inl ⟨1, _, by decide, rfl, by decide, rfl, rfl⟩) rfl (by decide) (by decide) (Nat.le_of_ble_eq_true rfl) rfl ?_
  refine ev_istore (ls' := [(5, .int q1.1), (0, .ref 22), (1, .ref p1), (2, .ref 10), (3, .int x3), (4, .int x4)]) dX4_gain_5 (by decide) rfl ?_
  refine ev_iload 0 dX4_gain_7 rfl ?_
  refine ev_iload 5 dX4_gain_9 rfl ?_
  refine ev_icmp_gt (tgt := 29) dX4_gain_11 (by decide) (fun c3 => ?_) (fun c3 => ?_)
  · have h := if_t c3 h
    refine ev_iconst (v := 0) dX4_gain_29 (by decide) ?_
    cases h
    exact ev_iret dX4_gain_30 rfl rfl ⟨rfl, rfl⟩
  · have h := if_f c3 h
    refine ev_aload_n 2 dX4_gain_14 rfl rfl ?_
    refine ev_aload_n 3 dX4_gain_15 rfl rfl ?_
    refine ev_getR (r := 14) dX4_gain_16 fl_X4_32 (by decide) rfl (by decide) (by decide) rfl ?_
    refine ev_iload_n 4 dX4_gain_19 rfl rfl ?_
    obtain ⟨c4, h⟩ := if_c h
    refine ev_ialdc 24 dX4_gain_20 (by decide) rfl rfl (by decide) c4 ?_
    refine ev_iload 5 dX4_gain_21 rfl ?_
    obtain ⟨q5, e6, h⟩ := bd_c h
    refine ev_callVi (av := [.int (q1.2 14 (x3).toNatClampNeg), .int x4]) dX4_gain_23 (c_X3_knows n p1 (q1.2 14 (x3).toNatClampNeg) x4 hp1 hk1 q1.2 q5 e6) mk_X3_knows lk_X4_35 iv_X3_knows (Or.inl ⟨3, _, hp1, hk1, by decide, rfl, rfl⟩) rfl (by decide) (by decide) (Nat.le_of_ble_eq_true rfl) rfl ?_
    refine ev_if_ne (tgt := 31) dX4_gain_26 (by decide) (fun c7 => ?_) (fun c7 => ?_)
    · have h := if_f c7 h
      refine ev_aload_n 1 dX4_gain_31 rfl rfl ?_
      refine ev_getR (r := 1) dX4_gain_32 fl_X4_18 (by decide) rfl (by decide) (by decide) rfl ?_
      refine ev_aload_n 3 dX4_gain_35 rfl rfl ?_
      refine ev_getR (r := 14) dX4_gain_36 fl_X4_32 (by decide) rfl (by decide) (by decide) rfl ?_
      refine ev_iload_n 4 dX4_gain_39 rfl rfl ?_
      refine ev_ialdc 24 dX4_gain_40 (by decide) rfl rfl (by decide) c4 ?_
      obtain ⟨q8, e9, h⟩ := bd_c h
      refine ev_callVi (av := [.int (q5.2 14 (x3).toNatClampNeg)]) dX4_gain_41 (c_X8_valueOf n (q5.2 14 (x3).toNatClampNeg)  q5.2 q8 e9) mk_X8_valueOf lk_X4_41 iv_X8_valueOf (Or.inl ⟨8, _, by decide, rfl, by decide, rfl, rfl⟩) rfl (by decide) (by decide) (Nat.le_of_ble_eq_true rfl) rfl ?_
      refine ev_aload_n 3 dX4_gain_44 rfl rfl ?_
      refine ev_getR (r := 15) dX4_gain_45 fl_X4_46 (by decide) rfl (by decide) (by decide) rfl ?_
      refine ev_iload_n 4 dX4_gain_48 rfl rfl ?_
      refine ev_ialdc 24 dX4_gain_49 (by decide) rfl rfl (by decide) c4 ?_
      refine ev_icmp_eq (tgt := 61) dX4_gain_50 (by decide) (fun c10 => ?_) (fun c10 => ?_)
      · have h := if_t c10 h
        refine ev_iconst (v := 0) dX4_gain_61 (by decide) ?_
        refine ev_iload 0 dX4_gain_62 rfl ?_
        refine ev_aload_n 3 dX4_gain_64 rfl rfl ?_
        refine ev_getR (r := 14) dX4_gain_65 fl_X4_32 (by decide) rfl (by decide) (by decide) rfl ?_
        refine ev_iload_n 4 dX4_gain_68 rfl rfl ?_
        refine ev_ialdc 24 dX4_gain_69 (by decide) rfl rfl (by decide) c4 ?_
        obtain ⟨q11, e12, h⟩ := bd_c h
        refine ev_callSi (av := [.int (q8.2 14 (x3).toNatClampNeg)]) dX4_gain_70 (c_X9_dayOf n (q8.2 14 (x3).toNatClampNeg)  q8.2 q11 e12) mk_X9_dayOf lk_X4_52 is_X9_dayOf rfl (by decide) (by decide) (Nat.le_of_ble_eq_true rfl) rfl ?_
        refine ev_isub dX4_gain_73 ?_
        refine ev_mmax dX4_gain_74 lm_X4_55 (by decide) (Nat.le_of_ble_eq_true rfl) ?_
        refine ev_istore (ls' := [(6, .int (if ((0 : Int32)) < (q1.1 - q11.1) then q1.1 - q11.1 else (0 : Int32))), (5, .int q1.1), (0, .ref 22), (1, .ref p1), (2, .ref 10), (3, .int x3), (4, .int x4)]) dX4_gain_77 (by decide) rfl ?_
        refine ev_iconst (v := 0) dX4_gain_79 (by decide) ?_
        refine ev_aload_n 3 dX4_gain_80 rfl rfl ?_
        refine ev_getR (r := rf p1 0) dX4_gain_81 fl_X4_49 hp1 hk1 (sl_3_0 p1 hp1 hk1) (by decide) (sr_3_0 p1 hp1 hk1) ?_
        refine ev_iconst (v := 1) dX4_gain_84 (by decide) ?_
        refine ev_ialdl 6 1 dX4_gain_85 (sa_3_0 p1 hp1 hk1).1 (sa_3_0 p1 hp1 hk1).2.1 (sa_3_0 p1 hp1 hk1).2.2 (by decide) rfl (by decide) ?_
        refine ev_aload_n 3 dX4_gain_86 rfl rfl ?_
        refine ev_getR (r := rf p1 0) dX4_gain_87 fl_X4_49 hp1 hk1 (sl_3_0 p1 hp1 hk1) (by decide) (sr_3_0 p1 hp1 hk1) ?_
        refine ev_iconst (v := 3) dX4_gain_90 (by decide) ?_
        refine ev_ialdl 6 3 dX4_gain_91 (sa_3_0 p1 hp1 hk1).1 (sa_3_0 p1 hp1 hk1).2.1 (sa_3_0 p1 hp1 hk1).2.2 (by decide) rfl (by decide) ?_
        refine ev_iload 0 dX4_gain_92 rfl ?_
        refine ev_imul dX4_gain_94 ?_
        refine ev_isub dX4_gain_95 ?_
        refine ev_mmax dX4_gain_96 lm_X4_55 (by decide) (Nat.le_of_ble_eq_true rfl) ?_
        cases h
        exact ev_iret dX4_gain_99 rfl rfl ⟨rfl, rfl⟩
      · have h := if_f c10 h
        refine ev_aload_n 2 dX4_gain_53 rfl rfl ?_
        refine ev_getR (r := rf p1 0) dX4_gain_54 fl_X4_49 hp1 hk1 (sl_3_0 p1 hp1 hk1) (by decide) (sr_3_0 p1 hp1 hk1) ?_
        refine ev_iconst (v := 2) dX4_gain_57 (by decide) ?_
        refine ev_ialdl 6 2 dX4_gain_58 (sa_3_0 p1 hp1 hk1).1 (sa_3_0 p1 hp1 hk1).2.1 (sa_3_0 p1 hp1 hk1).2.2 (by decide) rfl (by decide) ?_
        refine ev_ineg dX4_gain_59 ?_
        cases h
        exact ev_iret dX4_gain_60 rfl rfl ⟨rfl, rfl⟩
    · have h := if_t c7 h
      refine ev_iconst (v := 0) dX4_gain_29 (by decide) ?_
      cases h
      exact ev_iret dX4_gain_30 rfl rfl ⟨rfl, rfl⟩
def g_X4_sumTrust_28 (n : Nat) (p1 : Nat) : Nat → Int32 → Int32 → Mem → Option (Int32 × Mem)
  | 0, _, _, _ => none
  | m + 1, x2, x3, A =>
    if (A 10 7) ≤ x3 then
      some (0, A)
    else
      if ¬ x3 < 0 ∧ (x3).toNatClampNeg < 24 then
        if ¬ (A 11 (x3).toNatClampNeg) < 0 ∧ (A 11 (x3).toNatClampNeg).toNatClampNeg < 6 then
          (f_X4_gain_10 n p1 x3 x2 A).bind fun q6 =>
          g_X4_sumTrust_28 n p1 m x2 (x3 + 1) (st2 q6.2 23 (A 11 (x3).toNatClampNeg).toNatClampNeg ((A 23 (A 11 (x3).toNatClampNeg).toNatClampNeg) + q6.1))
        else
          none
      else
        none
set_option maxRecDepth 100000 in
set_option maxHeartbeats 4000000 in
theorem l_X4_sumTrust_28 (n : Nat) (p1 : Nat) (hp1 : p1 < NT) (hk1 : kd p1 = 3) : ∀ (m : Nat) (x2 : Int32) (x3 : Int32) (A : Mem) (q : Int32 × Mem), g_X4_sumTrust_28 n p1 m x2 x3 A = some q → Ev cX4_sumTrust 4 RX4 none 3 none 28 [(0, .ref 22), (1, .ref p1), (2, .int x2), (3, .int x3)] [] A (RV q) := by
  intro m
  induction m with
  | zero => intro x2 x3 A q h; exact absurd h (by simp [g_X4_sumTrust_28])
  | succ m ih =>
    intro x2 x3 A q h
    rw [g_X4_sumTrust_28] at h
    refine ev_iload_n 3 dX4_sumTrust_28 rfl rfl ?_
    refine ev_aload_n 0 dX4_sumTrust_29 rfl rfl ?_
    refine ev_getR (r := 10) dX4_sumTrust_30 fl_X4_22 (by decide) rfl (by decide) (by decide) rfl ?_
    refine ev_getI dX4_sumTrust_33 fl_X4_61 (by decide) rfl (by decide) (by decide) rfl ?_
    refine ev_icmp_ge (tgt := 73) dX4_sumTrust_36 (by decide) (fun c3 => ?_) (fun c3 => ?_)
    · have h := if_t c3 h
      cases h
      exact ev_vret dX4_sumTrust_73 rfl ⟨rfl, rfl⟩
    · have h := if_f c3 h
      refine ev_aload_n 0 dX4_sumTrust_39 rfl rfl ?_
      refine ev_getR (r := 23) dX4_sumTrust_40 fl_X4_9 (by decide) rfl (by decide) (by decide) rfl ?_
      refine ev_aload_n 0 dX4_sumTrust_43 rfl rfl ?_
      refine ev_getR (r := 10) dX4_sumTrust_44 fl_X4_22 (by decide) rfl (by decide) (by decide) rfl ?_
      refine ev_getR (r := 11) dX4_sumTrust_47 fl_X4_65 (by decide) rfl (by decide) (by decide) rfl ?_
      refine ev_iload_n 3 dX4_sumTrust_50 rfl rfl ?_
      obtain ⟨c4, h⟩ := if_c h
      refine ev_ialdc 24 dX4_sumTrust_51 (by decide) rfl rfl (by decide) c4 ?_
      refine ev_dup2 dX4_sumTrust_52 rfl rfl ?_
      obtain ⟨c5, h⟩ := if_c h
      refine ev_ialdc 6 dX4_sumTrust_53 (by decide) rfl rfl (by decide) c5 ?_
      refine ev_aload_n 0 dX4_sumTrust_54 rfl rfl ?_
      refine ev_aload_n 1 dX4_sumTrust_55 rfl rfl ?_
      refine ev_aload_n 0 dX4_sumTrust_56 rfl rfl ?_
      refine ev_getR (r := 10) dX4_sumTrust_57 fl_X4_22 (by decide) rfl (by decide) (by decide) rfl ?_
      refine ev_iload_n 3 dX4_sumTrust_60 rfl rfl ?_
      refine ev_iload_n 2 dX4_sumTrust_61 rfl rfl ?_
      obtain ⟨q6, e7, h⟩ := bd_c h
      refine ev_callVi (av := [.ref p1, .ref 10, .int x3, .int x2]) dX4_sumTrust_62 (c_X4_gain_10 n p1 x3 x2 hp1 hk1 A q6 e7) mk_X4_gain lk_X4_68 iv_X4_gain (Or.inl ⟨4, _, by decide, rfl, by decide, rfl, rfl⟩) rfl (by decide) (by decide) (Nat.le_of_ble_eq_true rfl) rfl ?_
      refine ev_iadd dX4_sumTrust_65 ?_
      refine ev_iastc 6 dX4_sumTrust_66 (by decide) rfl rfl (by decide) c5 ?_
      refine ev_iinc (v := x3 + 1) (ls' := [(3, .int (x3 + 1)), (0, .ref 22), (1, .ref p1), (2, .int x2)]) 3 dX4_sumTrust_67 rfl rfl (by decide) rfl ?_
      refine ev_goto (tgt := 28) dX4_sumTrust_70 (by decide) ?_
      refine ev_pick [1, 2, 3, 0] (ls' := [(0, .ref 22), (1, .ref p1), (2, .int x2), (3, .int (x3 + 1))]) rfl ?_
      exact ih x2 (x3 + 1) _ q h
def g_X4_sumTrust_2 (n : Nat) (p1 : Nat) : Nat → Int32 → Int32 → Mem → Option (Int32 × Mem)
  | 0, _, _, _ => none
  | m + 1, x2, x3, A =>
    if ((6 : Int32)) ≤ x3 then
      g_X4_sumTrust_28 n p1 n x2 ((0 : Int32)) A
    else
      if ¬ x3 < 0 ∧ (x3).toNatClampNeg < 6 then
        g_X4_sumTrust_2 n p1 m x2 (x3 + 1) (st2 A 23 (x3).toNatClampNeg (A (rf p1 0) 0))
      else
        none
set_option maxRecDepth 100000 in
set_option maxHeartbeats 4000000 in
theorem l_X4_sumTrust_2 (n : Nat) (p1 : Nat) (hp1 : p1 < NT) (hk1 : kd p1 = 3) : ∀ (m : Nat) (x2 : Int32) (x3 : Int32) (A : Mem) (q : Int32 × Mem), g_X4_sumTrust_2 n p1 m x2 x3 A = some q → Ev cX4_sumTrust 4 RX4 none 3 none 2 [(0, .ref 22), (1, .ref p1), (2, .int x2), (3, .int x3)] [] A (RV q) := by
  intro m
  induction m with
  | zero => intro x2 x3 A q h; exact absurd h (by simp [g_X4_sumTrust_2])
  | succ m ih =>
    intro x2 x3 A q h
    rw [g_X4_sumTrust_2] at h
    refine ev_iload_n 3 dX4_sumTrust_2 rfl rfl ?_
    refine ev_bipush (v := 6) dX4_sumTrust_3 (by decide) ?_
    refine ev_icmp_ge (tgt := 26) dX4_sumTrust_5 (by decide) (fun c1 => ?_) (fun c1 => ?_)
    · have h := if_t c1 h
      refine ev_iconst (v := 0) dX4_sumTrust_26 (by decide) ?_
      refine ev_istore_n (ls' := [(3, .int ((0 : Int32))), (0, .ref 22), (1, .ref p1), (2, .int x2)]) dX4_sumTrust_27 rfl (by decide) rfl ?_
      refine ev_pick [1, 2, 3, 0] (ls' := [(0, .ref 22), (1, .ref p1), (2, .int x2), (3, .int ((0 : Int32)))]) rfl ?_
      exact (l_X4_sumTrust_28 n p1 hp1 hk1 n) x2 ((0 : Int32)) _ q h
    · have h := if_f c1 h
      refine ev_aload_n 0 dX4_sumTrust_8 rfl rfl ?_
      refine ev_getR (r := 23) dX4_sumTrust_9 fl_X4_9 (by decide) rfl (by decide) (by decide) rfl ?_
      refine ev_iload_n 3 dX4_sumTrust_12 rfl rfl ?_
      refine ev_aload_n 1 dX4_sumTrust_13 rfl rfl ?_
      refine ev_getR (r := rf p1 0) dX4_sumTrust_14 fl_X4_49 hp1 hk1 (sl_3_0 p1 hp1 hk1) (by decide) (sr_3_0 p1 hp1 hk1) ?_
      refine ev_iconst (v := 0) dX4_sumTrust_17 (by decide) ?_
      refine ev_ialdl 6 0 dX4_sumTrust_18 (sa_3_0 p1 hp1 hk1).1 (sa_3_0 p1 hp1 hk1).2.1 (sa_3_0 p1 hp1 hk1).2.2 (by decide) rfl (by decide) ?_
      obtain ⟨c2, h⟩ := if_c h
      refine ev_iastc 6 dX4_sumTrust_19 (by decide) rfl rfl (by decide) c2 ?_
      refine ev_iinc (v := x3 + 1) (ls' := [(3, .int (x3 + 1)), (0, .ref 22), (1, .ref p1), (2, .int x2)]) 3 dX4_sumTrust_20 rfl rfl (by decide) rfl ?_
      refine ev_goto (tgt := 2) dX4_sumTrust_23 (by decide) ?_
      refine ev_pick [1, 2, 3, 0] (ls' := [(0, .ref 22), (1, .ref p1), (2, .int x2), (3, .int (x3 + 1))]) rfl ?_
      exact ih x2 (x3 + 1) _ q h
def f_X4_sumTrust (n : Nat) (p1 : Nat) (x2 : Int32) (A : Mem) : Option (Int32 × Mem) :=
  g_X4_sumTrust_2 n p1 n x2 ((0 : Int32)) A
set_option maxRecDepth 100000 in
set_option maxHeartbeats 4000000 in
theorem c_X4_sumTrust (n : Nat) (p1 : Nat) (x2 : Int32) (hp1 : p1 < NT) (hk1 : kd p1 = 3) (A : Mem) (q : Int32 × Mem) (h : f_X4_sumTrust n p1 x2 A = some q) : Ct yX4_sumTrust cX4_sumTrust 4 none 3 [.ref 22, .ref p1, .int x2] A (RV q) := by
  unfold f_X4_sumTrust at h
  refine ct_of (by decide) (Nat.le_of_ble_eq_true rfl) ?_
  show Ev cX4_sumTrust 4 RX4 none 3 none 0 [(0, .ref 22), (1, .ref p1), (2, .int x2)] [] A (RV q)
  refine ev_iconst (v := 0) dX4_sumTrust_0 (by decide) ?_
  refine ev_istore_n (ls' := [(3, .int ((0 : Int32))), (0, .ref 22), (1, .ref p1), (2, .int x2)]) dX4_sumTrust_1 rfl (by decide) rfl ?_
  refine ev_pick [1, 2, 3, 0] (ls' := [(0, .ref 22), (1, .ref p1), (2, .int x2), (3, .int ((0 : Int32)))]) rfl ?_
  exact (l_X4_sumTrust_2 n p1 hp1 hk1 n) x2 ((0 : Int32)) _ q h
def f_X4_bounded (n : Nat) (x0 : Int32) (A : Mem) : Option (Int32 × Mem) :=
  some (if ((0 : Int32)) < (if x0 < ((100 : Int32)) then x0 else (100 : Int32)) then if x0 < ((100 : Int32)) then x0 else (100 : Int32) else (0 : Int32), A)
set_option maxRecDepth 100000 in
set_option maxHeartbeats 4000000 in
theorem c_X4_bounded (n : Nat) (x0 : Int32) (A : Mem) (q : Int32 × Mem) (h : f_X4_bounded n x0 A = some q) : Ct yX4_bounded cX4_bounded 1 (some .int) 1 [.int x0] A (RI q) := by
  unfold f_X4_bounded at h
  refine ct_of (by decide) (Nat.le_of_ble_eq_true rfl) ?_
  show Ev cX4_bounded 1 RX4 (some .int) 1 none 0 [(0, .int x0)] [] A (RI q)
  refine ev_iconst (v := 0) dX4_bounded_0 (by decide) ?_
  refine ev_bipush (v := 100) dX4_bounded_1 (by decide) ?_
  refine ev_iload_n 0 dX4_bounded_3 rfl rfl ?_
  refine ev_mmin dX4_bounded_4 lm_X4_79 (by decide) (Nat.le_of_ble_eq_true rfl) ?_
  refine ev_mmax dX4_bounded_7 lm_X4_55 (by decide) (Nat.le_of_ble_eq_true rfl) ?_
  cases h
  exact ev_iret dX4_bounded_10 rfl rfl ⟨rfl, rfl⟩
def f_X4_trustIn (n : Nat) (p1 : Nat) (x2 : Int32) (x3 : Int32) (A : Mem) : Option (Int32 × Mem) :=
  (f_X4_sumTrust n p1 x3 A).bind fun q1 =>
  if ¬ x2 < 0 ∧ (x2).toNatClampNeg < 6 then
    (f_X4_bounded n (q1.2 23 (x2).toNatClampNeg) q1.2).bind fun q4 =>
    some (q4.1, q4.2)
  else
    none
set_option maxRecDepth 100000 in
set_option maxHeartbeats 4000000 in
theorem c_X4_trustIn (n : Nat) (p1 : Nat) (x2 : Int32) (x3 : Int32) (hp1 : p1 < NT) (hk1 : kd p1 = 3) (A : Mem) (q : Int32 × Mem) (h : f_X4_trustIn n p1 x2 x3 A = some q) : Ct yX4_trustIn cX4_trustIn 4 (some .int) 4 [.ref 22, .ref p1, .int x2, .int x3] A (RI q) := by
  unfold f_X4_trustIn at h
  refine ct_of (by decide) (Nat.le_of_ble_eq_true rfl) ?_
  show Ev cX4_trustIn 4 RX4 (some .int) 4 none 0 [(0, .ref 22), (1, .ref p1), (2, .int x2), (3, .int x3)] [] A (RI q)
  refine ev_aload_n 0 dX4_trustIn_0 rfl rfl ?_
  refine ev_aload_n 1 dX4_trustIn_1 rfl rfl ?_
  refine ev_iload_n 3 dX4_trustIn_2 rfl rfl ?_
  obtain ⟨q1, e2, h⟩ := bd_c h
  refine ev_callVv (av := [.ref p1, .int x3]) dX4_trustIn_3 (c_X4_sumTrust n p1 x3 hp1 hk1 A q1 e2) mk_X4_sumTrust lk_X4_72 iv_X4_sumTrust (Or.inl ⟨4, _, by decide, rfl, by decide, rfl, rfl⟩) rfl (by decide) (by decide) (Nat.le_of_ble_eq_true rfl) rfl ?_
  refine ev_aload_n 0 dX4_trustIn_6 rfl rfl ?_
  refine ev_getR (r := 23) dX4_trustIn_7 fl_X4_9 (by decide) rfl (by decide) (by decide) rfl ?_
  refine ev_iload_n 2 dX4_trustIn_10 rfl rfl ?_
  obtain ⟨c3, h⟩ := if_c h
  refine ev_ialdc 6 dX4_trustIn_11 (by decide) rfl rfl (by decide) c3 ?_
  obtain ⟨q4, e5, h⟩ := bd_c h
  refine ev_callSi (av := [.int (q1.2 23 (x2).toNatClampNeg)]) dX4_trustIn_12 (c_X4_bounded n (q1.2 23 (x2).toNatClampNeg)  q1.2 q4 e5) mk_X4_bounded lk_X4_76 is_X4_bounded rfl (by decide) (by decide) (Nat.le_of_ble_eq_true rfl) rfl ?_
  cases h
  exact ev_iret dX4_trustIn_15 rfl rfl ⟨rfl, rfl⟩
def f_X9_trust (n : Nat) (x1 : Int32) (x2 : Int32) (x3 : Int32) (A : Mem) : Option (Int32 × Mem) :=
  (f_X9_isBelow n x1 ((2 : Int32)) A).bind fun q1 =>
  if q1.1 = 0 then
    some ((-2 : Int32), q1.2)
  else
    (f_X9_isBelow n x2 ((6 : Int32)) q1.2).bind fun q4 =>
    if q4.1 = 0 then
      some ((-2 : Int32), q4.2)
    else
      (f_X9_isBelow n x3 ((61 : Int32)) q4.2).bind fun q7 =>
      if q7.1 = 0 then
        some ((-3 : Int32), q7.2)
      else
        if ¬ x1 < 0 ∧ (x1).toNatClampNeg < 2 then
          (f_X4_trustIn n (rf 50 (x1).toNatClampNeg) x2 x3 q7.2).bind fun q12 =>
          some (q12.1, q12.2)
        else
          none
set_option maxRecDepth 100000 in
set_option maxHeartbeats 4000000 in
theorem c_X9_trust (n : Nat) (x1 : Int32) (x2 : Int32) (x3 : Int32) (A : Mem) (q : Int32 × Mem) (h : f_X9_trust n x1 x2 x3 A = some q) : Ct yX9_trust cX9_trust 4 (some .int) 5 [.ref 0, .int x1, .int x2, .int x3] A (RI q) := by
  unfold f_X9_trust at h
  refine ct_of (by decide) (Nat.le_of_ble_eq_true rfl) ?_
  show Ev cX9_trust 4 RX9 (some .int) 5 none 0 [(0, .ref 0), (1, .int x1), (2, .int x2), (3, .int x3)] [] A (RI q)
  refine ev_iload_n 1 dX9_trust_0 rfl rfl ?_
  refine ev_iconst (v := 2) dX9_trust_1 (by decide) ?_
  obtain ⟨q1, e2, h⟩ := bd_c h
  refine ev_callSi (av := [.int x1, .int ((2 : Int32))]) dX9_trust_2 (c_X9_isBelow n x1 ((2 : Int32))  A q1 e2) mk_X9_isBelow lk_X9_93 is_X9_isBelow rfl (by decide) (by decide) (Nat.le_of_ble_eq_true rfl) rfl ?_
  refine ev_if_eq (tgt := 17) dX9_trust_5 (by decide) (fun c3 => ?_) (fun c3 => ?_)
  · have h := if_t c3 h
    refine ev_bipush (v := -2) dX9_trust_17 (by decide) ?_
    cases h
    exact ev_iret dX9_trust_19 rfl rfl ⟨rfl, rfl⟩
  · have h := if_f c3 h
    refine ev_iload_n 2 dX9_trust_8 rfl rfl ?_
    refine ev_bipush (v := 6) dX9_trust_9 (by decide) ?_
    obtain ⟨q4, e5, h⟩ := bd_c h
    refine ev_callSi (av := [.int x2, .int ((6 : Int32))]) dX9_trust_11 (c_X9_isBelow n x2 ((6 : Int32))  q1.2 q4 e5) mk_X9_isBelow lk_X9_93 is_X9_isBelow rfl (by decide) (by decide) (Nat.le_of_ble_eq_true rfl) rfl ?_
    refine ev_if_ne (tgt := 20) dX9_trust_14 (by decide) (fun c6 => ?_) (fun c6 => ?_)
    · have h := if_f c6 h
      refine ev_iload_n 3 dX9_trust_20 rfl rfl ?_
      refine ev_bipush (v := 61) dX9_trust_21 (by decide) ?_
      obtain ⟨q7, e8, h⟩ := bd_c h
      refine ev_callSi (av := [.int x3, .int ((61 : Int32))]) dX9_trust_23 (c_X9_isBelow n x3 ((61 : Int32))  q4.2 q7 e8) mk_X9_isBelow lk_X9_93 is_X9_isBelow rfl (by decide) (by decide) (Nat.le_of_ble_eq_true rfl) rfl ?_
      refine ev_if_eq (tgt := 47) dX9_trust_26 (by decide) (fun c9 => ?_) (fun c9 => ?_)
      · have h := if_t c9 h
        refine ev_bipush (v := -3) dX9_trust_47 (by decide) ?_
        cases h
        exact ev_iret dX9_trust_49 rfl rfl ⟨rfl, rfl⟩
      · have h := if_f c9 h
        refine ev_aload_n 0 dX9_trust_29 rfl rfl ?_
        refine ev_getR (r := 22) dX9_trust_30 fl_X9_73 (by decide) rfl (by decide) (by decide) rfl ?_
        refine ev_aload_n 0 dX9_trust_33 rfl rfl ?_
        refine ev_getR (r := 50) dX9_trust_34 fl_X9_62 (by decide) rfl (by decide) (by decide) rfl ?_
        refine ev_iload_n 1 dX9_trust_37 rfl rfl ?_
        obtain ⟨c10, h⟩ := if_c h
        have e11 := el_50 _ c10.2
        refine ev_aaldc 2 dX9_trust_38 (by decide) rfl (Or.inr rfl) rfl (by decide) c10 e11.1 ?_
        refine ev_iload_n 2 dX9_trust_39 rfl rfl ?_
        refine ev_iload_n 3 dX9_trust_40 rfl rfl ?_
        obtain ⟨q12, e13, h⟩ := bd_c h
        refine ev_callVi (av := [.ref (rf 50 (x1).toNatClampNeg), .int x2, .int x3]) dX9_trust_41 (c_X4_trustIn n (rf 50 (x1).toNatClampNeg) x2 x3 e11.2.1 e11.2.2 q7.2 q12 e13) mk_X4_trustIn lk_X9_210 iv_X4_trustIn (Or.inl ⟨4, _, by decide, rfl, by decide, rfl, rfl⟩) rfl (by decide) (by decide) (Nat.le_of_ble_eq_true rfl) rfl ?_
        refine ev_goto (tgt := 49) dX9_trust_44 (by decide) ?_
        cases h
        exact ev_iret dX9_trust_49 rfl rfl ⟨rfl, rfl⟩
    · have h := if_t c6 h
      refine ev_bipush (v := -2) dX9_trust_17 (by decide) ?_
      cases h
      exact ev_iret dX9_trust_19 rfl rfl ⟨rfl, rfl⟩
def f_X9_refuseReading (n : Nat) (x0 : Int32) (x1 : Int32) (x2 : Int32) (x3 : Int32) (x4 : Int32) (A : Mem) : Option (Int32 × Mem) :=
  (f_X9_isBelow n x0 ((2 : Int32)) A).bind fun q1 =>
  if q1.1 = 0 then
    some ((-2 : Int32), q1.2)
  else
    (f_X9_refuseTopic n x1 x2 x3 q1.2).bind fun q4 =>
    if q4.1 = 0 then
      (f_X9_isBelow n x4 ((61 : Int32)) q4.2).bind fun q7 =>
      if q7.1 = 0 then
        some ((-3 : Int32), q7.2)
      else
        some (q4.1, q7.2)
    else
      some (q4.1, q4.2)
set_option maxRecDepth 100000 in
set_option maxHeartbeats 4000000 in
theorem c_X9_refuseReading (n : Nat) (x0 : Int32) (x1 : Int32) (x2 : Int32) (x3 : Int32) (x4 : Int32) (A : Mem) (q : Int32 × Mem) (h : f_X9_refuseReading n x0 x1 x2 x3 x4 A = some q) : Ct yX9_refuseReading cX9_refuseReading 6 (some .int) 2 [.int x0, .int x1, .int x2, .int x3, .int x4] A (RI q) := by
  unfold f_X9_refuseReading at h
  refine ct_of (by decide) (Nat.le_of_ble_eq_true rfl) ?_
  show Ev cX9_refuseReading 6 RX9 (some .int) 2 none 0 [(0, .int x0), (1, .int x1), (2, .int x2), (3, .int x3), (4, .int x4)] [] A (RI q)
  refine ev_iload_n 0 dX9_refuseReading_0 rfl rfl ?_
  refine ev_iconst (v := 2) dX9_refuseReading_1 (by decide) ?_
  obtain ⟨q1, e2, h⟩ := bd_c h
  refine ev_callSi (av := [.int x0, .int ((2 : Int32))]) dX9_refuseReading_2 (c_X9_isBelow n x0 ((2 : Int32))  A q1 e2) mk_X9_isBelow lk_X9_93 is_X9_isBelow rfl (by decide) (by decide) (Nat.le_of_ble_eq_true rfl) rfl ?_
  refine ev_if_ne (tgt := 11) dX9_refuseReading_5 (by decide) (fun c3 => ?_) (fun c3 => ?_)
  · have h := if_f c3 h
    refine ev_iload_n 1 dX9_refuseReading_11 rfl rfl ?_
    refine ev_iload_n 2 dX9_refuseReading_12 rfl rfl ?_
    refine ev_iload_n 3 dX9_refuseReading_13 rfl rfl ?_
    obtain ⟨q4, e5, h⟩ := bd_c h
    refine ev_callSi (av := [.int x1, .int x2, .int x3]) dX9_refuseReading_14 (c_X9_refuseTopic n x1 x2 x3  q1.2 q4 e5) mk_X9_refuseTopic lk_X9_107 is_X9_refuseTopic rfl (by decide) (by decide) (Nat.le_of_ble_eq_true rfl) rfl ?_
    refine ev_istore (ls' := [(5, .int q4.1), (0, .int x0), (1, .int x1), (2, .int x2), (3, .int x3), (4, .int x4)]) dX9_refuseReading_17 (by decide) rfl ?_
    refine ev_iload 0 dX9_refuseReading_19 rfl ?_
    refine ev_if_ne (tgt := 39) dX9_refuseReading_21 (by decide) (fun c6 => ?_) (fun c6 => ?_)
    · have h := if_f c6 h
      refine ev_iload 0 dX9_refuseReading_39 rfl ?_
      cases h
      exact ev_iret dX9_refuseReading_41 rfl rfl ⟨rfl, rfl⟩
    · have h := if_t c6 h
      refine ev_iload 5 dX9_refuseReading_24 rfl ?_
      refine ev_bipush (v := 61) dX9_refuseReading_26 (by decide) ?_
      obtain ⟨q7, e8, h⟩ := bd_c h
      refine ev_callSi (av := [.int x4, .int ((61 : Int32))]) dX9_refuseReading_28 (c_X9_isBelow n x4 ((61 : Int32))  q4.2 q7 e8) mk_X9_isBelow lk_X9_93 is_X9_isBelow rfl (by decide) (by decide) (Nat.le_of_ble_eq_true rfl) rfl ?_
      refine ev_if_ne (tgt := 39) dX9_refuseReading_31 (by decide) (fun c9 => ?_) (fun c9 => ?_)
      · have h := if_f c9 h
        refine ev_iload 0 dX9_refuseReading_39 rfl ?_
        cases h
        exact ev_iret dX9_refuseReading_41 rfl rfl ⟨rfl, rfl⟩
      · have h := if_t c9 h
        refine ev_bipush (v := -3) dX9_refuseReading_34 (by decide) ?_
        refine ev_goto (tgt := 41) dX9_refuseReading_36 (by decide) ?_
        cases h
        exact ev_iret dX9_refuseReading_41 rfl rfl ⟨rfl, rfl⟩
  · have h := if_t c3 h
    refine ev_bipush (v := -2) dX9_refuseReading_8 (by decide) ?_
    cases h
    exact ev_iret dX9_refuseReading_10 rfl rfl ⟨rfl, rfl⟩
def g_X4_gather_23 (n : Nat) : Nat → Int32 → Int32 → Int32 → Mem → Option (Int32 × Mem)
  | 0, _, _, _, _ => none
  | m + 1, x1, x2, x3, A =>
    if (A 10 7) ≤ x3 then
      some (0, A)
    else
      if ¬ x3 < 0 ∧ (x3).toNatClampNeg < 24 then
        if (A 14 (x3).toNatClampNeg) = x1 then
          (f_X1_cameOn_10 n x3 A).bind fun q6 =>
          if x2 < q6.1 then
            g_X4_gather_23 n  m x1 x2 (x3 + 1) q6.2
          else
            if ¬ (q6.2 15 (x3).toNatClampNeg) < 0 ∧ (q6.2 15 (x3).toNatClampNeg).toNatClampNeg < 10 then
              g_X4_gather_23 n  m x1 x2 (x3 + 1) (st2 q6.2 24 (q6.2 15 (x3).toNatClampNeg).toNatClampNeg ((q6.2 24 (q6.2 15 (x3).toNatClampNeg).toNatClampNeg) ||| (((1 : Int32)) <<< ((q6.2 11 (x3).toNatClampNeg) &&& 31))))
            else
              none
        else
          g_X4_gather_23 n  m x1 x2 (x3 + 1) A
      else
        none
set_option maxRecDepth 100000 in
set_option maxHeartbeats 4000000 in
theorem l_X4_gather_23 (n : Nat) : ∀ (m : Nat) (x1 : Int32) (x2 : Int32) (x3 : Int32) (A : Mem) (q : Int32 × Mem), g_X4_gather_23 n  m x1 x2 x3 A = some q → Ev cX4_gather 4 RX4 none 1 none 23 [(0, .ref 22), (1, .int x1), (2, .int x2), (3, .int x3)] [] A (RV q) := by
  intro m
  induction m with
  | zero => intro x1 x2 x3 A q h; exact absurd h (by simp [g_X4_gather_23])
  | succ m ih =>
    intro x1 x2 x3 A q h
    rw [g_X4_gather_23] at h
    refine ev_iload_n 3 dX4_gather_23 rfl rfl ?_
    refine ev_aload_n 0 dX4_gather_24 rfl rfl ?_
    refine ev_getR (r := 10) dX4_gather_25 fl_X4_22 (by decide) rfl (by decide) (by decide) rfl ?_
    refine ev_getI dX4_gather_28 fl_X4_61 (by decide) rfl (by decide) (by decide) rfl ?_
    refine ev_icmp_ge (tgt := 93) dX4_gather_31 (by decide) (fun c3 => ?_) (fun c3 => ?_)
    · have h := if_t c3 h
      cases h
      exact ev_vret dX4_gather_93 rfl ⟨rfl, rfl⟩
    · have h := if_f c3 h
      refine ev_aload_n 0 dX4_gather_34 rfl rfl ?_
      refine ev_getR (r := 10) dX4_gather_35 fl_X4_22 (by decide) rfl (by decide) (by decide) rfl ?_
      refine ev_getR (r := 14) dX4_gather_38 fl_X4_32 (by decide) rfl (by decide) (by decide) rfl ?_
      refine ev_iload_n 3 dX4_gather_41 rfl rfl ?_
      obtain ⟨c4, h⟩ := if_c h
      refine ev_ialdc 24 dX4_gather_42 (by decide) rfl rfl (by decide) c4 ?_
      refine ev_iload_n 1 dX4_gather_43 rfl rfl ?_
      refine ev_icmp_ne (tgt := 87) dX4_gather_44 (by decide) (fun c5 => ?_) (fun c5 => ?_)
      · have h := if_f c5 h
        refine ev_iinc (v := x3 + 1) (ls' := [(3, .int (x3 + 1)), (0, .ref 22), (1, .int x1), (2, .int x2)]) 3 dX4_gather_87 rfl rfl (by decide) rfl ?_
        refine ev_goto (tgt := 23) dX4_gather_90 (by decide) ?_
        refine ev_pick [1, 2, 3, 0] (ls' := [(0, .ref 22), (1, .int x1), (2, .int x2), (3, .int (x3 + 1))]) rfl ?_
        exact ih x1 x2 (x3 + 1) _ q h
      · have h := if_t c5 h
        refine ev_aload_n 0 dX4_gather_47 rfl rfl ?_
        refine ev_getR (r := 10) dX4_gather_48 fl_X4_22 (by decide) rfl (by decide) (by decide) rfl ?_
        refine ev_iload_n 3 dX4_gather_51 rfl rfl ?_
        obtain ⟨q6, e7, h⟩ := bd_c h
        refine ev_callVi (av := [.int x3]) dX4_gather_52 (c_X1_cameOn_10 n x3  A q6 e7) mk_X1_cameOn lk_X4_26 iv_X1_cameOn (Or.inl ⟨1, _, by decide, rfl, by decide, rfl, rfl⟩) rfl (by decide) (by decide) (Nat.le_of_ble_eq_true rfl) rfl ?_
        refine ev_iload_n 2 dX4_gather_55 rfl rfl ?_
        refine ev_icmp_gt (tgt := 87) dX4_gather_56 (by decide) (fun c8 => ?_) (fun c8 => ?_)
        · have h := if_t c8 h
          refine ev_iinc (v := x3 + 1) (ls' := [(3, .int (x3 + 1)), (0, .ref 22), (1, .int x1), (2, .int x2)]) 3 dX4_gather_87 rfl rfl (by decide) rfl ?_
          refine ev_goto (tgt := 23) dX4_gather_90 (by decide) ?_
          refine ev_pick [1, 2, 3, 0] (ls' := [(0, .ref 22), (1, .int x1), (2, .int x2), (3, .int (x3 + 1))]) rfl ?_
          exact ih x1 x2 (x3 + 1) _ q h
        · have h := if_f c8 h
          refine ev_aload_n 0 dX4_gather_59 rfl rfl ?_
          refine ev_getR (r := 24) dX4_gather_60 fl_X4_15 (by decide) rfl (by decide) (by decide) rfl ?_
          refine ev_aload_n 0 dX4_gather_63 rfl rfl ?_
          refine ev_getR (r := 10) dX4_gather_64 fl_X4_22 (by decide) rfl (by decide) (by decide) rfl ?_
          refine ev_getR (r := 15) dX4_gather_67 fl_X4_46 (by decide) rfl (by decide) (by decide) rfl ?_
          refine ev_iload_n 3 dX4_gather_70 rfl rfl ?_
          refine ev_ialdc 24 dX4_gather_71 (by decide) rfl rfl (by decide) c4 ?_
          refine ev_dup2 dX4_gather_72 rfl rfl ?_
          obtain ⟨c9, h⟩ := if_c h
          refine ev_ialdc 10 dX4_gather_73 (by decide) rfl rfl (by decide) c9 ?_
          refine ev_iconst (v := 1) dX4_gather_74 (by decide) ?_
          refine ev_aload_n 0 dX4_gather_75 rfl rfl ?_
          refine ev_getR (r := 10) dX4_gather_76 fl_X4_22 (by decide) rfl (by decide) (by decide) rfl ?_
          refine ev_getR (r := 11) dX4_gather_79 fl_X4_65 (by decide) rfl (by decide) (by decide) rfl ?_
          refine ev_iload_n 3 dX4_gather_82 rfl rfl ?_
          refine ev_ialdc 24 dX4_gather_83 (by decide) rfl rfl (by decide) c4 ?_
          refine ev_ishl dX4_gather_84 ?_
          refine ev_ior dX4_gather_85 ?_
          refine ev_iastc 10 dX4_gather_86 (by decide) rfl rfl (by decide) c9 ?_
          refine ev_iinc (v := x3 + 1) (ls' := [(3, .int (x3 + 1)), (0, .ref 22), (1, .int x1), (2, .int x2)]) 3 dX4_gather_87 rfl rfl (by decide) rfl ?_
          refine ev_goto (tgt := 23) dX4_gather_90 (by decide) ?_
          refine ev_pick [1, 2, 3, 0] (ls' := [(0, .ref 22), (1, .int x1), (2, .int x2), (3, .int (x3 + 1))]) rfl ?_
          exact ih x1 x2 (x3 + 1) _ q h
def g_X4_gather_2 (n : Nat) : Nat → Int32 → Int32 → Int32 → Mem → Option (Int32 × Mem)
  | 0, _, _, _, _ => none
  | m + 1, x1, x2, x3, A =>
    if ((10 : Int32)) ≤ x3 then
      g_X4_gather_23 n  n x1 x2 ((0 : Int32)) A
    else
      if ¬ x3 < 0 ∧ (x3).toNatClampNeg < 10 then
        g_X4_gather_2 n  m x1 x2 (x3 + 1) (st2 A 24 (x3).toNatClampNeg ((0 : Int32)))
      else
        none
set_option maxRecDepth 100000 in
set_option maxHeartbeats 4000000 in
theorem l_X4_gather_2 (n : Nat) : ∀ (m : Nat) (x1 : Int32) (x2 : Int32) (x3 : Int32) (A : Mem) (q : Int32 × Mem), g_X4_gather_2 n  m x1 x2 x3 A = some q → Ev cX4_gather 4 RX4 none 1 none 2 [(0, .ref 22), (1, .int x1), (2, .int x2), (3, .int x3)] [] A (RV q) := by
  intro m
  induction m with
  | zero => intro x1 x2 x3 A q h; exact absurd h (by simp [g_X4_gather_2])
  | succ m ih =>
    intro x1 x2 x3 A q h
    rw [g_X4_gather_2] at h
    refine ev_iload_n 3 dX4_gather_2 rfl rfl ?_
    refine ev_bipush (v := 10) dX4_gather_3 (by decide) ?_
    refine ev_icmp_ge (tgt := 21) dX4_gather_5 (by decide) (fun c1 => ?_) (fun c1 => ?_)
    · have h := if_t c1 h
      refine ev_iconst (v := 0) dX4_gather_21 (by decide) ?_
      refine ev_istore_n (ls' := [(3, .int ((0 : Int32))), (0, .ref 22), (1, .int x1), (2, .int x2)]) dX4_gather_22 rfl (by decide) rfl ?_
      refine ev_pick [1, 2, 3, 0] (ls' := [(0, .ref 22), (1, .int x1), (2, .int x2), (3, .int ((0 : Int32)))]) rfl ?_
      exact (l_X4_gather_23 n   n) x1 x2 ((0 : Int32)) _ q h
    · have h := if_f c1 h
      refine ev_aload_n 0 dX4_gather_8 rfl rfl ?_
      refine ev_getR (r := 24) dX4_gather_9 fl_X4_15 (by decide) rfl (by decide) (by decide) rfl ?_
      refine ev_iload_n 3 dX4_gather_12 rfl rfl ?_
      refine ev_iconst (v := 0) dX4_gather_13 (by decide) ?_
      obtain ⟨c2, h⟩ := if_c h
      refine ev_iastc 10 dX4_gather_14 (by decide) rfl rfl (by decide) c2 ?_
      refine ev_iinc (v := x3 + 1) (ls' := [(3, .int (x3 + 1)), (0, .ref 22), (1, .int x1), (2, .int x2)]) 3 dX4_gather_15 rfl rfl (by decide) rfl ?_
      refine ev_goto (tgt := 2) dX4_gather_18 (by decide) ?_
      refine ev_pick [1, 2, 3, 0] (ls' := [(0, .ref 22), (1, .int x1), (2, .int x2), (3, .int (x3 + 1))]) rfl ?_
      exact ih x1 x2 (x3 + 1) _ q h
def f_X4_gather (n : Nat) (x1 : Int32) (x2 : Int32) (A : Mem) : Option (Int32 × Mem) :=
  g_X4_gather_2 n  n x1 x2 ((0 : Int32)) A
set_option maxRecDepth 100000 in
set_option maxHeartbeats 4000000 in
theorem c_X4_gather (n : Nat) (x1 : Int32) (x2 : Int32) (A : Mem) (q : Int32 × Mem) (h : f_X4_gather n x1 x2 A = some q) : Ct yX4_gather cX4_gather 4 none 1 [.ref 22, .int x1, .int x2] A (RV q) := by
  unfold f_X4_gather at h
  refine ct_of (by decide) (Nat.le_of_ble_eq_true rfl) ?_
  show Ev cX4_gather 4 RX4 none 1 none 0 [(0, .ref 22), (1, .int x1), (2, .int x2)] [] A (RV q)
  refine ev_iconst (v := 0) dX4_gather_0 (by decide) ?_
  refine ev_istore_n (ls' := [(3, .int ((0 : Int32))), (0, .ref 22), (1, .int x1), (2, .int x2)]) dX4_gather_1 rfl (by decide) rfl ?_
  refine ev_pick [1, 2, 3, 0] (ls' := [(0, .ref 22), (1, .int x1), (2, .int x2), (3, .int ((0 : Int32)))]) rfl ?_
  exact (l_X4_gather_2 n   n) x1 x2 ((0 : Int32)) _ q h
def g_X4_weigh_33 (n : Nat) (p1 : Nat) : Nat → Int32 → Int32 → Int32 → Mem → Option (Int32 × Mem)
  | 0, _, _, _, _ => none
  | m + 1, x2, x3, x4, A =>
    if ((6 : Int32)) ≤ x4 then
      some (x3, A)
    else
      if ¬ x2 < 0 ∧ (x2).toNatClampNeg < 10 then
        (f_X9_hasBit n (A 24 (x2).toNatClampNeg) x4 A).bind fun q5 =>
        if q5.1 = 0 then
          g_X4_weigh_33 n p1 m x2 x3 (x4 + 1) q5.2
        else
          if ¬ x4 < 0 ∧ (x4).toNatClampNeg < 6 then
            (f_X4_bounded n (q5.2 23 (x4).toNatClampNeg) q5.2).bind fun q9 =>
            g_X4_weigh_33 n p1 m x2 (x3 + q9.1) (x4 + 1) q9.2
          else
            none
      else
        none
set_option maxRecDepth 100000 in
set_option maxHeartbeats 4000000 in
theorem l_X4_weigh_33 (n : Nat) (p1 : Nat) (hp1 : p1 < NT) (hk1 : kd p1 = 3) : ∀ (m : Nat) (x2 : Int32) (x3 : Int32) (x4 : Int32) (A : Mem) (q : Int32 × Mem), g_X4_weigh_33 n p1 m x2 x3 x4 A = some q → Ev cX4_weigh 5 RX4 (some .int) 2 none 33 [(0, .ref 22), (2, .int x2), (3, .int x3), (4, .int x4)] [] A (RI q) := by
  intro m
  induction m with
  | zero => intro x2 x3 x4 A q h; exact absurd h (by simp [g_X4_weigh_33])
  | succ m ih =>
    intro x2 x3 x4 A q h
    rw [g_X4_weigh_33] at h
    refine ev_iload 3 dX4_weigh_33 rfl ?_
    refine ev_bipush (v := 6) dX4_weigh_35 (by decide) ?_
    refine ev_icmp_ge (tgt := 73) dX4_weigh_37 (by decide) (fun c3 => ?_) (fun c3 => ?_)
    · have h := if_t c3 h
      refine ev_iload_n 2 dX4_weigh_73 rfl rfl ?_
      cases h
      exact ev_iret dX4_weigh_74 rfl rfl ⟨rfl, rfl⟩
    · have h := if_f c3 h
      refine ev_aload_n 0 dX4_weigh_40 rfl rfl ?_
      refine ev_getR (r := 24) dX4_weigh_41 fl_X4_15 (by decide) rfl (by decide) (by decide) rfl ?_
      refine ev_iload_n 1 dX4_weigh_44 rfl rfl ?_
      obtain ⟨c4, h⟩ := if_c h
      refine ev_ialdc 10 dX4_weigh_45 (by decide) rfl rfl (by decide) c4 ?_
      refine ev_iload 3 dX4_weigh_46 rfl ?_
      obtain ⟨q5, e6, h⟩ := bd_c h
      refine ev_callSi (av := [.int (A 24 (x2).toNatClampNeg), .int x4]) dX4_weigh_48 (c_X9_hasBit n (A 24 (x2).toNatClampNeg) x4  A q5 e6) mk_X9_hasBit lk_X4_87 is_X9_hasBit rfl (by decide) (by decide) (Nat.le_of_ble_eq_true rfl) rfl ?_
      refine ev_if_eq (tgt := 67) dX4_weigh_51 (by decide) (fun c7 => ?_) (fun c7 => ?_)
      · have h := if_t c7 h
        refine ev_iinc (v := x4 + 1) (ls' := [(4, .int (x4 + 1)), (0, .ref 22), (2, .int x2), (3, .int x3)]) 3 dX4_weigh_67 rfl rfl (by decide) rfl ?_
        refine ev_goto (tgt := 33) dX4_weigh_70 (by decide) ?_
        refine ev_pick [1, 2, 3, 0] (ls' := [(0, .ref 22), (2, .int x2), (3, .int x3), (4, .int (x4 + 1))]) rfl ?_
        exact ih x2 x3 (x4 + 1) _ q h
      · have h := if_f c7 h
        refine ev_iload_n 2 dX4_weigh_54 rfl rfl ?_
        refine ev_aload_n 0 dX4_weigh_55 rfl rfl ?_
        refine ev_getR (r := 23) dX4_weigh_56 fl_X4_9 (by decide) rfl (by decide) (by decide) rfl ?_
        refine ev_iload 3 dX4_weigh_59 rfl ?_
        obtain ⟨c8, h⟩ := if_c h
        refine ev_ialdc 6 dX4_weigh_61 (by decide) rfl rfl (by decide) c8 ?_
        obtain ⟨q9, e10, h⟩ := bd_c h
        refine ev_callSi (av := [.int (q5.2 23 (x4).toNatClampNeg)]) dX4_weigh_62 (c_X4_bounded n (q5.2 23 (x4).toNatClampNeg)  q5.2 q9 e10) mk_X4_bounded lk_X4_76 is_X4_bounded rfl (by decide) (by decide) (Nat.le_of_ble_eq_true rfl) rfl ?_
        refine ev_iadd dX4_weigh_65 ?_
        refine ev_istore_n (ls' := [(3, .int (x3 + q9.1)), (0, .ref 22), (2, .int x2), (4, .int x4)]) dX4_weigh_66 rfl (by decide) rfl ?_
        refine ev_iinc (v := x4 + 1) (ls' := [(4, .int (x4 + 1)), (3, .int (x3 + q9.1)), (0, .ref 22), (2, .int x2)]) 3 dX4_weigh_67 rfl rfl (by decide) rfl ?_
        refine ev_goto (tgt := 33) dX4_weigh_70 (by decide) ?_
        refine ev_pick [2, 3, 1, 0] (ls' := [(0, .ref 22), (2, .int x2), (3, .int (x3 + q9.1)), (4, .int (x4 + 1))]) rfl ?_
        exact ih x2 (x3 + q9.1) (x4 + 1) _ q h
def f_X4_weigh (n : Nat) (p1 : Nat) (x2 : Int32) (A : Mem) : Option (Int32 × Mem) :=
  if ¬ x2 < 0 ∧ (x2).toNatClampNeg < 10 then
    if (A 24 (x2).toNatClampNeg) = 0 then
      some ((0 : Int32), A)
    else
      g_X4_weigh_33 n p1 n x2 ((A (rf p1 0) 4) * ((bitc (A 24 (x2).toNatClampNeg)) - ((1 : Int32)))) ((0 : Int32)) A
  else
    none
set_option maxRecDepth 100000 in
set_option maxHeartbeats 4000000 in
theorem c_X4_weigh (n : Nat) (p1 : Nat) (x2 : Int32) (hp1 : p1 < NT) (hk1 : kd p1 = 3) (A : Mem) (q : Int32 × Mem) (h : f_X4_weigh n p1 x2 A = some q) : Ct yX4_weigh cX4_weigh 5 (some .int) 2 [.ref 22, .ref p1, .int x2] A (RI q) := by
  unfold f_X4_weigh at h
  refine ct_of (by decide) (Nat.le_of_ble_eq_true rfl) ?_
  show Ev cX4_weigh 5 RX4 (some .int) 2 none 0 [(0, .ref 22), (1, .ref p1), (2, .int x2)] [] A (RI q)
  refine ev_aload_n 0 dX4_weigh_0 rfl rfl ?_
  refine ev_getR (r := 24) dX4_weigh_1 fl_X4_15 (by decide) rfl (by decide) (by decide) rfl ?_
  refine ev_iload_n 2 dX4_weigh_4 rfl rfl ?_
  obtain ⟨c1, h⟩ := if_c h
  refine ev_ialdc 10 dX4_weigh_5 (by decide) rfl rfl (by decide) c1 ?_
  refine ev_if_ne (tgt := 11) dX4_weigh_6 (by decide) (fun c2 => ?_) (fun c2 => ?_)
  · have h := if_f c2 h
    refine ev_aload_n 1 dX4_weigh_11 rfl rfl ?_
    refine ev_getR (r := rf p1 0) dX4_weigh_12 fl_X4_49 hp1 hk1 (sl_3_0 p1 hp1 hk1) (by decide) (sr_3_0 p1 hp1 hk1) ?_
    refine ev_iconst (v := 4) dX4_weigh_15 (by decide) ?_
    refine ev_ialdl 6 4 dX4_weigh_16 (sa_3_0 p1 hp1 hk1).1 (sa_3_0 p1 hp1 hk1).2.1 (sa_3_0 p1 hp1 hk1).2.2 (by decide) rfl (by decide) ?_
    refine ev_aload_n 0 dX4_weigh_17 rfl rfl ?_
    refine ev_getR (r := 24) dX4_weigh_18 fl_X4_15 (by decide) rfl (by decide) (by decide) rfl ?_
    refine ev_iload_n 2 dX4_weigh_21 rfl rfl ?_
    refine ev_ialdc 10 dX4_weigh_22 (by decide) rfl rfl (by decide) c1 ?_
    refine ev_callSi (av := [.int (A 24 (x2).toNatClampNeg)]) dX4_weigh_23 (c_bitc (A 24 (x2).toNatClampNeg) A) mk_J6_bitCount_0f7a4 lk_X4_82 is_J6_bitCount_0f7a4 rfl (by decide) (by decide) (Nat.le_of_ble_eq_true rfl) rfl ?_
    refine ev_iconst (v := 1) dX4_weigh_26 (by decide) ?_
    refine ev_isub dX4_weigh_27 ?_
    refine ev_imul dX4_weigh_28 ?_
    refine ev_istore_n (ls' := [(3, .int ((A (rf p1 0) 4) * ((bitc (A 24 (x2).toNatClampNeg)) - ((1 : Int32))))), (0, .ref 22), (1, .ref p1), (2, .int x2)]) dX4_weigh_29 rfl (by decide) rfl ?_
    refine ev_iconst (v := 0) dX4_weigh_30 (by decide) ?_
    refine ev_istore (ls' := [(4, .int ((0 : Int32))), (3, .int ((A (rf p1 0) 4) * ((bitc (A 24 (x2).toNatClampNeg)) - ((1 : Int32))))), (0, .ref 22), (1, .ref p1), (2, .int x2)]) dX4_weigh_31 (by decide) rfl ?_
    refine ev_pick [2, 4, 1, 0] (ls' := [(0, .ref 22), (2, .int x2), (3, .int ((A (rf p1 0) 4) * ((bitc (A 24 (x2).toNatClampNeg)) - ((1 : Int32))))), (4, .int ((0 : Int32)))]) rfl ?_
    exact (l_X4_weigh_33 n p1 hp1 hk1 n) x2 ((A (rf p1 0) 4) * ((bitc (A 24 (x2).toNatClampNeg)) - ((1 : Int32)))) ((0 : Int32)) _ q h
  · have h := if_t c2 h
    refine ev_iconst (v := 0) dX4_weigh_9 (by decide) ?_
    cases h
    exact ev_iret dX4_weigh_10 rfl rfl ⟨rfl, rfl⟩
def g_X4_heaviest_7 (n : Nat) (p1 : Nat) : Nat → Int32 → Int32 → Int32 → Mem → Option (Int32 × Mem)
  | 0, _, _, _, _ => none
  | m + 1, x2, x3, x4, A =>
    if ((10 : Int32)) ≤ x4 then
      if x3 < (A (rf p1 0) 5) then
        some ((-1 : Int32), A)
      else
        some (x2, A)
    else
      if ¬ x4 < 0 ∧ (x4).toNatClampNeg < 10 then
        if (A 24 (x4).toNatClampNeg) = 0 then
          g_X4_heaviest_7 n p1 m x2 x3 (x4 + 1) A
        else
          (f_X4_weigh n p1 x4 A).bind fun q5 =>
          if q5.1 ≤ x3 then
            g_X4_heaviest_7 n p1 m x2 x3 (x4 + 1) q5.2
          else
            g_X4_heaviest_7 n p1 m x4 q5.1 (x4 + 1) q5.2
      else
        none
set_option maxRecDepth 100000 in
set_option maxHeartbeats 4000000 in
theorem l_X4_heaviest_7 (n : Nat) (p1 : Nat) (hp1 : p1 < NT) (hk1 : kd p1 = 3) : ∀ (m : Nat) (x2 : Int32) (x3 : Int32) (x4 : Int32) (A : Mem) (q : Int32 × Mem), g_X4_heaviest_7 n p1 m x2 x3 x4 A = some q → Ev cX4_heaviest 6 RX4 (some .int) 3 none 7 [(0, .ref 22), (1, .ref p1), (2, .int x2), (3, .int x3), (4, .int x4)] [] A (RI q) := by
  intro m
  induction m with
  | zero => intro x2 x3 x4 A q h; exact absurd h (by simp [g_X4_heaviest_7])
  | succ m ih =>
    intro x2 x3 x4 A q h
    rw [g_X4_heaviest_7] at h
    refine ev_iload 4 dX4_heaviest_7 rfl ?_
    refine ev_bipush (v := 10) dX4_heaviest_9 (by decide) ?_
    refine ev_icmp_ge (tgt := 51) dX4_heaviest_11 (by decide) (fun c1 => ?_) (fun c1 => ?_)
    · have h := if_t c1 h
      refine ev_iload_n 3 dX4_heaviest_51 rfl rfl ?_
      refine ev_aload_n 1 dX4_heaviest_52 rfl rfl ?_
      refine ev_getR (r := rf p1 0) dX4_heaviest_53 fl_X4_49 hp1 hk1 (sl_3_0 p1 hp1 hk1) (by decide) (sr_3_0 p1 hp1 hk1) ?_
      refine ev_iconst (v := 5) dX4_heaviest_56 (by decide) ?_
      refine ev_ialdl 6 5 dX4_heaviest_57 (sa_3_0 p1 hp1 hk1).1 (sa_3_0 p1 hp1 hk1).2.1 (sa_3_0 p1 hp1 hk1).2.2 (by decide) rfl (by decide) ?_
      refine ev_icmp_lt (tgt := 65) dX4_heaviest_58 (by decide) (fun c2 => ?_) (fun c2 => ?_)
      · have h := if_t c2 h
        refine ev_iconst (v := -1) dX4_heaviest_65 (by decide) ?_
        cases h
        exact ev_iret dX4_heaviest_66 rfl rfl ⟨rfl, rfl⟩
      · have h := if_f c2 h
        refine ev_iload_n 2 dX4_heaviest_61 rfl rfl ?_
        refine ev_goto (tgt := 66) dX4_heaviest_62 (by decide) ?_
        cases h
        exact ev_iret dX4_heaviest_66 rfl rfl ⟨rfl, rfl⟩
    · have h := if_f c1 h
      refine ev_aload_n 0 dX4_heaviest_14 rfl rfl ?_
      refine ev_getR (r := 24) dX4_heaviest_15 fl_X4_15 (by decide) rfl (by decide) (by decide) rfl ?_
      refine ev_iload 4 dX4_heaviest_18 rfl ?_
      obtain ⟨c3, h⟩ := if_c h
      refine ev_ialdc 10 dX4_heaviest_20 (by decide) rfl rfl (by decide) c3 ?_
      refine ev_if_eq (tgt := 45) dX4_heaviest_21 (by decide) (fun c4 => ?_) (fun c4 => ?_)
      · have h := if_t c4 h
        refine ev_iinc (v := x4 + 1) (ls' := [(4, .int (x4 + 1)), (0, .ref 22), (1, .ref p1), (2, .int x2), (3, .int x3)]) 4 dX4_heaviest_45 rfl rfl (by decide) rfl ?_
        refine ev_goto (tgt := 7) dX4_heaviest_48 (by decide) ?_
        refine ev_pick [1, 2, 3, 4, 0] (ls' := [(0, .ref 22), (1, .ref p1), (2, .int x2), (3, .int x3), (4, .int (x4 + 1))]) rfl ?_
        exact ih x2 x3 (x4 + 1) _ q h
      · have h := if_f c4 h
        refine ev_aload_n 0 dX4_heaviest_24 rfl rfl ?_
        refine ev_aload_n 1 dX4_heaviest_25 rfl rfl ?_
        refine ev_iload 4 dX4_heaviest_26 rfl ?_
        obtain ⟨q5, e6, h⟩ := bd_c h
        refine ev_callVi (av := [.ref p1, .int x4]) dX4_heaviest_28 (c_X4_weigh n p1 x4 hp1 hk1 A q5 e6) mk_X4_weigh lk_X4_90 iv_X4_weigh (Or.inl ⟨4, _, by decide, rfl, by decide, rfl, rfl⟩) rfl (by decide) (by decide) (Nat.le_of_ble_eq_true rfl) rfl ?_
        refine ev_istore (ls' := [(5, .int q5.1), (0, .ref 22), (1, .ref p1), (2, .int x2), (3, .int x3), (4, .int x4)]) dX4_heaviest_31 (by decide) rfl ?_
        refine ev_iload 0 dX4_heaviest_33 rfl ?_
        refine ev_iload_n 4 dX4_heaviest_35 rfl rfl ?_
        refine ev_icmp_le (tgt := 45) dX4_heaviest_36 (by decide) (fun c7 => ?_) (fun c7 => ?_)
        · have h := if_t c7 h
          refine ev_iinc (v := x4 + 1) (ls' := [(4, .int (x4 + 1)), (5, .int q5.1), (0, .ref 22), (1, .ref p1), (2, .int x2), (3, .int x3)]) 5 dX4_heaviest_45 rfl rfl (by decide) rfl ?_
          refine ev_goto (tgt := 7) dX4_heaviest_48 (by decide) ?_
          refine ev_pick [2, 3, 4, 5, 0] (ls' := [(0, .ref 22), (1, .ref p1), (2, .int x2), (3, .int x3), (4, .int (x4 + 1))]) rfl ?_
          exact ih x2 x3 (x4 + 1) _ q h
        · have h := if_f c7 h
          refine ev_iload 0 dX4_heaviest_39 rfl ?_
          refine ev_istore_n (ls' := [(3, .int q5.1), (5, .int q5.1), (0, .ref 22), (1, .ref p1), (2, .int x2), (4, .int x4)]) dX4_heaviest_41 rfl (by decide) rfl ?_
          refine ev_iload 5 dX4_heaviest_42 rfl ?_
          refine ev_istore_n (ls' := [(2, .int x4), (3, .int q5.1), (5, .int q5.1), (0, .ref 22), (1, .ref p1), (4, .int x4)]) dX4_heaviest_44 rfl (by decide) rfl ?_
          refine ev_iinc (v := x4 + 1) (ls' := [(4, .int (x4 + 1)), (2, .int x4), (3, .int q5.1), (5, .int q5.1), (0, .ref 22), (1, .ref p1)]) 5 dX4_heaviest_45 rfl rfl (by decide) rfl ?_
          refine ev_goto (tgt := 7) dX4_heaviest_48 (by decide) ?_
          refine ev_pick [4, 5, 1, 2, 0] (ls' := [(0, .ref 22), (1, .ref p1), (2, .int x4), (3, .int q5.1), (4, .int (x4 + 1))]) rfl ?_
          exact ih x4 q5.1 (x4 + 1) _ q h
def f_X4_heaviest (n : Nat) (p1 : Nat) (A : Mem) : Option (Int32 × Mem) :=
  g_X4_heaviest_7 n p1 n ((-1 : Int32)) ((-1 : Int32)) ((0 : Int32)) A
set_option maxRecDepth 100000 in
set_option maxHeartbeats 4000000 in
theorem c_X4_heaviest (n : Nat) (p1 : Nat) (hp1 : p1 < NT) (hk1 : kd p1 = 3) (A : Mem) (q : Int32 × Mem) (h : f_X4_heaviest n p1 A = some q) : Ct yX4_heaviest cX4_heaviest 6 (some .int) 3 [.ref 22, .ref p1] A (RI q) := by
  unfold f_X4_heaviest at h
  refine ct_of (by decide) (Nat.le_of_ble_eq_true rfl) ?_
  show Ev cX4_heaviest 6 RX4 (some .int) 3 none 0 [(0, .ref 22), (1, .ref p1)] [] A (RI q)
  refine ev_iconst (v := -1) dX4_heaviest_0 (by decide) ?_
  refine ev_istore_n (ls' := [(2, .int ((-1 : Int32))), (0, .ref 22), (1, .ref p1)]) dX4_heaviest_1 rfl (by decide) rfl ?_
  refine ev_iconst (v := -1) dX4_heaviest_2 (by decide) ?_
  refine ev_istore_n (ls' := [(3, .int ((-1 : Int32))), (2, .int ((-1 : Int32))), (0, .ref 22), (1, .ref p1)]) dX4_heaviest_3 rfl (by decide) rfl ?_
  refine ev_iconst (v := 0) dX4_heaviest_4 (by decide) ?_
  refine ev_istore (ls' := [(4, .int ((0 : Int32))), (3, .int ((-1 : Int32))), (2, .int ((-1 : Int32))), (0, .ref 22), (1, .ref p1)]) dX4_heaviest_5 (by decide) rfl ?_
  refine ev_pick [3, 4, 2, 1, 0] (ls' := [(0, .ref 22), (1, .ref p1), (2, .int ((-1 : Int32))), (3, .int ((-1 : Int32))), (4, .int ((0 : Int32)))]) rfl ?_
  exact (l_X4_heaviest_7 n p1 hp1 hk1 n) ((-1 : Int32)) ((-1 : Int32)) ((0 : Int32)) _ q h
def f_X4_judge (n : Nat) (p1 : Nat) (x2 : Int32) (x3 : Int32) (A : Mem) : Option (Int32 × Mem) :=
  (f_X3_knows n p1 x2 x3 A).bind fun q1 =>
  if q1.1 = 0 then
    (f_X4_gather n x2 x3 q1.2).bind fun q4 =>
    (f_X4_heaviest n p1 q4.2).bind fun q6 =>
    some (q6.1, q6.2)
  else
    (f_X8_valueOf n x2 q1.2).bind fun q8 =>
    some (q8.1, q8.2)
set_option maxRecDepth 100000 in
set_option maxHeartbeats 4000000 in
theorem c_X4_judge (n : Nat) (p1 : Nat) (x2 : Int32) (x3 : Int32) (hp1 : p1 < NT) (hk1 : kd p1 = 3) (A : Mem) (q : Int32 × Mem) (h : f_X4_judge n p1 x2 x3 A = some q) : Ct yX4_judge cX4_judge 4 (some .int) 4 [.ref 22, .ref p1, .int x2, .int x3] A (RI q) := by
  unfold f_X4_judge at h
  refine ct_of (by decide) (Nat.le_of_ble_eq_true rfl) ?_
  show Ev cX4_judge 4 RX4 (some .int) 4 none 0 [(0, .ref 22), (1, .ref p1), (2, .int x2), (3, .int x3)] [] A (RI q)
  refine ev_aload_n 1 dX4_judge_0 rfl rfl ?_
  refine ev_iload_n 2 dX4_judge_1 rfl rfl ?_
  refine ev_iload_n 3 dX4_judge_2 rfl rfl ?_
  obtain ⟨q1, e2, h⟩ := bd_c h
  refine ev_callVi (av := [.int x2, .int x3]) dX4_judge_3 (c_X3_knows n p1 x2 x3 hp1 hk1 A q1 e2) mk_X3_knows lk_X4_35 iv_X3_knows (Or.inl ⟨3, _, hp1, hk1, by decide, rfl, rfl⟩) rfl (by decide) (by decide) (Nat.le_of_ble_eq_true rfl) rfl ?_
  refine ev_if_eq (tgt := 18) dX4_judge_6 (by decide) (fun c3 => ?_) (fun c3 => ?_)
  · have h := if_t c3 h
    refine ev_aload_n 0 dX4_judge_18 rfl rfl ?_
    refine ev_iload_n 2 dX4_judge_19 rfl rfl ?_
    refine ev_iload_n 3 dX4_judge_20 rfl rfl ?_
    obtain ⟨q4, e5, h⟩ := bd_c h
    refine ev_callVv (av := [.int x2, .int x3]) dX4_judge_21 (c_X4_gather n x2 x3  q1.2 q4 e5) mk_X4_gather lk_X4_98 iv_X4_gather (Or.inl ⟨4, _, by decide, rfl, by decide, rfl, rfl⟩) rfl (by decide) (by decide) (Nat.le_of_ble_eq_true rfl) rfl ?_
    refine ev_aload_n 0 dX4_judge_24 rfl rfl ?_
    refine ev_aload_n 1 dX4_judge_25 rfl rfl ?_
    obtain ⟨q6, e7, h⟩ := bd_c h
    refine ev_callVi (av := [.ref p1]) dX4_judge_26 (c_X4_heaviest n p1 hp1 hk1 q4.2 q6 e7) mk_X4_heaviest lk_X4_102 iv_X4_heaviest (Or.inl ⟨4, _, by decide, rfl, by decide, rfl, rfl⟩) rfl (by decide) (by decide) (Nat.le_of_ble_eq_true rfl) rfl ?_
    cases h
    exact ev_iret dX4_judge_29 rfl rfl ⟨rfl, rfl⟩
  · have h := if_f c3 h
    refine ev_aload_n 0 dX4_judge_9 rfl rfl ?_
    refine ev_getR (r := 1) dX4_judge_10 fl_X4_18 (by decide) rfl (by decide) (by decide) rfl ?_
    refine ev_iload_n 2 dX4_judge_13 rfl rfl ?_
    obtain ⟨q8, e9, h⟩ := bd_c h
    refine ev_callVi (av := [.int x2]) dX4_judge_14 (c_X8_valueOf n x2  q1.2 q8 e9) mk_X8_valueOf lk_X4_41 iv_X8_valueOf (Or.inl ⟨8, _, by decide, rfl, by decide, rfl, rfl⟩) rfl (by decide) (by decide) (Nat.le_of_ble_eq_true rfl) rfl ?_
    cases h
    exact ev_iret dX4_judge_17 rfl rfl ⟨rfl, rfl⟩
def f_X4_conclude (n : Nat) (p1 : Nat) (x2 : Int32) (x3 : Int32) (A : Mem) : Option (Int32 × Mem) :=
  (f_X4_sumTrust n p1 x3 A).bind fun q1 =>
  (f_X4_judge n p1 x2 x3 q1.2).bind fun q3 =>
  some (q3.1, q3.2)
set_option maxRecDepth 100000 in
set_option maxHeartbeats 4000000 in
theorem c_X4_conclude (n : Nat) (p1 : Nat) (x2 : Int32) (x3 : Int32) (hp1 : p1 < NT) (hk1 : kd p1 = 3) (A : Mem) (q : Int32 × Mem) (h : f_X4_conclude n p1 x2 x3 A = some q) : Ct yX4_conclude cX4_conclude 4 (some .int) 5 [.ref 22, .ref p1, .int x2, .int x3] A (RI q) := by
  unfold f_X4_conclude at h
  refine ct_of (by decide) (Nat.le_of_ble_eq_true rfl) ?_
  show Ev cX4_conclude 4 RX4 (some .int) 5 none 0 [(0, .ref 22), (1, .ref p1), (2, .int x2), (3, .int x3)] [] A (RI q)
  refine ev_aload_n 0 dX4_conclude_0 rfl rfl ?_
  refine ev_aload_n 1 dX4_conclude_1 rfl rfl ?_
  refine ev_iload_n 3 dX4_conclude_2 rfl rfl ?_
  obtain ⟨q1, e2, h⟩ := bd_c h
  refine ev_callVv (av := [.ref p1, .int x3]) dX4_conclude_3 (c_X4_sumTrust n p1 x3 hp1 hk1 A q1 e2) mk_X4_sumTrust lk_X4_72 iv_X4_sumTrust (Or.inl ⟨4, _, by decide, rfl, by decide, rfl, rfl⟩) rfl (by decide) (by decide) (Nat.le_of_ble_eq_true rfl) rfl ?_
  refine ev_aload_n 0 dX4_conclude_6 rfl rfl ?_
  refine ev_aload_n 1 dX4_conclude_7 rfl rfl ?_
  refine ev_iload_n 2 dX4_conclude_8 rfl rfl ?_
  refine ev_iload_n 3 dX4_conclude_9 rfl rfl ?_
  obtain ⟨q3, e4, h⟩ := bd_c h
  refine ev_callVi (av := [.ref p1, .int x2, .int x3]) dX4_conclude_10 (c_X4_judge n p1 x2 x3 hp1 hk1 q1.2 q3 e4) mk_X4_judge lk_X4_94 iv_X4_judge (Or.inl ⟨4, _, by decide, rfl, by decide, rfl, rfl⟩) rfl (by decide) (by decide) (Nat.le_of_ble_eq_true rfl) rfl ?_
  cases h
  exact ev_iret dX4_conclude_13 rfl rfl ⟨rfl, rfl⟩
def f_X9_concluded (n : Nat) (x1 : Int32) (x2 : Int32) (x3 : Int32) (x4 : Int32) (x5 : Int32) (A : Mem) : Option (Int32 × Mem) :=
  (f_X9_refuseReading n x1 x2 x3 x4 x5 A).bind fun q1 =>
  if q1.1 = 0 then
    if ¬ x1 < 0 ∧ (x1).toNatClampNeg < 2 then
      (f_X9_topicOf n x2 x3 x4 q1.2).bind fun q6 =>
      (f_X4_conclude n (rf 50 (x1).toNatClampNeg) q6.1 x5 q6.2).bind fun q8 =>
      some (q8.1, q8.2)
    else
      none
  else
    some (q1.1, q1.2)
set_option maxRecDepth 100000 in
set_option maxHeartbeats 4000000 in
theorem c_X9_concluded (n : Nat) (x1 : Int32) (x2 : Int32) (x3 : Int32) (x4 : Int32) (x5 : Int32) (A : Mem) (q : Int32 × Mem) (h : f_X9_concluded n x1 x2 x3 x4 x5 A = some q) : Ct yX9_concluded cX9_concluded 7 (some .int) 6 [.ref 0, .int x1, .int x2, .int x3, .int x4, .int x5] A (RI q) := by
  unfold f_X9_concluded at h
  refine ct_of (by decide) (Nat.le_of_ble_eq_true rfl) ?_
  show Ev cX9_concluded 7 RX9 (some .int) 6 none 0 [(0, .ref 0), (1, .int x1), (2, .int x2), (3, .int x3), (4, .int x4), (5, .int x5)] [] A (RI q)
  refine ev_iload_n 1 dX9_concluded_0 rfl rfl ?_
  refine ev_iload_n 2 dX9_concluded_1 rfl rfl ?_
  refine ev_iload_n 3 dX9_concluded_2 rfl rfl ?_
  refine ev_iload 4 dX9_concluded_3 rfl ?_
  refine ev_iload 5 dX9_concluded_5 rfl ?_
  obtain ⟨q1, e2, h⟩ := bd_c h
  refine ev_callSi (av := [.int x1, .int x2, .int x3, .int x4, .int x5]) dX9_concluded_7 (c_X9_refuseReading n x1 x2 x3 x4 x5  A q1 e2) mk_X9_refuseReading lk_X9_214 is_X9_refuseReading rfl (by decide) (by decide) (Nat.le_of_ble_eq_true rfl) rfl ?_
  refine ev_istore (ls' := [(6, .int q1.1), (0, .ref 0), (1, .int x1), (2, .int x2), (3, .int x3), (4, .int x4), (5, .int x5)]) dX9_concluded_10 (by decide) rfl ?_
  refine ev_iload 0 dX9_concluded_12 rfl ?_
  refine ev_if_eq (tgt := 22) dX9_concluded_14 (by decide) (fun c3 => ?_) (fun c3 => ?_)
  · have h := if_t c3 h
    refine ev_aload_n 1 dX9_concluded_22 rfl rfl ?_
    refine ev_getR (r := 22) dX9_concluded_23 fl_X9_73 (by decide) rfl (by decide) (by decide) rfl ?_
    refine ev_aload_n 1 dX9_concluded_26 rfl rfl ?_
    refine ev_getR (r := 50) dX9_concluded_27 fl_X9_62 (by decide) rfl (by decide) (by decide) rfl ?_
    refine ev_iload_n 2 dX9_concluded_30 rfl rfl ?_
    obtain ⟨c4, h⟩ := if_c h
    have e5 := el_50 _ c4.2
    refine ev_aaldc 2 dX9_concluded_31 (by decide) rfl (Or.inr rfl) rfl (by decide) c4 e5.1 ?_
    refine ev_iload_n 3 dX9_concluded_32 rfl rfl ?_
    refine ev_iload_n 4 dX9_concluded_33 rfl rfl ?_
    refine ev_iload 5 dX9_concluded_34 rfl ?_
    obtain ⟨q6, e7, h⟩ := bd_c h
    refine ev_callSi (av := [.int x2, .int x3, .int x4]) dX9_concluded_36 (c_X9_topicOf n x2 x3 x4  q1.2 q6 e7) mk_X9_topicOf lk_X9_111 is_X9_topicOf rfl (by decide) (by decide) (Nat.le_of_ble_eq_true rfl) rfl ?_
    refine ev_iload 6 dX9_concluded_39 rfl ?_
    obtain ⟨q8, e9, h⟩ := bd_c h
    refine ev_callVi (av := [.ref (rf 50 (x1).toNatClampNeg), .int q6.1, .int x5]) dX9_concluded_41 (c_X4_conclude n (rf 50 (x1).toNatClampNeg) q6.1 x5 e5.2.1 e5.2.2 q6.2 q8 e9) mk_X4_conclude lk_X9_217 iv_X4_conclude (Or.inl ⟨4, _, by decide, rfl, by decide, rfl, rfl⟩) rfl (by decide) (by decide) (Nat.le_of_ble_eq_true rfl) rfl ?_
    cases h
    exact ev_iret dX9_concluded_44 rfl rfl ⟨rfl, rfl⟩
  · have h := if_f c3 h
    refine ev_iload 0 dX9_concluded_17 rfl ?_
    refine ev_goto (tgt := 44) dX9_concluded_19 (by decide) ?_
    cases h
    exact ev_iret dX9_concluded_44 rfl rfl ⟨rfl, rfl⟩
def f_X9_weight (n : Nat) (x1 : Int32) (x2 : Int32) (x3 : Int32) (x4 : Int32) (x5 : Int32) (x6 : Int32) (A : Mem) : Option (Int32 × Mem) :=
  (f_X9_refuseReading n x1 x2 x3 x4 x6 A).bind fun q1 =>
  if q1.1 = 0 then
    (f_X9_isBelow n x5 ((10 : Int32)) q1.2).bind fun q4 =>
    if q4.1 = 0 then
      some ((-3 : Int32), q4.2)
    else
      if ¬ x1 < 0 ∧ (x1).toNatClampNeg < 2 then
        (f_X4_sumTrust n (rf 50 (x1).toNatClampNeg) x6 q4.2).bind fun q9 =>
        (f_X9_topicOf n x2 x3 x4 q9.2).bind fun q11 =>
        (f_X4_gather n q11.1 x6 q11.2).bind fun q13 =>
        (f_X4_weigh n (rf 50 (x1).toNatClampNeg) x5 q13.2).bind fun q16 =>
        some (q16.1, q16.2)
      else
        none
  else
    some (q1.1, q1.2)
set_option maxRecDepth 100000 in
set_option maxHeartbeats 4000000 in
theorem c_X9_weight (n : Nat) (x1 : Int32) (x2 : Int32) (x3 : Int32) (x4 : Int32) (x5 : Int32) (x6 : Int32) (A : Mem) (q : Int32 × Mem) (h : f_X9_weight n x1 x2 x3 x4 x5 x6 A = some q) : Ct yX9_weight cX9_weight 8 (some .int) 4 [.ref 0, .int x1, .int x2, .int x3, .int x4, .int x5, .int x6] A (RI q) := by
  unfold f_X9_weight at h
  refine ct_of (by decide) (Nat.le_of_ble_eq_true rfl) ?_
  show Ev cX9_weight 8 RX9 (some .int) 4 none 0 [(0, .ref 0), (1, .int x1), (2, .int x2), (3, .int x3), (4, .int x4), (5, .int x5), (6, .int x6)] [] A (RI q)
  refine ev_iload_n 1 dX9_weight_0 rfl rfl ?_
  refine ev_iload_n 2 dX9_weight_1 rfl rfl ?_
  refine ev_iload_n 3 dX9_weight_2 rfl rfl ?_
  refine ev_iload 4 dX9_weight_3 rfl ?_
  refine ev_iload 6 dX9_weight_5 rfl ?_
  obtain ⟨q1, e2, h⟩ := bd_c h
  refine ev_callSi (av := [.int x1, .int x2, .int x3, .int x4, .int x6]) dX9_weight_7 (c_X9_refuseReading n x1 x2 x3 x4 x6  A q1 e2) mk_X9_refuseReading lk_X9_214 is_X9_refuseReading rfl (by decide) (by decide) (Nat.le_of_ble_eq_true rfl) rfl ?_
  refine ev_istore (ls' := [(7, .int q1.1), (0, .ref 0), (1, .int x1), (2, .int x2), (3, .int x3), (4, .int x4), (5, .int x5), (6, .int x6)]) dX9_weight_10 (by decide) rfl ?_
  refine ev_iload 0 dX9_weight_12 rfl ?_
  refine ev_if_eq (tgt := 20) dX9_weight_14 (by decide) (fun c3 => ?_) (fun c3 => ?_)
  · have h := if_t c3 h
    refine ev_iload 6 dX9_weight_20 rfl ?_
    refine ev_bipush (v := 10) dX9_weight_22 (by decide) ?_
    obtain ⟨q4, e5, h⟩ := bd_c h
    refine ev_callSi (av := [.int x5, .int ((10 : Int32))]) dX9_weight_24 (c_X9_isBelow n x5 ((10 : Int32))  q1.2 q4 e5) mk_X9_isBelow lk_X9_93 is_X9_isBelow rfl (by decide) (by decide) (Nat.le_of_ble_eq_true rfl) rfl ?_
    refine ev_if_ne (tgt := 33) dX9_weight_27 (by decide) (fun c6 => ?_) (fun c6 => ?_)
    · have h := if_f c6 h
      refine ev_aload_n 1 dX9_weight_33 rfl rfl ?_
      refine ev_getR (r := 22) dX9_weight_34 fl_X9_73 (by decide) rfl (by decide) (by decide) rfl ?_
      refine ev_aload_n 1 dX9_weight_37 rfl rfl ?_
      refine ev_getR (r := 50) dX9_weight_38 fl_X9_62 (by decide) rfl (by decide) (by decide) rfl ?_
      refine ev_iload_n 2 dX9_weight_41 rfl rfl ?_
      obtain ⟨c7, h⟩ := if_c h
      have e8 := el_50 _ c7.2
      refine ev_aaldc 2 dX9_weight_42 (by decide) rfl (Or.inr rfl) rfl (by decide) c7 e8.1 ?_
      refine ev_iload 7 dX9_weight_43 rfl ?_
      obtain ⟨q9, e10, h⟩ := bd_c h
      refine ev_callVv (av := [.ref (rf 50 (x1).toNatClampNeg), .int x6]) dX9_weight_45 (c_X4_sumTrust n (rf 50 (x1).toNatClampNeg) x6 e8.2.1 e8.2.2 q4.2 q9 e10) mk_X4_sumTrust lk_X9_220 iv_X4_sumTrust (Or.inl ⟨4, _, by decide, rfl, by decide, rfl, rfl⟩) rfl (by decide) (by decide) (Nat.le_of_ble_eq_true rfl) rfl ?_
      refine ev_aload_n 1 dX9_weight_48 rfl rfl ?_
      refine ev_getR (r := 22) dX9_weight_49 fl_X9_73 (by decide) rfl (by decide) (by decide) rfl ?_
      refine ev_iload_n 3 dX9_weight_52 rfl rfl ?_
      refine ev_iload_n 4 dX9_weight_53 rfl rfl ?_
      refine ev_iload 5 dX9_weight_54 rfl ?_
      obtain ⟨q11, e12, h⟩ := bd_c h
      refine ev_callSi (av := [.int x2, .int x3, .int x4]) dX9_weight_56 (c_X9_topicOf n x2 x3 x4  q9.2 q11 e12) mk_X9_topicOf lk_X9_111 is_X9_topicOf rfl (by decide) (by decide) (Nat.le_of_ble_eq_true rfl) rfl ?_
      refine ev_iload 7 dX9_weight_59 rfl ?_
      obtain ⟨q13, e14, h⟩ := bd_c h
      refine ev_callVv (av := [.int q11.1, .int x6]) dX9_weight_61 (c_X4_gather n q11.1 x6  q11.2 q13 e14) mk_X4_gather lk_X9_224 iv_X4_gather (Or.inl ⟨4, _, by decide, rfl, by decide, rfl, rfl⟩) rfl (by decide) (by decide) (Nat.le_of_ble_eq_true rfl) rfl ?_
      refine ev_aload_n 1 dX9_weight_64 rfl rfl ?_
      refine ev_getR (r := 22) dX9_weight_65 fl_X9_73 (by decide) rfl (by decide) (by decide) rfl ?_
      refine ev_aload_n 1 dX9_weight_68 rfl rfl ?_
      refine ev_getR (r := 50) dX9_weight_69 fl_X9_62 (by decide) rfl (by decide) (by decide) rfl ?_
      refine ev_iload_n 2 dX9_weight_72 rfl rfl ?_
      have e15 := el_50 _ c7.2
      refine ev_aaldc 2 dX9_weight_73 (by decide) rfl (Or.inr rfl) rfl (by decide) c7 e15.1 ?_
      refine ev_iload 6 dX9_weight_74 rfl ?_
      obtain ⟨q16, e17, h⟩ := bd_c h
      refine ev_callVi (av := [.ref (rf 50 (x1).toNatClampNeg), .int x5]) dX9_weight_76 (c_X4_weigh n (rf 50 (x1).toNatClampNeg) x5 e15.2.1 e15.2.2 q13.2 q16 e17) mk_X4_weigh lk_X9_228 iv_X4_weigh (Or.inl ⟨4, _, by decide, rfl, by decide, rfl, rfl⟩) rfl (by decide) (by decide) (Nat.le_of_ble_eq_true rfl) rfl ?_
      cases h
      exact ev_iret dX9_weight_79 rfl rfl ⟨rfl, rfl⟩
    · have h := if_t c6 h
      refine ev_bipush (v := -3) dX9_weight_30 (by decide) ?_
      cases h
      exact ev_iret dX9_weight_32 rfl rfl ⟨rfl, rfl⟩
  · have h := if_f c3 h
    refine ev_iload 0 dX9_weight_17 rfl ?_
    cases h
    exact ev_iret dX9_weight_19 rfl rfl ⟨rfl, rfl⟩
def f_X6_add (n : Nat) (x1 : Int32) (x2 : Int32) (A : Mem) : Option (Int32 × Mem) :=
  if (A 66 2) < ((4 : Int32)) then
    if ¬ (A 66 2) < 0 ∧ (A 66 2).toNatClampNeg < 4 then
      if ¬ ((st2 A 67 (A 66 2).toNatClampNeg x1) 66 2) < 0 ∧ ((st2 A 67 (A 66 2).toNatClampNeg x1) 66 2).toNatClampNeg < 4 then
        some ((st2 (st2 (st2 A 67 (A 66 2).toNatClampNeg x1) 68 ((st2 A 67 (A 66 2).toNatClampNeg x1) 66 2).toNatClampNeg x2) 66 2 (((st2 (st2 A 67 (A 66 2).toNatClampNeg x1) 68 ((st2 A 67 (A 66 2).toNatClampNeg x1) 66 2).toNatClampNeg x2) 66 2) + ((1 : Int32)))) 66 2, st2 (st2 (st2 A 67 (A 66 2).toNatClampNeg x1) 68 ((st2 A 67 (A 66 2).toNatClampNeg x1) 66 2).toNatClampNeg x2) 66 2 (((st2 (st2 A 67 (A 66 2).toNatClampNeg x1) 68 ((st2 A 67 (A 66 2).toNatClampNeg x1) 66 2).toNatClampNeg x2) 66 2) + ((1 : Int32))))
      else
        none
    else
      none
  else
    some ((-5 : Int32), A)
set_option maxRecDepth 100000 in
set_option maxHeartbeats 4000000 in
theorem c_X6_add (n : Nat) (x1 : Int32) (x2 : Int32) (A : Mem) (q : Int32 × Mem) (h : f_X6_add n x1 x2 A = some q) : Ct yX6_add cX6_add 3 (some .int) 0 [.ref 66, .int x1, .int x2] A (RI q) := by
  unfold f_X6_add at h
  refine ct_of (by decide) (Nat.le_of_ble_eq_true rfl) ?_
  show Ev cX6_add 3 RX6 (some .int) 0 none 0 [(0, .ref 66), (1, .int x1), (2, .int x2)] [] A (RI q)
  refine ev_aload_n 0 dX6_add_0 rfl rfl ?_
  refine ev_getI dX6_add_1 fl_X6_18 (by decide) rfl (by decide) (by decide) rfl ?_
  refine ev_iconst (v := 4) dX6_add_4 (by decide) ?_
  refine ev_icmp_lt (tgt := 11) dX6_add_5 (by decide) (fun c1 => ?_) (fun c1 => ?_)
  · have h := if_t c1 h
    refine ev_aload_n 0 dX6_add_11 rfl rfl ?_
    refine ev_getR (r := 67) dX6_add_12 fl_X6_9 (by decide) rfl (by decide) (by decide) rfl ?_
    refine ev_aload_n 0 dX6_add_15 rfl rfl ?_
    refine ev_getI dX6_add_16 fl_X6_18 (by decide) rfl (by decide) (by decide) rfl ?_
    refine ev_iload_n 1 dX6_add_19 rfl rfl ?_
    obtain ⟨c2, h⟩ := if_c h
    refine ev_iastc 4 dX6_add_20 (by decide) rfl rfl (by decide) c2 ?_
    refine ev_aload_n 0 dX6_add_21 rfl rfl ?_
    refine ev_getR (r := 68) dX6_add_22 fl_X6_15 (by decide) rfl (by decide) (by decide) rfl ?_
    refine ev_aload_n 0 dX6_add_25 rfl rfl ?_
    refine ev_getI dX6_add_26 fl_X6_18 (by decide) rfl (by decide) (by decide) rfl ?_
    refine ev_iload_n 2 dX6_add_29 rfl rfl ?_
    obtain ⟨c3, h⟩ := if_c h
    refine ev_iastc 4 dX6_add_30 (by decide) rfl rfl (by decide) c3 ?_
    refine ev_aload_n 0 dX6_add_31 rfl rfl ?_
    refine ev_dup dX6_add_32 rfl ?_
    refine ev_getI dX6_add_33 fl_X6_18 (by decide) rfl (by decide) (by decide) rfl ?_
    refine ev_iconst (v := 1) dX6_add_36 (by decide) ?_
    refine ev_iadd dX6_add_37 ?_
    refine ev_put2 dX6_add_38 fl_X6_18 pk_6_2 (by decide) rfl (by decide) (by decide) rfl ?_
    refine ev_aload_n 0 dX6_add_41 rfl rfl ?_
    refine ev_getI dX6_add_42 fl_X6_18 (by decide) rfl (by decide) (by decide) rfl ?_
    cases h
    exact ev_iret dX6_add_45 rfl rfl ⟨rfl, rfl⟩
  · have h := if_f c1 h
    refine ev_bipush (v := -5) dX6_add_8 (by decide) ?_
    cases h
    exact ev_iret dX6_add_10 rfl rfl ⟨rfl, rfl⟩
def f_X9_story (n : Nat) (x1 : Int32) (x2 : Int32) (x3 : Int32) (x4 : Int32) (A : Mem) : Option (Int32 × Mem) :=
  (f_X9_refuseTopic n x1 x2 x3 A).bind fun q1 =>
  if q1.1 = 0 then
    (f_X9_isBelow n x4 ((10 : Int32)) q1.2).bind fun q4 =>
    if q4.1 = 0 then
      some ((-3 : Int32), q4.2)
    else
      (f_X9_topicOf n x1 x2 x3 q4.2).bind fun q7 =>
      (f_X6_add n q7.1 x4 q7.2).bind fun q9 =>
      some (q9.1, q9.2)
  else
    some (q1.1, q1.2)
set_option maxRecDepth 100000 in
set_option maxHeartbeats 4000000 in
theorem c_X9_story (n : Nat) (x1 : Int32) (x2 : Int32) (x3 : Int32) (x4 : Int32) (A : Mem) (q : Int32 × Mem) (h : f_X9_story n x1 x2 x3 x4 A = some q) : Ct yX9_story cX9_story 6 (some .int) 2 [.ref 0, .int x1, .int x2, .int x3, .int x4] A (RI q) := by
  unfold f_X9_story at h
  refine ct_of (by decide) (Nat.le_of_ble_eq_true rfl) ?_
  show Ev cX9_story 6 RX9 (some .int) 2 none 0 [(0, .ref 0), (1, .int x1), (2, .int x2), (3, .int x3), (4, .int x4)] [] A (RI q)
  refine ev_iload_n 1 dX9_story_0 rfl rfl ?_
  refine ev_iload_n 2 dX9_story_1 rfl rfl ?_
  refine ev_iload_n 3 dX9_story_2 rfl rfl ?_
  obtain ⟨q1, e2, h⟩ := bd_c h
  refine ev_callSi (av := [.int x1, .int x2, .int x3]) dX9_story_3 (c_X9_refuseTopic n x1 x2 x3  A q1 e2) mk_X9_refuseTopic lk_X9_107 is_X9_refuseTopic rfl (by decide) (by decide) (Nat.le_of_ble_eq_true rfl) rfl ?_
  refine ev_istore (ls' := [(5, .int q1.1), (0, .ref 0), (1, .int x1), (2, .int x2), (3, .int x3), (4, .int x4)]) dX9_story_6 (by decide) rfl ?_
  refine ev_iload 0 dX9_story_8 rfl ?_
  refine ev_if_eq (tgt := 16) dX9_story_10 (by decide) (fun c3 => ?_) (fun c3 => ?_)
  · have h := if_t c3 h
    refine ev_iload 5 dX9_story_16 rfl ?_
    refine ev_bipush (v := 10) dX9_story_18 (by decide) ?_
    obtain ⟨q4, e5, h⟩ := bd_c h
    refine ev_callSi (av := [.int x4, .int ((10 : Int32))]) dX9_story_20 (c_X9_isBelow n x4 ((10 : Int32))  q1.2 q4 e5) mk_X9_isBelow lk_X9_93 is_X9_isBelow rfl (by decide) (by decide) (Nat.le_of_ble_eq_true rfl) rfl ?_
    refine ev_if_eq (tgt := 44) dX9_story_23 (by decide) (fun c6 => ?_) (fun c6 => ?_)
    · have h := if_t c6 h
      refine ev_bipush (v := -3) dX9_story_44 (by decide) ?_
      cases h
      exact ev_iret dX9_story_46 rfl rfl ⟨rfl, rfl⟩
    · have h := if_f c6 h
      refine ev_aload_n 1 dX9_story_26 rfl rfl ?_
      refine ev_getR (r := 66) dX9_story_27 fl_X9_69 (by decide) rfl (by decide) (by decide) rfl ?_
      refine ev_iload_n 2 dX9_story_30 rfl rfl ?_
      refine ev_iload_n 3 dX9_story_31 rfl rfl ?_
      refine ev_iload_n 4 dX9_story_32 rfl rfl ?_
      obtain ⟨q7, e8, h⟩ := bd_c h
      refine ev_callSi (av := [.int x1, .int x2, .int x3]) dX9_story_33 (c_X9_topicOf n x1 x2 x3  q4.2 q7 e8) mk_X9_topicOf lk_X9_111 is_X9_topicOf rfl (by decide) (by decide) (Nat.le_of_ble_eq_true rfl) rfl ?_
      refine ev_iload 5 dX9_story_36 rfl ?_
      obtain ⟨q9, e10, h⟩ := bd_c h
      refine ev_callVi (av := [.int q7.1, .int x4]) dX9_story_38 (c_X6_add n q7.1 x4  q7.2 q9 e10) mk_X6_add lk_X9_232 iv_X6_add (Or.inl ⟨6, _, by decide, rfl, by decide, rfl, rfl⟩) rfl (by decide) (by decide) (Nat.le_of_ble_eq_true rfl) rfl ?_
      refine ev_goto (tgt := 46) dX9_story_41 (by decide) ?_
      cases h
      exact ev_iret dX9_story_46 rfl rfl ⟨rfl, rfl⟩
  · have h := if_f c3 h
    refine ev_iload 0 dX9_story_13 rfl ?_
    cases h
    exact ev_iret dX9_story_15 rfl rfl ⟨rfl, rfl⟩
def g_X4_heldLines_66_12 (n : Nat) (p1 : Nat) : Nat → Int32 → Int32 → Int32 → Mem → Option (Int32 × Mem)
  | 0, _, _, _, _ => none
  | m + 1, x3, x4, x5, A =>
    if (A 66 2) ≤ x5 then
      some (x4, A)
    else
      if ¬ x5 < 0 ∧ (x5).toNatClampNeg < 4 then
        (f_X4_judge n p1 (A 67 (x5).toNatClampNeg) x3 A).bind fun q5 =>
        if q5.1 = (q5.2 68 (x5).toNatClampNeg) then
          g_X4_heldLines_66_12 n p1 m x3 (x4 ||| (((1 : Int32)) <<< (x5 &&& 31))) (x5 + 1) q5.2
        else
          g_X4_heldLines_66_12 n p1 m x3 x4 (x5 + 1) q5.2
      else
        none
set_option maxRecDepth 100000 in
set_option maxHeartbeats 4000000 in
theorem l_X4_heldLines_66_12 (n : Nat) (p1 : Nat) (hp1 : p1 < NT) (hk1 : kd p1 = 3) : ∀ (m : Nat) (x3 : Int32) (x4 : Int32) (x5 : Int32) (A : Mem) (q : Int32 × Mem), g_X4_heldLines_66_12 n p1 m x3 x4 x5 A = some q → Ev cX4_heldLines 6 RX4 (some .int) 5 none 12 [(0, .ref 22), (1, .ref p1), (2, .ref 66), (3, .int x3), (4, .int x4), (5, .int x5)] [] A (RI q) := by
  intro m
  induction m with
  | zero => intro x3 x4 x5 A q h; exact absurd h (by simp [g_X4_heldLines_66_12])
  | succ m ih =>
    intro x3 x4 x5 A q h
    rw [g_X4_heldLines_66_12] at h
    refine ev_iload 5 dX4_heldLines_12 rfl ?_
    refine ev_aload_n 2 dX4_heldLines_14 rfl rfl ?_
    refine ev_getI dX4_heldLines_15 fl_X4_106 (by decide) rfl (by decide) (by decide) rfl ?_
    refine ev_icmp_ge (tgt := 59) dX4_heldLines_18 (by decide) (fun c3 => ?_) (fun c3 => ?_)
    · have h := if_t c3 h
      refine ev_iload 4 dX4_heldLines_59 rfl ?_
      cases h
      exact ev_iret dX4_heldLines_61 rfl rfl ⟨rfl, rfl⟩
    · have h := if_f c3 h
      refine ev_aload_n 0 dX4_heldLines_21 rfl rfl ?_
      refine ev_aload_n 1 dX4_heldLines_22 rfl rfl ?_
      refine ev_aload_n 2 dX4_heldLines_23 rfl rfl ?_
      refine ev_getR (r := 67) dX4_heldLines_24 fl_X4_109 (by decide) rfl (by decide) (by decide) rfl ?_
      refine ev_iload 5 dX4_heldLines_27 rfl ?_
      obtain ⟨c4, h⟩ := if_c h
      refine ev_ialdc 4 dX4_heldLines_29 (by decide) rfl rfl (by decide) c4 ?_
      refine ev_iload_n 3 dX4_heldLines_30 rfl rfl ?_
      obtain ⟨q5, e6, h⟩ := bd_c h
      refine ev_callVi (av := [.ref p1, .int (A 67 (x5).toNatClampNeg), .int x3]) dX4_heldLines_31 (c_X4_judge n p1 (A 67 (x5).toNatClampNeg) x3 hp1 hk1 A q5 e6) mk_X4_judge lk_X4_94 iv_X4_judge (Or.inl ⟨4, _, by decide, rfl, by decide, rfl, rfl⟩) rfl (by decide) (by decide) (Nat.le_of_ble_eq_true rfl) rfl ?_
      refine ev_aload_n 2 dX4_heldLines_34 rfl rfl ?_
      refine ev_getR (r := 68) dX4_heldLines_35 fl_X4_110 (by decide) rfl (by decide) (by decide) rfl ?_
      refine ev_iload 5 dX4_heldLines_38 rfl ?_
      refine ev_ialdc 4 dX4_heldLines_40 (by decide) rfl rfl (by decide) c4 ?_
      refine ev_icmp_ne (tgt := 53) dX4_heldLines_41 (by decide) (fun c7 => ?_) (fun c7 => ?_)
      · have h := if_f c7 h
        refine ev_iinc (v := x5 + 1) (ls' := [(5, .int (x5 + 1)), (0, .ref 22), (1, .ref p1), (2, .ref 66), (3, .int x3), (4, .int x4)]) 5 dX4_heldLines_53 rfl rfl (by decide) rfl ?_
        refine ev_goto (tgt := 12) dX4_heldLines_56 (by decide) ?_
        refine ev_pick [1, 2, 3, 4, 5, 0] (ls' := [(0, .ref 22), (1, .ref p1), (2, .ref 66), (3, .int x3), (4, .int x4), (5, .int (x5 + 1))]) rfl ?_
        exact ih x3 x4 (x5 + 1) _ q h
      · have h := if_t c7 h
        refine ev_iload 4 dX4_heldLines_44 rfl ?_
        refine ev_iconst (v := 1) dX4_heldLines_46 (by decide) ?_
        refine ev_iload 5 dX4_heldLines_47 rfl ?_
        refine ev_ishl dX4_heldLines_49 ?_
        refine ev_ior dX4_heldLines_50 ?_
        refine ev_istore (ls' := [(4, .int (x4 ||| (((1 : Int32)) <<< (x5 &&& 31)))), (0, .ref 22), (1, .ref p1), (2, .ref 66), (3, .int x3), (5, .int x5)]) dX4_heldLines_51 (by decide) rfl ?_
        refine ev_iinc (v := x5 + 1) (ls' := [(5, .int (x5 + 1)), (4, .int (x4 ||| (((1 : Int32)) <<< (x5 &&& 31)))), (0, .ref 22), (1, .ref p1), (2, .ref 66), (3, .int x3)]) 5 dX4_heldLines_53 rfl rfl (by decide) rfl ?_
        refine ev_goto (tgt := 12) dX4_heldLines_56 (by decide) ?_
        refine ev_pick [2, 3, 4, 5, 1, 0] (ls' := [(0, .ref 22), (1, .ref p1), (2, .ref 66), (3, .int x3), (4, .int (x4 ||| (((1 : Int32)) <<< (x5 &&& 31)))), (5, .int (x5 + 1))]) rfl ?_
        exact ih x3 (x4 ||| (((1 : Int32)) <<< (x5 &&& 31))) (x5 + 1) _ q h
def f_X4_heldLines_66 (n : Nat) (p1 : Nat) (x3 : Int32) (A : Mem) : Option (Int32 × Mem) :=
  (f_X4_sumTrust n p1 x3 A).bind fun q1 =>
  g_X4_heldLines_66_12 n p1 n x3 ((0 : Int32)) ((0 : Int32)) q1.2
set_option maxRecDepth 100000 in
set_option maxHeartbeats 4000000 in
theorem c_X4_heldLines_66 (n : Nat) (p1 : Nat) (x3 : Int32) (hp1 : p1 < NT) (hk1 : kd p1 = 3) (A : Mem) (q : Int32 × Mem) (h : f_X4_heldLines_66 n p1 x3 A = some q) : Ct yX4_heldLines cX4_heldLines 6 (some .int) 5 [.ref 22, .ref p1, .ref 66, .int x3] A (RI q) := by
  unfold f_X4_heldLines_66 at h
  refine ct_of (by decide) (Nat.le_of_ble_eq_true rfl) ?_
  show Ev cX4_heldLines 6 RX4 (some .int) 5 none 0 [(0, .ref 22), (1, .ref p1), (2, .ref 66), (3, .int x3)] [] A (RI q)
  refine ev_aload_n 0 dX4_heldLines_0 rfl rfl ?_
  refine ev_aload_n 1 dX4_heldLines_1 rfl rfl ?_
  refine ev_iload_n 3 dX4_heldLines_2 rfl rfl ?_
  obtain ⟨q1, e2, h⟩ := bd_c h
  refine ev_callVv (av := [.ref p1, .int x3]) dX4_heldLines_3 (c_X4_sumTrust n p1 x3 hp1 hk1 A q1 e2) mk_X4_sumTrust lk_X4_72 iv_X4_sumTrust (Or.inl ⟨4, _, by decide, rfl, by decide, rfl, rfl⟩) rfl (by decide) (by decide) (Nat.le_of_ble_eq_true rfl) rfl ?_
  refine ev_iconst (v := 0) dX4_heldLines_6 (by decide) ?_
  refine ev_istore (ls' := [(4, .int ((0 : Int32))), (0, .ref 22), (1, .ref p1), (2, .ref 66), (3, .int x3)]) dX4_heldLines_7 (by decide) rfl ?_
  refine ev_iconst (v := 0) dX4_heldLines_9 (by decide) ?_
  refine ev_istore (ls' := [(5, .int ((0 : Int32))), (4, .int ((0 : Int32))), (0, .ref 22), (1, .ref p1), (2, .ref 66), (3, .int x3)]) dX4_heldLines_10 (by decide) rfl ?_
  refine ev_pick [2, 3, 4, 5, 1, 0] (ls' := [(0, .ref 22), (1, .ref p1), (2, .ref 66), (3, .int x3), (4, .int ((0 : Int32))), (5, .int ((0 : Int32)))]) rfl ?_
  exact (l_X4_heldLines_66_12 n p1 hp1 hk1 n) x3 ((0 : Int32)) ((0 : Int32)) _ q h
def f_X9_holds (n : Nat) (x1 : Int32) (x2 : Int32) (A : Mem) : Option (Int32 × Mem) :=
  (f_X9_refuseDayOf n x1 ((2 : Int32)) x2 A).bind fun q1 =>
  if q1.1 = 0 then
    if ¬ x1 < 0 ∧ (x1).toNatClampNeg < 2 then
      (f_X4_heldLines_66 n (rf 50 (x1).toNatClampNeg) x2 q1.2).bind fun q6 =>
      some (q6.1, q6.2)
    else
      none
  else
    some (q1.1, q1.2)
set_option maxRecDepth 100000 in
set_option maxHeartbeats 4000000 in
theorem c_X9_holds (n : Nat) (x1 : Int32) (x2 : Int32) (A : Mem) (q : Int32 × Mem) (h : f_X9_holds n x1 x2 A = some q) : Ct yX9_holds cX9_holds 4 (some .int) 6 [.ref 0, .int x1, .int x2] A (RI q) := by
  unfold f_X9_holds at h
  refine ct_of (by decide) (Nat.le_of_ble_eq_true rfl) ?_
  show Ev cX9_holds 4 RX9 (some .int) 6 none 0 [(0, .ref 0), (1, .int x1), (2, .int x2)] [] A (RI q)
  refine ev_iload_n 1 dX9_holds_0 rfl rfl ?_
  refine ev_iconst (v := 2) dX9_holds_1 (by decide) ?_
  refine ev_iload_n 2 dX9_holds_2 rfl rfl ?_
  obtain ⟨q1, e2, h⟩ := bd_c h
  refine ev_callSi (av := [.int x1, .int ((2 : Int32)), .int x2]) dX9_holds_3 (c_X9_refuseDayOf n x1 ((2 : Int32)) x2  A q1 e2) mk_X9_refuseDayOf lk_X9_141 is_X9_refuseDayOf rfl (by decide) (by decide) (Nat.le_of_ble_eq_true rfl) rfl ?_
  refine ev_istore_n (ls' := [(3, .int q1.1), (0, .ref 0), (1, .int x1), (2, .int x2)]) dX9_holds_6 rfl (by decide) rfl ?_
  refine ev_iload_n 0 dX9_holds_7 rfl rfl ?_
  refine ev_if_eq (tgt := 15) dX9_holds_8 (by decide) (fun c3 => ?_) (fun c3 => ?_)
  · have h := if_t c3 h
    refine ev_aload_n 1 dX9_holds_15 rfl rfl ?_
    refine ev_getR (r := 22) dX9_holds_16 fl_X9_73 (by decide) rfl (by decide) (by decide) rfl ?_
    refine ev_aload_n 1 dX9_holds_19 rfl rfl ?_
    refine ev_getR (r := 50) dX9_holds_20 fl_X9_62 (by decide) rfl (by decide) (by decide) rfl ?_
    refine ev_iload_n 2 dX9_holds_23 rfl rfl ?_
    obtain ⟨c4, h⟩ := if_c h
    have e5 := el_50 _ c4.2
    refine ev_aaldc 2 dX9_holds_24 (by decide) rfl (Or.inr rfl) rfl (by decide) c4 e5.1 ?_
    refine ev_aload_n 1 dX9_holds_25 rfl rfl ?_
    refine ev_getR (r := 66) dX9_holds_26 fl_X9_69 (by decide) rfl (by decide) (by decide) rfl ?_
    refine ev_iload_n 3 dX9_holds_29 rfl rfl ?_
    obtain ⟨q6, e7, h⟩ := bd_c h
    refine ev_callVi (av := [.ref (rf 50 (x1).toNatClampNeg), .ref 66, .int x2]) dX9_holds_30 (c_X4_heldLines_66 n (rf 50 (x1).toNatClampNeg) x2 e5.2.1 e5.2.2 q1.2 q6 e7) mk_X4_heldLines lk_X9_235 iv_X4_heldLines (Or.inl ⟨4, _, by decide, rfl, by decide, rfl, rfl⟩) rfl (by decide) (by decide) (Nat.le_of_ble_eq_true rfl) rfl ?_
    cases h
    exact ev_iret dX9_holds_33 rfl rfl ⟨rfl, rfl⟩
  · have h := if_f c3 h
    refine ev_iload_n 0 dX9_holds_11 rfl rfl ?_
    refine ev_goto (tgt := 33) dX9_holds_12 (by decide) ?_
    cases h
    exact ev_iret dX9_holds_33 rfl rfl ⟨rfl, rfl⟩
def f_X6_allLines (n : Nat) (A : Mem) : Option (Int32 × Mem) :=
  some ((((1 : Int32)) <<< ((A 66 2) &&& 31)) - ((1 : Int32)), A)
set_option maxRecDepth 100000 in
set_option maxHeartbeats 4000000 in
theorem c_X6_allLines (n : Nat) (A : Mem) (q : Int32 × Mem) (h : f_X6_allLines n  A = some q) : Ct yX6_allLines cX6_allLines 1 (some .int) 0 [.ref 66] A (RI q) := by
  unfold f_X6_allLines at h
  refine ct_of (by decide) (Nat.le_of_ble_eq_true rfl) ?_
  show Ev cX6_allLines 1 RX6 (some .int) 0 none 0 [(0, .ref 66)] [] A (RI q)
  refine ev_iconst (v := 1) dX6_allLines_0 (by decide) ?_
  refine ev_aload_n 0 dX6_allLines_1 rfl rfl ?_
  refine ev_getI dX6_allLines_2 fl_X6_18 (by decide) rfl (by decide) (by decide) rfl ?_
  refine ev_ishl dX6_allLines_5 ?_
  refine ev_iconst (v := 1) dX6_allLines_6 (by decide) ?_
  refine ev_isub dX6_allLines_7 ?_
  cases h
  exact ev_iret dX6_allLines_8 rfl rfl ⟨rfl, rfl⟩
def g_X9_keeps_16 (n : Nat) : Nat → Int32 → Int32 → Int32 → Mem → Option (Int32 × Mem)
  | 0, _, _, _, _ => none
  | m + 1, x1, x2, x4, A =>
    if ((60 : Int32)) < x4 then
      some (x4 - x2, A)
    else
      if ¬ x1 < 0 ∧ (x1).toNatClampNeg < 2 then
        (f_X4_heldLines_66 n (rf 50 (x1).toNatClampNeg) x4 A).bind fun q7 =>
        (f_X6_allLines n  q7.2).bind fun q9 =>
        if q7.1 = q9.1 then
          g_X9_keeps_16 n  m x1 x2 (x4 + 1) q9.2
        else
          some (x4 - x2, q9.2)
      else
        none
set_option maxRecDepth 100000 in
set_option maxHeartbeats 4000000 in
theorem l_X9_keeps_16 (n : Nat) : ∀ (m : Nat) (x1 : Int32) (x2 : Int32) (x4 : Int32) (A : Mem) (q : Int32 × Mem), g_X9_keeps_16 n  m x1 x2 x4 A = some q → Ev cX9_keeps 5 RX9 (some .int) 6 none 16 [(0, .ref 0), (1, .int x1), (2, .int x2), (4, .int x4)] [] A (RI q) := by
  intro m
  induction m with
  | zero => intro x1 x2 x4 A q h; exact absurd h (by simp [g_X9_keeps_16])
  | succ m ih =>
    intro x1 x2 x4 A q h
    rw [g_X9_keeps_16] at h
    refine ev_iload 3 dX9_keeps_16 rfl ?_
    refine ev_bipush (v := 60) dX9_keeps_18 (by decide) ?_
    refine ev_icmp_gt (tgt := 58) dX9_keeps_20 (by decide) (fun c4 => ?_) (fun c4 => ?_)
    · have h := if_t c4 h
      refine ev_iload 3 dX9_keeps_58 rfl ?_
      refine ev_iload_n 2 dX9_keeps_60 rfl rfl ?_
      refine ev_isub dX9_keeps_61 ?_
      cases h
      exact ev_iret dX9_keeps_62 rfl rfl ⟨rfl, rfl⟩
    · have h := if_f c4 h
      refine ev_aload_n 0 dX9_keeps_23 rfl rfl ?_
      refine ev_getR (r := 22) dX9_keeps_24 fl_X9_73 (by decide) rfl (by decide) (by decide) rfl ?_
      refine ev_aload_n 0 dX9_keeps_27 rfl rfl ?_
      refine ev_getR (r := 50) dX9_keeps_28 fl_X9_62 (by decide) rfl (by decide) (by decide) rfl ?_
      refine ev_iload_n 1 dX9_keeps_31 rfl rfl ?_
      obtain ⟨c5, h⟩ := if_c h
      have e6 := el_50 _ c5.2
      refine ev_aaldc 2 dX9_keeps_32 (by decide) rfl (Or.inr rfl) rfl (by decide) c5 e6.1 ?_
      refine ev_aload_n 0 dX9_keeps_33 rfl rfl ?_
      refine ev_getR (r := 66) dX9_keeps_34 fl_X9_69 (by decide) rfl (by decide) (by decide) rfl ?_
      refine ev_iload 3 dX9_keeps_37 rfl ?_
      obtain ⟨q7, e8, h⟩ := bd_c h
      refine ev_callVi (av := [.ref (rf 50 (x1).toNatClampNeg), .ref 66, .int x4]) dX9_keeps_39 (c_X4_heldLines_66 n (rf 50 (x1).toNatClampNeg) x4 e6.2.1 e6.2.2 A q7 e8) mk_X4_heldLines lk_X9_235 iv_X4_heldLines (Or.inl ⟨4, _, by decide, rfl, by decide, rfl, rfl⟩) rfl (by decide) (by decide) (Nat.le_of_ble_eq_true rfl) rfl ?_
      refine ev_aload_n 0 dX9_keeps_42 rfl rfl ?_
      refine ev_getR (r := 66) dX9_keeps_43 fl_X9_69 (by decide) rfl (by decide) (by decide) rfl ?_
      obtain ⟨q9, e10, h⟩ := bd_c h
      refine ev_callVi (av := []) dX9_keeps_46 (c_X6_allLines n   q7.2 q9 e10) mk_X6_allLines lk_X9_239 iv_X6_allLines (Or.inl ⟨6, _, by decide, rfl, by decide, rfl, rfl⟩) rfl (by decide) (by decide) (Nat.le_of_ble_eq_true rfl) rfl ?_
      refine ev_icmp_ne (tgt := 58) dX9_keeps_49 (by decide) (fun c11 => ?_) (fun c11 => ?_)
      · have h := if_f c11 h
        refine ev_iload 3 dX9_keeps_58 rfl ?_
        refine ev_iload_n 2 dX9_keeps_60 rfl rfl ?_
        refine ev_isub dX9_keeps_61 ?_
        cases h
        exact ev_iret dX9_keeps_62 rfl rfl ⟨rfl, rfl⟩
      · have h := if_t c11 h
        refine ev_iinc (v := x4 + 1) (ls' := [(4, .int (x4 + 1)), (0, .ref 0), (1, .int x1), (2, .int x2)]) 3 dX9_keeps_52 rfl rfl (by decide) rfl ?_
        refine ev_goto (tgt := 16) dX9_keeps_55 (by decide) ?_
        refine ev_pick [1, 2, 3, 0] (ls' := [(0, .ref 0), (1, .int x1), (2, .int x2), (4, .int (x4 + 1))]) rfl ?_
        exact ih x1 x2 (x4 + 1) _ q h
def f_X9_keeps (n : Nat) (x1 : Int32) (x2 : Int32) (A : Mem) : Option (Int32 × Mem) :=
  (f_X9_refuseDayOf n x1 ((2 : Int32)) x2 A).bind fun q1 =>
  if q1.1 = 0 then
    g_X9_keeps_16 n  n x1 x2 x2 q1.2
  else
    some (q1.1, q1.2)
set_option maxRecDepth 100000 in
set_option maxHeartbeats 4000000 in
theorem c_X9_keeps (n : Nat) (x1 : Int32) (x2 : Int32) (A : Mem) (q : Int32 × Mem) (h : f_X9_keeps n x1 x2 A = some q) : Ct yX9_keeps cX9_keeps 5 (some .int) 6 [.ref 0, .int x1, .int x2] A (RI q) := by
  unfold f_X9_keeps at h
  refine ct_of (by decide) (Nat.le_of_ble_eq_true rfl) ?_
  show Ev cX9_keeps 5 RX9 (some .int) 6 none 0 [(0, .ref 0), (1, .int x1), (2, .int x2)] [] A (RI q)
  refine ev_iload_n 1 dX9_keeps_0 rfl rfl ?_
  refine ev_iconst (v := 2) dX9_keeps_1 (by decide) ?_
  refine ev_iload_n 2 dX9_keeps_2 rfl rfl ?_
  obtain ⟨q1, e2, h⟩ := bd_c h
  refine ev_callSi (av := [.int x1, .int ((2 : Int32)), .int x2]) dX9_keeps_3 (c_X9_refuseDayOf n x1 ((2 : Int32)) x2  A q1 e2) mk_X9_refuseDayOf lk_X9_141 is_X9_refuseDayOf rfl (by decide) (by decide) (Nat.le_of_ble_eq_true rfl) rfl ?_
  refine ev_istore_n (ls' := [(3, .int q1.1), (0, .ref 0), (1, .int x1), (2, .int x2)]) dX9_keeps_6 rfl (by decide) rfl ?_
  refine ev_iload_n 0 dX9_keeps_7 rfl rfl ?_
  refine ev_if_eq (tgt := 13) dX9_keeps_8 (by decide) (fun c3 => ?_) (fun c3 => ?_)
  · have h := if_t c3 h
    refine ev_iload_n 3 dX9_keeps_13 rfl rfl ?_
    refine ev_istore (ls' := [(4, .int x2), (3, .int q1.1), (0, .ref 0), (1, .int x1), (2, .int x2)]) dX9_keeps_14 (by decide) rfl ?_
    refine ev_pick [2, 3, 4, 0] (ls' := [(0, .ref 0), (1, .int x1), (2, .int x2), (4, .int x2)]) rfl ?_
    exact (l_X9_keeps_16 n   n) x1 x2 x2 _ q h
  · have h := if_f c3 h
    refine ev_iload_n 0 dX9_keeps_11 rfl rfl ?_
    cases h
    exact ev_iret dX9_keeps_12 rfl rfl ⟨rfl, rfl⟩
def f_X1_add_16 (n : Nat) (x1 : Int32) (x2 : Int32) (x3 : Int32) (x4 : Int32) (x5 : Int32) (A : Mem) : Option (Int32 × Mem) :=
  if (A 16 7) < (A 16 6) then
    if ¬ (A 16 7) < 0 ∧ (A 16 7).toNatClampNeg < 10 then
      if ¬ ((st2 A 17 (A 16 7).toNatClampNeg x1) 16 7) < 0 ∧ ((st2 A 17 (A 16 7).toNatClampNeg x1) 16 7).toNatClampNeg < 10 then
        if ¬ ((st2 (st2 A 17 (A 16 7).toNatClampNeg x1) 18 ((st2 A 17 (A 16 7).toNatClampNeg x1) 16 7).toNatClampNeg x2) 16 7) < 0 ∧ ((st2 (st2 A 17 (A 16 7).toNatClampNeg x1) 18 ((st2 A 17 (A 16 7).toNatClampNeg x1) 16 7).toNatClampNeg x2) 16 7).toNatClampNeg < 10 then
          if ¬ ((st2 (st2 (st2 A 17 (A 16 7).toNatClampNeg x1) 18 ((st2 A 17 (A 16 7).toNatClampNeg x1) 16 7).toNatClampNeg x2) 19 ((st2 (st2 A 17 (A 16 7).toNatClampNeg x1) 18 ((st2 A 17 (A 16 7).toNatClampNeg x1) 16 7).toNatClampNeg x2) 16 7).toNatClampNeg x3) 16 7) < 0 ∧ ((st2 (st2 (st2 A 17 (A 16 7).toNatClampNeg x1) 18 ((st2 A 17 (A 16 7).toNatClampNeg x1) 16 7).toNatClampNeg x2) 19 ((st2 (st2 A 17 (A 16 7).toNatClampNeg x1) 18 ((st2 A 17 (A 16 7).toNatClampNeg x1) 16 7).toNatClampNeg x2) 16 7).toNatClampNeg x3) 16 7).toNatClampNeg < 10 then
            if ¬ ((st2 (st2 (st2 (st2 A 17 (A 16 7).toNatClampNeg x1) 18 ((st2 A 17 (A 16 7).toNatClampNeg x1) 16 7).toNatClampNeg x2) 19 ((st2 (st2 A 17 (A 16 7).toNatClampNeg x1) 18 ((st2 A 17 (A 16 7).toNatClampNeg x1) 16 7).toNatClampNeg x2) 16 7).toNatClampNeg x3) 20 ((st2 (st2 (st2 A 17 (A 16 7).toNatClampNeg x1) 18 ((st2 A 17 (A 16 7).toNatClampNeg x1) 16 7).toNatClampNeg x2) 19 ((st2 (st2 A 17 (A 16 7).toNatClampNeg x1) 18 ((st2 A 17 (A 16 7).toNatClampNeg x1) 16 7).toNatClampNeg x2) 16 7).toNatClampNeg x3) 16 7).toNatClampNeg x4) 16 7) < 0 ∧ ((st2 (st2 (st2 (st2 A 17 (A 16 7).toNatClampNeg x1) 18 ((st2 A 17 (A 16 7).toNatClampNeg x1) 16 7).toNatClampNeg x2) 19 ((st2 (st2 A 17 (A 16 7).toNatClampNeg x1) 18 ((st2 A 17 (A 16 7).toNatClampNeg x1) 16 7).toNatClampNeg x2) 16 7).toNatClampNeg x3) 20 ((st2 (st2 (st2 A 17 (A 16 7).toNatClampNeg x1) 18 ((st2 A 17 (A 16 7).toNatClampNeg x1) 16 7).toNatClampNeg x2) 19 ((st2 (st2 A 17 (A 16 7).toNatClampNeg x1) 18 ((st2 A 17 (A 16 7).toNatClampNeg x1) 16 7).toNatClampNeg x2) 16 7).toNatClampNeg x3) 16 7).toNatClampNeg x4) 16 7).toNatClampNeg < 10 then
              some (((st2 (st2 (st2 (st2 (st2 (st2 A 17 (A 16 7).toNatClampNeg x1) 18 ((st2 A 17 (A 16 7).toNatClampNeg x1) 16 7).toNatClampNeg x2) 19 ((st2 (st2 A 17 (A 16 7).toNatClampNeg x1) 18 ((st2 A 17 (A 16 7).toNatClampNeg x1) 16 7).toNatClampNeg x2) 16 7).toNatClampNeg x3) 20 ((st2 (st2 (st2 A 17 (A 16 7).toNatClampNeg x1) 18 ((st2 A 17 (A 16 7).toNatClampNeg x1) 16 7).toNatClampNeg x2) 19 ((st2 (st2 A 17 (A 16 7).toNatClampNeg x1) 18 ((st2 A 17 (A 16 7).toNatClampNeg x1) 16 7).toNatClampNeg x2) 16 7).toNatClampNeg x3) 16 7).toNatClampNeg x4) 21 ((st2 (st2 (st2 (st2 A 17 (A 16 7).toNatClampNeg x1) 18 ((st2 A 17 (A 16 7).toNatClampNeg x1) 16 7).toNatClampNeg x2) 19 ((st2 (st2 A 17 (A 16 7).toNatClampNeg x1) 18 ((st2 A 17 (A 16 7).toNatClampNeg x1) 16 7).toNatClampNeg x2) 16 7).toNatClampNeg x3) 20 ((st2 (st2 (st2 A 17 (A 16 7).toNatClampNeg x1) 18 ((st2 A 17 (A 16 7).toNatClampNeg x1) 16 7).toNatClampNeg x2) 19 ((st2 (st2 A 17 (A 16 7).toNatClampNeg x1) 18 ((st2 A 17 (A 16 7).toNatClampNeg x1) 16 7).toNatClampNeg x2) 16 7).toNatClampNeg x3) 16 7).toNatClampNeg x4) 16 7).toNatClampNeg x5) 16 7 (((st2 (st2 (st2 (st2 (st2 A 17 (A 16 7).toNatClampNeg x1) 18 ((st2 A 17 (A 16 7).toNatClampNeg x1) 16 7).toNatClampNeg x2) 19 ((st2 (st2 A 17 (A 16 7).toNatClampNeg x1) 18 ((st2 A 17 (A 16 7).toNatClampNeg x1) 16 7).toNatClampNeg x2) 16 7).toNatClampNeg x3) 20 ((st2 (st2 (st2 A 17 (A 16 7).toNatClampNeg x1) 18 ((st2 A 17 (A 16 7).toNatClampNeg x1) 16 7).toNatClampNeg x2) 19 ((st2 (st2 A 17 (A 16 7).toNatClampNeg x1) 18 ((st2 A 17 (A 16 7).toNatClampNeg x1) 16 7).toNatClampNeg x2) 16 7).toNatClampNeg x3) 16 7).toNatClampNeg x4) 21 ((st2 (st2 (st2 (st2 A 17 (A 16 7).toNatClampNeg x1) 18 ((st2 A 17 (A 16 7).toNatClampNeg x1) 16 7).toNatClampNeg x2) 19 ((st2 (st2 A 17 (A 16 7).toNatClampNeg x1) 18 ((st2 A 17 (A 16 7).toNatClampNeg x1) 16 7).toNatClampNeg x2) 16 7).toNatClampNeg x3) 20 ((st2 (st2 (st2 A 17 (A 16 7).toNatClampNeg x1) 18 ((st2 A 17 (A 16 7).toNatClampNeg x1) 16 7).toNatClampNeg x2) 19 ((st2 (st2 A 17 (A 16 7).toNatClampNeg x1) 18 ((st2 A 17 (A 16 7).toNatClampNeg x1) 16 7).toNatClampNeg x2) 16 7).toNatClampNeg x3) 16 7).toNatClampNeg x4) 16 7).toNatClampNeg x5) 16 7) + ((1 : Int32)))) 16 7) - ((1 : Int32)), st2 (st2 (st2 (st2 (st2 (st2 A 17 (A 16 7).toNatClampNeg x1) 18 ((st2 A 17 (A 16 7).toNatClampNeg x1) 16 7).toNatClampNeg x2) 19 ((st2 (st2 A 17 (A 16 7).toNatClampNeg x1) 18 ((st2 A 17 (A 16 7).toNatClampNeg x1) 16 7).toNatClampNeg x2) 16 7).toNatClampNeg x3) 20 ((st2 (st2 (st2 A 17 (A 16 7).toNatClampNeg x1) 18 ((st2 A 17 (A 16 7).toNatClampNeg x1) 16 7).toNatClampNeg x2) 19 ((st2 (st2 A 17 (A 16 7).toNatClampNeg x1) 18 ((st2 A 17 (A 16 7).toNatClampNeg x1) 16 7).toNatClampNeg x2) 16 7).toNatClampNeg x3) 16 7).toNatClampNeg x4) 21 ((st2 (st2 (st2 (st2 A 17 (A 16 7).toNatClampNeg x1) 18 ((st2 A 17 (A 16 7).toNatClampNeg x1) 16 7).toNatClampNeg x2) 19 ((st2 (st2 A 17 (A 16 7).toNatClampNeg x1) 18 ((st2 A 17 (A 16 7).toNatClampNeg x1) 16 7).toNatClampNeg x2) 16 7).toNatClampNeg x3) 20 ((st2 (st2 (st2 A 17 (A 16 7).toNatClampNeg x1) 18 ((st2 A 17 (A 16 7).toNatClampNeg x1) 16 7).toNatClampNeg x2) 19 ((st2 (st2 A 17 (A 16 7).toNatClampNeg x1) 18 ((st2 A 17 (A 16 7).toNatClampNeg x1) 16 7).toNatClampNeg x2) 16 7).toNatClampNeg x3) 16 7).toNatClampNeg x4) 16 7).toNatClampNeg x5) 16 7 (((st2 (st2 (st2 (st2 (st2 A 17 (A 16 7).toNatClampNeg x1) 18 ((st2 A 17 (A 16 7).toNatClampNeg x1) 16 7).toNatClampNeg x2) 19 ((st2 (st2 A 17 (A 16 7).toNatClampNeg x1) 18 ((st2 A 17 (A 16 7).toNatClampNeg x1) 16 7).toNatClampNeg x2) 16 7).toNatClampNeg x3) 20 ((st2 (st2 (st2 A 17 (A 16 7).toNatClampNeg x1) 18 ((st2 A 17 (A 16 7).toNatClampNeg x1) 16 7).toNatClampNeg x2) 19 ((st2 (st2 A 17 (A 16 7).toNatClampNeg x1) 18 ((st2 A 17 (A 16 7).toNatClampNeg x1) 16 7).toNatClampNeg x2) 16 7).toNatClampNeg x3) 16 7).toNatClampNeg x4) 21 ((st2 (st2 (st2 (st2 A 17 (A 16 7).toNatClampNeg x1) 18 ((st2 A 17 (A 16 7).toNatClampNeg x1) 16 7).toNatClampNeg x2) 19 ((st2 (st2 A 17 (A 16 7).toNatClampNeg x1) 18 ((st2 A 17 (A 16 7).toNatClampNeg x1) 16 7).toNatClampNeg x2) 16 7).toNatClampNeg x3) 20 ((st2 (st2 (st2 A 17 (A 16 7).toNatClampNeg x1) 18 ((st2 A 17 (A 16 7).toNatClampNeg x1) 16 7).toNatClampNeg x2) 19 ((st2 (st2 A 17 (A 16 7).toNatClampNeg x1) 18 ((st2 A 17 (A 16 7).toNatClampNeg x1) 16 7).toNatClampNeg x2) 16 7).toNatClampNeg x3) 16 7).toNatClampNeg x4) 16 7).toNatClampNeg x5) 16 7) + ((1 : Int32))))
            else
              none
          else
            none
        else
          none
      else
        none
    else
      none
  else
    some ((-5 : Int32), A)
set_option maxRecDepth 100000 in
set_option maxHeartbeats 4000000 in
theorem c_X1_add_16 (n : Nat) (x1 : Int32) (x2 : Int32) (x3 : Int32) (x4 : Int32) (x5 : Int32) (A : Mem) (q : Int32 × Mem) (h : f_X1_add_16 n x1 x2 x3 x4 x5 A = some q) : Ct yX1_add cX1_add 6 (some .int) 0 [.ref 16, .int x1, .int x2, .int x3, .int x4, .int x5] A (RI q) := by
  unfold f_X1_add_16 at h
  refine ct_of (by decide) (Nat.le_of_ble_eq_true rfl) ?_
  show Ev cX1_add 6 RX1 (some .int) 0 none 0 [(0, .ref 16), (1, .int x1), (2, .int x2), (3, .int x3), (4, .int x4), (5, .int x5)] [] A (RI q)
  refine ev_aload_n 0 dX1_add_0 rfl rfl ?_
  refine ev_getI dX1_add_1 fl_X1_9 (by decide) rfl (by decide) (by decide) rfl ?_
  refine ev_aload_n 0 dX1_add_4 rfl rfl ?_
  refine ev_getI dX1_add_5 fl_X1_15 (by decide) rfl (by decide) (by decide) rfl ?_
  refine ev_icmp_lt (tgt := 14) dX1_add_8 (by decide) (fun c1 => ?_) (fun c1 => ?_)
  · have h := if_t c1 h
    refine ev_aload_n 0 dX1_add_14 rfl rfl ?_
    refine ev_getR (r := 17) dX1_add_15 fl_X1_22 (by decide) rfl (by decide) (by decide) rfl ?_
    refine ev_aload_n 0 dX1_add_18 rfl rfl ?_
    refine ev_getI dX1_add_19 fl_X1_9 (by decide) rfl (by decide) (by decide) rfl ?_
    refine ev_iload_n 1 dX1_add_22 rfl rfl ?_
    obtain ⟨c2, h⟩ := if_c h
    refine ev_iastc 10 dX1_add_23 (by decide) rfl rfl (by decide) c2 ?_
    refine ev_aload_n 0 dX1_add_24 rfl rfl ?_
    refine ev_getR (r := 18) dX1_add_25 fl_X1_25 (by decide) rfl (by decide) (by decide) rfl ?_
    refine ev_aload_n 0 dX1_add_28 rfl rfl ?_
    refine ev_getI dX1_add_29 fl_X1_9 (by decide) rfl (by decide) (by decide) rfl ?_
    refine ev_iload_n 2 dX1_add_32 rfl rfl ?_
    obtain ⟨c3, h⟩ := if_c h
    refine ev_iastc 10 dX1_add_33 (by decide) rfl rfl (by decide) c3 ?_
    refine ev_aload_n 0 dX1_add_34 rfl rfl ?_
    refine ev_getR (r := 19) dX1_add_35 fl_X1_28 (by decide) rfl (by decide) (by decide) rfl ?_
    refine ev_aload_n 0 dX1_add_38 rfl rfl ?_
    refine ev_getI dX1_add_39 fl_X1_9 (by decide) rfl (by decide) (by decide) rfl ?_
    refine ev_iload_n 3 dX1_add_42 rfl rfl ?_
    obtain ⟨c4, h⟩ := if_c h
    refine ev_iastc 10 dX1_add_43 (by decide) rfl rfl (by decide) c4 ?_
    refine ev_aload_n 0 dX1_add_44 rfl rfl ?_
    refine ev_getR (r := 20) dX1_add_45 fl_X1_31 (by decide) rfl (by decide) (by decide) rfl ?_
    refine ev_aload_n 0 dX1_add_48 rfl rfl ?_
    refine ev_getI dX1_add_49 fl_X1_9 (by decide) rfl (by decide) (by decide) rfl ?_
    refine ev_iload 4 dX1_add_52 rfl ?_
    obtain ⟨c5, h⟩ := if_c h
    refine ev_iastc 10 dX1_add_54 (by decide) rfl rfl (by decide) c5 ?_
    refine ev_aload_n 0 dX1_add_55 rfl rfl ?_
    refine ev_getR (r := 21) dX1_add_56 fl_X1_34 (by decide) rfl (by decide) (by decide) rfl ?_
    refine ev_aload_n 0 dX1_add_59 rfl rfl ?_
    refine ev_getI dX1_add_60 fl_X1_9 (by decide) rfl (by decide) (by decide) rfl ?_
    refine ev_iload 5 dX1_add_63 rfl ?_
    obtain ⟨c6, h⟩ := if_c h
    refine ev_iastc 10 dX1_add_65 (by decide) rfl rfl (by decide) c6 ?_
    refine ev_aload_n 0 dX1_add_66 rfl rfl ?_
    refine ev_dup dX1_add_67 rfl ?_
    refine ev_getI dX1_add_68 fl_X1_9 (by decide) rfl (by decide) (by decide) rfl ?_
    refine ev_iconst (v := 1) dX1_add_71 (by decide) ?_
    refine ev_iadd dX1_add_72 ?_
    refine ev_put2 dX1_add_73 fl_X1_9 pk_1_7 (by decide) rfl (by decide) (by decide) rfl ?_
    refine ev_aload_n 0 dX1_add_76 rfl rfl ?_
    refine ev_getI dX1_add_77 fl_X1_9 (by decide) rfl (by decide) (by decide) rfl ?_
    refine ev_iconst (v := 1) dX1_add_80 (by decide) ?_
    refine ev_isub dX1_add_81 ?_
    cases h
    exact ev_iret dX1_add_82 rfl rfl ⟨rfl, rfl⟩
  · have h := if_f c1 h
    refine ev_bipush (v := -5) dX1_add_11 (by decide) ?_
    cases h
    exact ev_iret dX1_add_13 rfl rfl ⟨rfl, rfl⟩
def f_X9_draft (n : Nat) (x1 : Int32) (x2 : Int32) (x3 : Int32) (x4 : Int32) (x5 : Int32) (x6 : Int32) (x7 : Int32) (A : Mem) : Option (Int32 × Mem) :=
  (f_X9_refuseLetter n x1 x2 x3 x4 x5 x6 x7 A).bind fun q1 =>
  if q1.1 = 0 then
    (f_X9_topicOf n x4 x5 x6 q1.2).bind fun q4 =>
    (f_X1_add_16 n x1 x2 x3 q4.1 x7 q4.2).bind fun q6 =>
    some (q6.1, q6.2)
  else
    some (q1.1, q1.2)
set_option maxRecDepth 100000 in
set_option maxHeartbeats 4000000 in
theorem c_X9_draft (n : Nat) (x1 : Int32) (x2 : Int32) (x3 : Int32) (x4 : Int32) (x5 : Int32) (x6 : Int32) (x7 : Int32) (A : Mem) (q : Int32 × Mem) (h : f_X9_draft n x1 x2 x3 x4 x5 x6 x7 A = some q) : Ct yX9_draft cX9_draft 9 (some .int) 3 [.ref 0, .int x1, .int x2, .int x3, .int x4, .int x5, .int x6, .int x7] A (RI q) := by
  unfold f_X9_draft at h
  refine ct_of (by decide) (Nat.le_of_ble_eq_true rfl) ?_
  show Ev cX9_draft 9 RX9 (some .int) 3 none 0 [(0, .ref 0), (1, .int x1), (2, .int x2), (3, .int x3), (4, .int x4), (5, .int x5), (6, .int x6), (7, .int x7)] [] A (RI q)
  refine ev_iload_n 1 dX9_draft_0 rfl rfl ?_
  refine ev_iload_n 2 dX9_draft_1 rfl rfl ?_
  refine ev_iload_n 3 dX9_draft_2 rfl rfl ?_
  refine ev_iload 4 dX9_draft_3 rfl ?_
  refine ev_iload 5 dX9_draft_5 rfl ?_
  refine ev_iload 6 dX9_draft_7 rfl ?_
  refine ev_iload 7 dX9_draft_9 rfl ?_
  obtain ⟨q1, e2, h⟩ := bd_c h
  refine ev_callSi (av := [.int x1, .int x2, .int x3, .int x4, .int x5, .int x6, .int x7]) dX9_draft_11 (c_X9_refuseLetter n x1 x2 x3 x4 x5 x6 x7  A q1 e2) mk_X9_refuseLetter lk_X9_151 is_X9_refuseLetter rfl (by decide) (by decide) (Nat.le_of_ble_eq_true rfl) rfl ?_
  refine ev_istore (ls' := [(8, .int q1.1), (0, .ref 0), (1, .int x1), (2, .int x2), (3, .int x3), (4, .int x4), (5, .int x5), (6, .int x6), (7, .int x7)]) dX9_draft_14 (by decide) rfl ?_
  refine ev_iload 0 dX9_draft_16 rfl ?_
  refine ev_if_eq (tgt := 26) dX9_draft_18 (by decide) (fun c3 => ?_) (fun c3 => ?_)
  · have h := if_t c3 h
    refine ev_aload_n 1 dX9_draft_26 rfl rfl ?_
    refine ev_getR (r := 16) dX9_draft_27 fl_X9_59 (by decide) rfl (by decide) (by decide) rfl ?_
    refine ev_iload_n 2 dX9_draft_30 rfl rfl ?_
    refine ev_iload_n 3 dX9_draft_31 rfl rfl ?_
    refine ev_iload_n 4 dX9_draft_32 rfl rfl ?_
    refine ev_iload 5 dX9_draft_33 rfl ?_
    refine ev_iload 6 dX9_draft_35 rfl ?_
    refine ev_iload 7 dX9_draft_37 rfl ?_
    obtain ⟨q4, e5, h⟩ := bd_c h
    refine ev_callSi (av := [.int x4, .int x5, .int x6]) dX9_draft_39 (c_X9_topicOf n x4 x5 x6  q1.2 q4 e5) mk_X9_topicOf lk_X9_111 is_X9_topicOf rfl (by decide) (by decide) (Nat.le_of_ble_eq_true rfl) rfl ?_
    refine ev_iload 8 dX9_draft_42 rfl ?_
    obtain ⟨q6, e7, h⟩ := bd_c h
    refine ev_callVi (av := [.int x1, .int x2, .int x3, .int q4.1, .int x7]) dX9_draft_44 (c_X1_add_16 n x1 x2 x3 q4.1 x7  q4.2 q6 e7) mk_X1_add lk_X9_155 iv_X1_add (Or.inl ⟨1, _, by decide, rfl, by decide, rfl, rfl⟩) rfl (by decide) (by decide) (Nat.le_of_ble_eq_true rfl) rfl ?_
    cases h
    exact ev_iret dX9_draft_47 rfl rfl ⟨rfl, rfl⟩
  · have h := if_f c3 h
    refine ev_iload 0 dX9_draft_21 rfl ?_
    refine ev_goto (tgt := 47) dX9_draft_23 (by decide) ?_
    cases h
    exact ev_iret dX9_draft_47 rfl rfl ⟨rfl, rfl⟩
def f_X9_mark (n : Nat) (x1 : Int32) (x2 : Int32) (x3 : Int32) (A : Mem) : Option (Int32 × Mem) :=
  (f_X9_isBelow n x1 (A 16 7) A).bind fun q1 =>
  if q1.1 = 0 then
    some ((-2 : Int32), q1.2)
  else
    (f_X9_isBelow n x2 ((2 : Int32)) q1.2).bind fun q4 =>
    if q4.1 = 0 then
      some ((-3 : Int32), q4.2)
    else
      if x3 < 0 then
        some ((-3 : Int32), q4.2)
      else
        if x3 ≤ ((99 : Int32)) then
          if x2 = 0 then
            if ¬ x1 < 0 ∧ (x1).toNatClampNeg < 10 then
              some (q4.2 70 (x1).toNatClampNeg, st2 q4.2 70 (x1).toNatClampNeg x3)
            else
              none
          else
            if ¬ x1 < 0 ∧ (x1).toNatClampNeg < 10 then
              some (q4.2 71 (x1).toNatClampNeg, st2 q4.2 71 (x1).toNatClampNeg x3)
            else
              none
        else
          some ((-3 : Int32), q4.2)
set_option maxRecDepth 100000 in
set_option maxHeartbeats 4000000 in
theorem c_X9_mark (n : Nat) (x1 : Int32) (x2 : Int32) (x3 : Int32) (A : Mem) (q : Int32 × Mem) (h : f_X9_mark n x1 x2 x3 A = some q) : Ct yX9_mark cX9_mark 6 (some .int) 1 [.ref 0, .int x1, .int x2, .int x3] A (RI q) := by
  unfold f_X9_mark at h
  refine ct_of (by decide) (Nat.le_of_ble_eq_true rfl) ?_
  show Ev cX9_mark 6 RX9 (some .int) 1 none 0 [(0, .ref 0), (1, .int x1), (2, .int x2), (3, .int x3)] [] A (RI q)
  refine ev_iload_n 1 dX9_mark_0 rfl rfl ?_
  refine ev_aload_n 0 dX9_mark_1 rfl rfl ?_
  refine ev_getR (r := 16) dX9_mark_2 fl_X9_59 (by decide) rfl (by decide) (by decide) rfl ?_
  refine ev_getI dX9_mark_5 fl_X9_159 (by decide) rfl (by decide) (by decide) rfl ?_
  obtain ⟨q1, e2, h⟩ := bd_c h
  refine ev_callSi (av := [.int x1, .int (A 16 7)]) dX9_mark_8 (c_X9_isBelow n x1 (A 16 7)  A q1 e2) mk_X9_isBelow lk_X9_93 is_X9_isBelow rfl (by decide) (by decide) (Nat.le_of_ble_eq_true rfl) rfl ?_
  refine ev_if_ne (tgt := 17) dX9_mark_11 (by decide) (fun c3 => ?_) (fun c3 => ?_)
  · have h := if_f c3 h
    refine ev_iload_n 2 dX9_mark_17 rfl rfl ?_
    refine ev_iconst (v := 2) dX9_mark_18 (by decide) ?_
    obtain ⟨q4, e5, h⟩ := bd_c h
    refine ev_callSi (av := [.int x2, .int ((2 : Int32))]) dX9_mark_19 (c_X9_isBelow n x2 ((2 : Int32))  q1.2 q4 e5) mk_X9_isBelow lk_X9_93 is_X9_isBelow rfl (by decide) (by decide) (Nat.le_of_ble_eq_true rfl) rfl ?_
    refine ev_if_eq (tgt := 35) dX9_mark_22 (by decide) (fun c6 => ?_) (fun c6 => ?_)
    · have h := if_t c6 h
      refine ev_bipush (v := -3) dX9_mark_35 (by decide) ?_
      cases h
      exact ev_iret dX9_mark_37 rfl rfl ⟨rfl, rfl⟩
    · have h := if_f c6 h
      refine ev_iload_n 3 dX9_mark_25 rfl rfl ?_
      refine ev_if_lt (tgt := 35) dX9_mark_26 (by decide) (fun c7 => ?_) (fun c7 => ?_)
      · have h := if_t c7 h
        refine ev_bipush (v := -3) dX9_mark_35 (by decide) ?_
        cases h
        exact ev_iret dX9_mark_37 rfl rfl ⟨rfl, rfl⟩
      · have h := if_f c7 h
        refine ev_iload_n 3 dX9_mark_29 rfl rfl ?_
        refine ev_bipush (v := 99) dX9_mark_30 (by decide) ?_
        refine ev_icmp_le (tgt := 38) dX9_mark_32 (by decide) (fun c8 => ?_) (fun c8 => ?_)
        · have h := if_t c8 h
          refine ev_iload_n 2 dX9_mark_38 rfl rfl ?_
          refine ev_if_ne (tgt := 52) dX9_mark_39 (by decide) (fun c9 => ?_) (fun c9 => ?_)
          · have h := if_f c9 h
            refine ev_aload_n 0 dX9_mark_52 rfl rfl ?_
            refine ev_getR (r := 69) dX9_mark_53 fl_X9_82 (by decide) rfl (by decide) (by decide) rfl ?_
            refine ev_getR (r := 71) dX9_mark_56 fl_X9_245 (by decide) rfl (by decide) (by decide) rfl ?_
            refine ev_astore (ls' := [(4, .ref 71), (0, .ref 0), (1, .int x1), (2, .int x2), (3, .int x3)]) dX9_mark_59 (by decide) rfl ?_
            refine ev_aload 0 dX9_mark_61 rfl ?_
            refine ev_iload_n 2 dX9_mark_63 rfl rfl ?_
            obtain ⟨c10, h⟩ := if_c h
            refine ev_ialdc 10 dX9_mark_64 (by decide) rfl rfl (by decide) c10 ?_
            refine ev_istore (ls' := [(5, .int (q4.2 71 (x1).toNatClampNeg)), (4, .ref 71), (0, .ref 0), (1, .int x1), (2, .int x2), (3, .int x3)]) dX9_mark_65 (by decide) rfl ?_
            refine ev_aload 1 dX9_mark_67 rfl ?_
            refine ev_iload_n 3 dX9_mark_69 rfl rfl ?_
            refine ev_iload_n 5 dX9_mark_70 rfl rfl ?_
            refine ev_iastc 10 dX9_mark_71 (by decide) rfl rfl (by decide) c10 ?_
            refine ev_iload 0 dX9_mark_72 rfl ?_
            cases h
            exact ev_iret dX9_mark_74 rfl rfl ⟨rfl, rfl⟩
          · have h := if_t c9 h
            refine ev_aload_n 0 dX9_mark_42 rfl rfl ?_
            refine ev_getR (r := 69) dX9_mark_43 fl_X9_82 (by decide) rfl (by decide) (by decide) rfl ?_
            refine ev_getR (r := 70) dX9_mark_46 fl_X9_242 (by decide) rfl (by decide) (by decide) rfl ?_
            refine ev_goto (tgt := 59) dX9_mark_49 (by decide) ?_
            refine ev_astore (ls' := [(4, .ref 70), (0, .ref 0), (1, .int x1), (2, .int x2), (3, .int x3)]) dX9_mark_59 (by decide) rfl ?_
            refine ev_aload 0 dX9_mark_61 rfl ?_
            refine ev_iload_n 2 dX9_mark_63 rfl rfl ?_
            obtain ⟨c11, h⟩ := if_c h
            refine ev_ialdc 10 dX9_mark_64 (by decide) rfl rfl (by decide) c11 ?_
            refine ev_istore (ls' := [(5, .int (q4.2 70 (x1).toNatClampNeg)), (4, .ref 70), (0, .ref 0), (1, .int x1), (2, .int x2), (3, .int x3)]) dX9_mark_65 (by decide) rfl ?_
            refine ev_aload 1 dX9_mark_67 rfl ?_
            refine ev_iload_n 3 dX9_mark_69 rfl rfl ?_
            refine ev_iload_n 5 dX9_mark_70 rfl rfl ?_
            refine ev_iastc 10 dX9_mark_71 (by decide) rfl rfl (by decide) c11 ?_
            refine ev_iload 0 dX9_mark_72 rfl ?_
            cases h
            exact ev_iret dX9_mark_74 rfl rfl ⟨rfl, rfl⟩
        · have h := if_f c8 h
          refine ev_bipush (v := -3) dX9_mark_35 (by decide) ?_
          cases h
          exact ev_iret dX9_mark_37 rfl rfl ⟨rfl, rfl⟩
  · have h := if_t c3 h
    refine ev_bipush (v := -2) dX9_mark_14 (by decide) ?_
    cases h
    exact ev_iret dX9_mark_16 rfl rfl ⟨rfl, rfl⟩
def g_X2_opensLines_66_8 (n : Nat) (p1 : Nat) : Nat → Int32 → Int32 → Mem → Option (Int32 × Mem)
  | 0, _, _, _ => none
  | m + 1, x3, x4, A =>
    if (A 66 2) ≤ x4 then
      some ((1 : Int32), A)
    else
      if ¬ x4 < 0 ∧ (x4).toNatClampNeg < 4 then
        (f_X3_knows n p1 (A 67 (x4).toNatClampNeg) x3 A).bind fun q3 =>
        if q3.1 = 0 then
          g_X2_opensLines_66_8 n p1 m x3 (x4 + 1) (st2 q3.2 69 9 ((q3.2 69 9) ||| (((1 : Int32)) <<< (x4 &&& 31))))
        else
          (f_X8_valueOf n (q3.2 67 (x4).toNatClampNeg) q3.2).bind fun q6 =>
          if q6.1 = (q6.2 68 (x4).toNatClampNeg) then
            g_X2_opensLines_66_8 n p1 m x3 (x4 + 1) q6.2
          else
            some ((0 : Int32), q6.2)
      else
        none
set_option maxRecDepth 100000 in
set_option maxHeartbeats 4000000 in
theorem l_X2_opensLines_66_8 (n : Nat) (p1 : Nat) (hp1 : p1 < NT) (hk1 : kd p1 = 3) : ∀ (m : Nat) (x3 : Int32) (x4 : Int32) (A : Mem) (q : Int32 × Mem), g_X2_opensLines_66_8 n p1 m x3 x4 A = some q → Ev cX2_opensLines 5 RX2 (some .boolean) 2 none 8 [(0, .ref 69), (1, .ref p1), (2, .ref 66), (3, .int x3), (4, .int x4)] [] A (RI q) := by
  intro m
  induction m with
  | zero => intro x3 x4 A q h; exact absurd h (by simp [g_X2_opensLines_66_8])
  | succ m ih =>
    intro x3 x4 A q h
    rw [g_X2_opensLines_66_8] at h
    refine ev_iload 4 dX2_opensLines_8 rfl ?_
    refine ev_aload_n 2 dX2_opensLines_10 rfl rfl ?_
    refine ev_getI dX2_opensLines_11 fl_X2_84 (by decide) rfl (by decide) (by decide) rfl ?_
    refine ev_icmp_ge (tgt := 80) dX2_opensLines_14 (by decide) (fun c1 => ?_) (fun c1 => ?_)
    · have h := if_t c1 h
      refine ev_iconst (v := 1) dX2_opensLines_80 (by decide) ?_
      cases h
      exact ev_iret dX2_opensLines_81 rfl rfl ⟨rfl, rfl⟩
    · have h := if_f c1 h
      refine ev_aload_n 1 dX2_opensLines_17 rfl rfl ?_
      refine ev_aload_n 2 dX2_opensLines_18 rfl rfl ?_
      refine ev_getR (r := 67) dX2_opensLines_19 fl_X2_87 (by decide) rfl (by decide) (by decide) rfl ?_
      refine ev_iload 4 dX2_opensLines_22 rfl ?_
      obtain ⟨c2, h⟩ := if_c h
      refine ev_ialdc 4 dX2_opensLines_24 (by decide) rfl rfl (by decide) c2 ?_
      refine ev_iload_n 3 dX2_opensLines_25 rfl rfl ?_
      obtain ⟨q3, e4, h⟩ := bd_c h
      refine ev_callVi (av := [.int (A 67 (x4).toNatClampNeg), .int x3]) dX2_opensLines_26 (c_X3_knows n p1 (A 67 (x4).toNatClampNeg) x3 hp1 hk1 A q3 e4) mk_X3_knows lk_X2_90 iv_X3_knows (Or.inl ⟨3, _, hp1, hk1, by decide, rfl, rfl⟩) rfl (by decide) (by decide) (Nat.le_of_ble_eq_true rfl) rfl ?_
      refine ev_if_ne (tgt := 48) dX2_opensLines_29 (by decide) (fun c5 => ?_) (fun c5 => ?_)
      · have h := if_f c5 h
        refine ev_aload_n 0 dX2_opensLines_48 rfl rfl ?_
        refine ev_getR (r := 1) dX2_opensLines_49 fl_X2_34 (by decide) rfl (by decide) (by decide) rfl ?_
        refine ev_aload_n 2 dX2_opensLines_52 rfl rfl ?_
        refine ev_getR (r := 67) dX2_opensLines_53 fl_X2_87 (by decide) rfl (by decide) (by decide) rfl ?_
        refine ev_iload 4 dX2_opensLines_56 rfl ?_
        refine ev_ialdc 4 dX2_opensLines_58 (by decide) rfl rfl (by decide) c2 ?_
        obtain ⟨q6, e7, h⟩ := bd_c h
        refine ev_callVi (av := [.int (q3.2 67 (x4).toNatClampNeg)]) dX2_opensLines_59 (c_X8_valueOf n (q3.2 67 (x4).toNatClampNeg)  q3.2 q6 e7) mk_X8_valueOf lk_X2_96 iv_X8_valueOf (Or.inl ⟨8, _, by decide, rfl, by decide, rfl, rfl⟩) rfl (by decide) (by decide) (Nat.le_of_ble_eq_true rfl) rfl ?_
        refine ev_aload_n 2 dX2_opensLines_62 rfl rfl ?_
        refine ev_getR (r := 68) dX2_opensLines_63 fl_X2_101 (by decide) rfl (by decide) (by decide) rfl ?_
        refine ev_iload 4 dX2_opensLines_66 rfl ?_
        refine ev_ialdc 4 dX2_opensLines_68 (by decide) rfl rfl (by decide) c2 ?_
        refine ev_icmp_eq (tgt := 74) dX2_opensLines_69 (by decide) (fun c8 => ?_) (fun c8 => ?_)
        · have h := if_t c8 h
          refine ev_iinc (v := x4 + 1) (ls' := [(4, .int (x4 + 1)), (0, .ref 69), (1, .ref p1), (2, .ref 66), (3, .int x3)]) 4 dX2_opensLines_74 rfl rfl (by decide) rfl ?_
          refine ev_goto (tgt := 8) dX2_opensLines_77 (by decide) ?_
          refine ev_pick [1, 2, 3, 4, 0] (ls' := [(0, .ref 69), (1, .ref p1), (2, .ref 66), (3, .int x3), (4, .int (x4 + 1))]) rfl ?_
          exact ih x3 (x4 + 1) _ q h
        · have h := if_f c8 h
          refine ev_iconst (v := 0) dX2_opensLines_72 (by decide) ?_
          cases h
          exact ev_iret dX2_opensLines_73 rfl rfl ⟨rfl, rfl⟩
      · have h := if_t c5 h
        refine ev_aload_n 0 dX2_opensLines_32 rfl rfl ?_
        refine ev_dup dX2_opensLines_33 rfl ?_
        refine ev_getI dX2_opensLines_34 fl_X2_30 (by decide) rfl (by decide) (by decide) rfl ?_
        refine ev_iconst (v := 1) dX2_opensLines_37 (by decide) ?_
        refine ev_iload 4 dX2_opensLines_38 rfl ?_
        refine ev_ishl dX2_opensLines_40 ?_
        refine ev_ior dX2_opensLines_41 ?_
        refine ev_put2 dX2_opensLines_42 fl_X2_30 pk_2_9 (by decide) rfl (by decide) (by decide) rfl ?_
        refine ev_goto (tgt := 74) dX2_opensLines_45 (by decide) ?_
        refine ev_iinc (v := x4 + 1) (ls' := [(4, .int (x4 + 1)), (0, .ref 69), (1, .ref p1), (2, .ref 66), (3, .int x3)]) 4 dX2_opensLines_74 rfl rfl (by decide) rfl ?_
        refine ev_goto (tgt := 8) dX2_opensLines_77 (by decide) ?_
        refine ev_pick [1, 2, 3, 4, 0] (ls' := [(0, .ref 69), (1, .ref p1), (2, .ref 66), (3, .int x3), (4, .int (x4 + 1))]) rfl ?_
        exact ih x3 (x4 + 1) _ q h
def f_X2_opensLines_66 (n : Nat) (p1 : Nat) (x3 : Int32) (A : Mem) : Option (Int32 × Mem) :=
  g_X2_opensLines_66_8 n p1 n x3 ((0 : Int32)) (st2 A 69 9 ((0 : Int32)))
set_option maxRecDepth 100000 in
set_option maxHeartbeats 4000000 in
theorem c_X2_opensLines_66 (n : Nat) (p1 : Nat) (x3 : Int32) (hp1 : p1 < NT) (hk1 : kd p1 = 3) (A : Mem) (q : Int32 × Mem) (h : f_X2_opensLines_66 n p1 x3 A = some q) : Ct yX2_opensLines cX2_opensLines 5 (some .boolean) 2 [.ref 69, .ref p1, .ref 66, .int x3] A (RI q) := by
  unfold f_X2_opensLines_66 at h
  refine ct_of (by decide) (Nat.le_of_ble_eq_true rfl) ?_
  show Ev cX2_opensLines 5 RX2 (some .boolean) 2 none 0 [(0, .ref 69), (1, .ref p1), (2, .ref 66), (3, .int x3)] [] A (RI q)
  refine ev_aload_n 0 dX2_opensLines_0 rfl rfl ?_
  refine ev_iconst (v := 0) dX2_opensLines_1 (by decide) ?_
  refine ev_put2 dX2_opensLines_2 fl_X2_30 pk_2_9 (by decide) rfl (by decide) (by decide) rfl ?_
  refine ev_iconst (v := 0) dX2_opensLines_5 (by decide) ?_
  refine ev_istore (ls' := [(4, .int ((0 : Int32))), (0, .ref 69), (1, .ref p1), (2, .ref 66), (3, .int x3)]) dX2_opensLines_6 (by decide) rfl ?_
  refine ev_pick [1, 2, 3, 4, 0] (ls' := [(0, .ref 69), (1, .ref p1), (2, .ref 66), (3, .int x3), (4, .int ((0 : Int32)))]) rfl ?_
  exact (l_X2_opensLines_66_8 n p1 hp1 hk1 n) x3 ((0 : Int32)) _ q h
def f_X1_cameOn_16 (n : Nat) (x1 : Int32) (A : Mem) : Option (Int32 × Mem) :=
  if ¬ x1 < 0 ∧ (x1).toNatClampNeg < 10 then
    if ¬ (A 19 (x1).toNatClampNeg) < 0 ∧ (A 19 (x1).toNatClampNeg).toNatClampNeg < 3 then
      some ((A 18 (x1).toNatClampNeg) + (A 9 (A 19 (x1).toNatClampNeg).toNatClampNeg), A)
    else
      none
  else
    none
set_option maxRecDepth 100000 in
set_option maxHeartbeats 4000000 in
theorem c_X1_cameOn_16 (n : Nat) (x1 : Int32) (A : Mem) (q : Int32 × Mem) (h : f_X1_cameOn_16 n x1 A = some q) : Ct yX1_cameOn cX1_cameOn 2 (some .int) 0 [.ref 16, .int x1] A (RI q) := by
  unfold f_X1_cameOn_16 at h
  refine ct_of (by decide) (Nat.le_of_ble_eq_true rfl) ?_
  show Ev cX1_cameOn 2 RX1 (some .int) 0 none 0 [(0, .ref 16), (1, .int x1)] [] A (RI q)
  refine ev_aload_n 0 dX1_cameOn_0 rfl rfl ?_
  refine ev_getR (r := 18) dX1_cameOn_1 fl_X1_25 (by decide) rfl (by decide) (by decide) rfl ?_
  refine ev_iload_n 1 dX1_cameOn_4 rfl rfl ?_
  obtain ⟨c1, h⟩ := if_c h
  refine ev_ialdc 10 dX1_cameOn_5 (by decide) rfl rfl (by decide) c1 ?_
  refine ev_aload_n 0 dX1_cameOn_6 rfl rfl ?_
  refine ev_getR (r := 9) dX1_cameOn_7 fl_X1_18 (by decide) rfl (by decide) (by decide) rfl ?_
  refine ev_aload_n 0 dX1_cameOn_10 rfl rfl ?_
  refine ev_getR (r := 19) dX1_cameOn_11 fl_X1_28 (by decide) rfl (by decide) (by decide) rfl ?_
  refine ev_iload_n 1 dX1_cameOn_14 rfl rfl ?_
  refine ev_ialdc 10 dX1_cameOn_15 (by decide) rfl rfl (by decide) c1 ?_
  obtain ⟨c2, h⟩ := if_c h
  refine ev_ialdc 3 dX1_cameOn_16 (by decide) rfl rfl (by decide) c2 ?_
  refine ev_iadd dX1_cameOn_17 ?_
  cases h
  exact ev_iret dX1_cameOn_18 rfl rfl ⟨rfl, rfl⟩
def f_X4_gain_16 (n : Nat) (p1 : Nat) (x3 : Int32) (x4 : Int32) (A : Mem) : Option (Int32 × Mem) :=
  (f_X1_cameOn_16 n x3 A).bind fun q1 =>
  if x4 < q1.1 then
    some ((0 : Int32), q1.2)
  else
    if ¬ x3 < 0 ∧ (x3).toNatClampNeg < 10 then
      (f_X3_knows n p1 (q1.2 20 (x3).toNatClampNeg) x4 q1.2).bind fun q5 =>
      if q5.1 = 0 then
        some ((0 : Int32), q5.2)
      else
        (f_X8_valueOf n (q5.2 20 (x3).toNatClampNeg) q5.2).bind fun q8 =>
        if q8.1 = (q8.2 21 (x3).toNatClampNeg) then
          (f_X9_dayOf n (q8.2 20 (x3).toNatClampNeg) q8.2).bind fun q11 =>
          some (if ((0 : Int32)) < ((q11.2 (rf p1 0) 1) - ((q11.2 (rf p1 0) 3) * (if ((0 : Int32)) < (q1.1 - q11.1) then q1.1 - q11.1 else (0 : Int32)))) then (q11.2 (rf p1 0) 1) - ((q11.2 (rf p1 0) 3) * (if ((0 : Int32)) < (q1.1 - q11.1) then q1.1 - q11.1 else (0 : Int32))) else (0 : Int32), q11.2)
        else
          some (-(q8.2 (rf p1 0) 2), q8.2)
    else
      none
set_option maxRecDepth 100000 in
set_option maxHeartbeats 4000000 in
theorem c_X4_gain_16 (n : Nat) (p1 : Nat) (x3 : Int32) (x4 : Int32) (hp1 : p1 < NT) (hk1 : kd p1 = 3) (A : Mem) (q : Int32 × Mem) (h : f_X4_gain_16 n p1 x3 x4 A = some q) : Ct yX4_gain cX4_gain 7 (some .int) 2 [.ref 22, .ref p1, .ref 16, .int x3, .int x4] A (RI q) := by
  unfold f_X4_gain_16 at h
  refine ct_of (by decide) (Nat.le_of_ble_eq_true rfl) ?_
  show Ev cX4_gain 7 RX4 (some .int) 2 none 0 [(0, .ref 22), (1, .ref p1), (2, .ref 16), (3, .int x3), (4, .int x4)] [] A (RI q)
  refine ev_aload_n 2 dX4_gain_0 rfl rfl ?_
  refine ev_iload_n 3 dX4_gain_1 rfl rfl ?_
  obtain ⟨q1, e2, h⟩ := bd_c h
  refine ev_callVi (av := [.int x3]) dX4_gain_2 (c_X1_cameOn_16 n x3  A q1 e2) mk_X1_cameOn lk_X4_26 iv_X1_cameOn (Or.inl ⟨1, _, by decide, rfl, by decide, rfl, rfl⟩) rfl (by decide) (by decide) (Nat.le_of_ble_eq_true rfl) rfl ?_
  refine ev_istore (ls' := [(5, .int q1.1), (0, .ref 22), (1, .ref p1), (2, .ref 16), (3, .int x3), (4, .int x4)]) dX4_gain_5 (by decide) rfl ?_
  refine ev_iload 0 dX4_gain_7 rfl ?_
  refine ev_iload 5 dX4_gain_9 rfl ?_
  refine ev_icmp_gt (tgt := 29) dX4_gain_11 (by decide) (fun c3 => ?_) (fun c3 => ?_)
  · have h := if_t c3 h
    refine ev_iconst (v := 0) dX4_gain_29 (by decide) ?_
    cases h
    exact ev_iret dX4_gain_30 rfl rfl ⟨rfl, rfl⟩
  · have h := if_f c3 h
    refine ev_aload_n 2 dX4_gain_14 rfl rfl ?_
    refine ev_aload_n 3 dX4_gain_15 rfl rfl ?_
    refine ev_getR (r := 20) dX4_gain_16 fl_X4_32 (by decide) rfl (by decide) (by decide) rfl ?_
    refine ev_iload_n 4 dX4_gain_19 rfl rfl ?_
    obtain ⟨c4, h⟩ := if_c h
    refine ev_ialdc 10 dX4_gain_20 (by decide) rfl rfl (by decide) c4 ?_
    refine ev_iload 5 dX4_gain_21 rfl ?_
    obtain ⟨q5, e6, h⟩ := bd_c h
    refine ev_callVi (av := [.int (q1.2 20 (x3).toNatClampNeg), .int x4]) dX4_gain_23 (c_X3_knows n p1 (q1.2 20 (x3).toNatClampNeg) x4 hp1 hk1 q1.2 q5 e6) mk_X3_knows lk_X4_35 iv_X3_knows (Or.inl ⟨3, _, hp1, hk1, by decide, rfl, rfl⟩) rfl (by decide) (by decide) (Nat.le_of_ble_eq_true rfl) rfl ?_
    refine ev_if_ne (tgt := 31) dX4_gain_26 (by decide) (fun c7 => ?_) (fun c7 => ?_)
    · have h := if_f c7 h
      refine ev_aload_n 1 dX4_gain_31 rfl rfl ?_
      refine ev_getR (r := 1) dX4_gain_32 fl_X4_18 (by decide) rfl (by decide) (by decide) rfl ?_
      refine ev_aload_n 3 dX4_gain_35 rfl rfl ?_
      refine ev_getR (r := 20) dX4_gain_36 fl_X4_32 (by decide) rfl (by decide) (by decide) rfl ?_
      refine ev_iload_n 4 dX4_gain_39 rfl rfl ?_
      refine ev_ialdc 10 dX4_gain_40 (by decide) rfl rfl (by decide) c4 ?_
      obtain ⟨q8, e9, h⟩ := bd_c h
      refine ev_callVi (av := [.int (q5.2 20 (x3).toNatClampNeg)]) dX4_gain_41 (c_X8_valueOf n (q5.2 20 (x3).toNatClampNeg)  q5.2 q8 e9) mk_X8_valueOf lk_X4_41 iv_X8_valueOf (Or.inl ⟨8, _, by decide, rfl, by decide, rfl, rfl⟩) rfl (by decide) (by decide) (Nat.le_of_ble_eq_true rfl) rfl ?_
      refine ev_aload_n 3 dX4_gain_44 rfl rfl ?_
      refine ev_getR (r := 21) dX4_gain_45 fl_X4_46 (by decide) rfl (by decide) (by decide) rfl ?_
      refine ev_iload_n 4 dX4_gain_48 rfl rfl ?_
      refine ev_ialdc 10 dX4_gain_49 (by decide) rfl rfl (by decide) c4 ?_
      refine ev_icmp_eq (tgt := 61) dX4_gain_50 (by decide) (fun c10 => ?_) (fun c10 => ?_)
      · have h := if_t c10 h
        refine ev_iconst (v := 0) dX4_gain_61 (by decide) ?_
        refine ev_iload 0 dX4_gain_62 rfl ?_
        refine ev_aload_n 3 dX4_gain_64 rfl rfl ?_
        refine ev_getR (r := 20) dX4_gain_65 fl_X4_32 (by decide) rfl (by decide) (by decide) rfl ?_
        refine ev_iload_n 4 dX4_gain_68 rfl rfl ?_
        refine ev_ialdc 10 dX4_gain_69 (by decide) rfl rfl (by decide) c4 ?_
        obtain ⟨q11, e12, h⟩ := bd_c h
        refine ev_callSi (av := [.int (q8.2 20 (x3).toNatClampNeg)]) dX4_gain_70 (c_X9_dayOf n (q8.2 20 (x3).toNatClampNeg)  q8.2 q11 e12) mk_X9_dayOf lk_X4_52 is_X9_dayOf rfl (by decide) (by decide) (Nat.le_of_ble_eq_true rfl) rfl ?_
        refine ev_isub dX4_gain_73 ?_
        refine ev_mmax dX4_gain_74 lm_X4_55 (by decide) (Nat.le_of_ble_eq_true rfl) ?_
        refine ev_istore (ls' := [(6, .int (if ((0 : Int32)) < (q1.1 - q11.1) then q1.1 - q11.1 else (0 : Int32))), (5, .int q1.1), (0, .ref 22), (1, .ref p1), (2, .ref 16), (3, .int x3), (4, .int x4)]) dX4_gain_77 (by decide) rfl ?_
        refine ev_iconst (v := 0) dX4_gain_79 (by decide) ?_
        refine ev_aload_n 3 dX4_gain_80 rfl rfl ?_
        refine ev_getR (r := rf p1 0) dX4_gain_81 fl_X4_49 hp1 hk1 (sl_3_0 p1 hp1 hk1) (by decide) (sr_3_0 p1 hp1 hk1) ?_
        refine ev_iconst (v := 1) dX4_gain_84 (by decide) ?_
        refine ev_ialdl 6 1 dX4_gain_85 (sa_3_0 p1 hp1 hk1).1 (sa_3_0 p1 hp1 hk1).2.1 (sa_3_0 p1 hp1 hk1).2.2 (by decide) rfl (by decide) ?_
        refine ev_aload_n 3 dX4_gain_86 rfl rfl ?_
        refine ev_getR (r := rf p1 0) dX4_gain_87 fl_X4_49 hp1 hk1 (sl_3_0 p1 hp1 hk1) (by decide) (sr_3_0 p1 hp1 hk1) ?_
        refine ev_iconst (v := 3) dX4_gain_90 (by decide) ?_
        refine ev_ialdl 6 3 dX4_gain_91 (sa_3_0 p1 hp1 hk1).1 (sa_3_0 p1 hp1 hk1).2.1 (sa_3_0 p1 hp1 hk1).2.2 (by decide) rfl (by decide) ?_
        refine ev_iload 0 dX4_gain_92 rfl ?_
        refine ev_imul dX4_gain_94 ?_
        refine ev_isub dX4_gain_95 ?_
        refine ev_mmax dX4_gain_96 lm_X4_55 (by decide) (Nat.le_of_ble_eq_true rfl) ?_
        cases h
        exact ev_iret dX4_gain_99 rfl rfl ⟨rfl, rfl⟩
      · have h := if_f c10 h
        refine ev_aload_n 2 dX4_gain_53 rfl rfl ?_
        refine ev_getR (r := rf p1 0) dX4_gain_54 fl_X4_49 hp1 hk1 (sl_3_0 p1 hp1 hk1) (by decide) (sr_3_0 p1 hp1 hk1) ?_
        refine ev_iconst (v := 2) dX4_gain_57 (by decide) ?_
        refine ev_ialdl 6 2 dX4_gain_58 (sa_3_0 p1 hp1 hk1).1 (sa_3_0 p1 hp1 hk1).2.1 (sa_3_0 p1 hp1 hk1).2.2 (by decide) rfl (by decide) ?_
        refine ev_ineg dX4_gain_59 ?_
        cases h
        exact ev_iret dX4_gain_60 rfl rfl ⟨rfl, rfl⟩
    · have h := if_t c7 h
      refine ev_iconst (v := 0) dX4_gain_29 (by decide) ?_
      cases h
      exact ev_iret dX4_gain_30 rfl rfl ⟨rfl, rfl⟩
def g_X2_sumLetters_29 (n : Nat) (p1 : Nat) : Nat → Int32 → Int32 → Mem → Option (Int32 × Mem)
  | 0, _, _, _ => none
  | m + 1, x2, x3, A =>
    if (A 16 7) ≤ x3 then
      some (0, A)
    else
      (f_X4_gain_16 n p1 x3 x2 A).bind fun q4 =>
      if ¬ x3 < 0 ∧ (x3).toNatClampNeg < 10 then
        g_X2_sumLetters_29 n p1 m x2 (x3 + 1) (st2 q4.2 72 (x3).toNatClampNeg q4.1)
      else
        none
set_option maxRecDepth 100000 in
set_option maxHeartbeats 4000000 in
theorem l_X2_sumLetters_29 (n : Nat) (p1 : Nat) (hp1 : p1 < NT) (hk1 : kd p1 = 3) : ∀ (m : Nat) (x2 : Int32) (x3 : Int32) (A : Mem) (q : Int32 × Mem), g_X2_sumLetters_29 n p1 m x2 x3 A = some q → Ev cX2_sumLetters 4 RX2 none 4 none 29 [(0, .ref 69), (1, .ref p1), (2, .int x2), (3, .int x3)] [] A (RV q) := by
  intro m
  induction m with
  | zero => intro x2 x3 A q h; exact absurd h (by simp [g_X2_sumLetters_29])
  | succ m ih =>
    intro x2 x3 A q h
    rw [g_X2_sumLetters_29] at h
    refine ev_iload_n 3 dX2_sumLetters_29 rfl rfl ?_
    refine ev_aload_n 0 dX2_sumLetters_30 rfl rfl ?_
    refine ev_getR (r := 16) dX2_sumLetters_31 fl_X2_42 (by decide) rfl (by decide) (by decide) rfl ?_
    refine ev_getI dX2_sumLetters_34 fl_X2_62 (by decide) rfl (by decide) (by decide) rfl ?_
    refine ev_icmp_ge (tgt := 66) dX2_sumLetters_37 (by decide) (fun c3 => ?_) (fun c3 => ?_)
    · have h := if_t c3 h
      cases h
      exact ev_vret dX2_sumLetters_66 rfl ⟨rfl, rfl⟩
    · have h := if_f c3 h
      refine ev_aload_n 0 dX2_sumLetters_40 rfl rfl ?_
      refine ev_getR (r := 72) dX2_sumLetters_41 fl_X2_18 (by decide) rfl (by decide) (by decide) rfl ?_
      refine ev_iload_n 3 dX2_sumLetters_44 rfl rfl ?_
      refine ev_aload_n 0 dX2_sumLetters_45 rfl rfl ?_
      refine ev_getR (r := 22) dX2_sumLetters_46 fl_X2_38 (by decide) rfl (by decide) (by decide) rfl ?_
      refine ev_aload_n 1 dX2_sumLetters_49 rfl rfl ?_
      refine ev_aload_n 0 dX2_sumLetters_50 rfl rfl ?_
      refine ev_getR (r := 16) dX2_sumLetters_51 fl_X2_42 (by decide) rfl (by decide) (by decide) rfl ?_
      refine ev_iload_n 3 dX2_sumLetters_54 rfl rfl ?_
      refine ev_iload_n 2 dX2_sumLetters_55 rfl rfl ?_
      obtain ⟨q4, e5, h⟩ := bd_c h
      refine ev_callVi (av := [.ref p1, .ref 16, .int x3, .int x2]) dX2_sumLetters_56 (c_X4_gain_16 n p1 x3 x2 hp1 hk1 A q4 e5) mk_X4_gain lk_X2_114 iv_X4_gain (Or.inl ⟨4, _, by decide, rfl, by decide, rfl, rfl⟩) rfl (by decide) (by decide) (Nat.le_of_ble_eq_true rfl) rfl ?_
      obtain ⟨c6, h⟩ := if_c h
      refine ev_iastc 10 dX2_sumLetters_59 (by decide) rfl rfl (by decide) c6 ?_
      refine ev_iinc (v := x3 + 1) (ls' := [(3, .int (x3 + 1)), (0, .ref 69), (1, .ref p1), (2, .int x2)]) 3 dX2_sumLetters_60 rfl rfl (by decide) rfl ?_
      refine ev_goto (tgt := 29) dX2_sumLetters_63 (by decide) ?_
      refine ev_pick [1, 2, 3, 0] (ls' := [(0, .ref 69), (1, .ref p1), (2, .int x2), (3, .int (x3 + 1))]) rfl ?_
      exact ih x2 (x3 + 1) _ q h
def f_X2_sumLetters (n : Nat) (p1 : Nat) (x2 : Int32) (A : Mem) : Option (Int32 × Mem) :=
  (f_X4_sumTrust n p1 x2 A).bind fun q1 =>
  g_X2_sumLetters_29 n p1 n x2 ((0 : Int32)) (updR q1.2 74 (va_cpy (q1.2 23) (q1.2 74) ((0 : Int32)).toNatClampNeg ((0 : Int32)).toNatClampNeg ((6 : Int32)).toNatClampNeg))
set_option maxRecDepth 100000 in
set_option maxHeartbeats 4000000 in
theorem c_X2_sumLetters (n : Nat) (p1 : Nat) (x2 : Int32) (hp1 : p1 < NT) (hk1 : kd p1 = 3) (A : Mem) (q : Int32 × Mem) (h : f_X2_sumLetters n p1 x2 A = some q) : Ct yX2_sumLetters cX2_sumLetters 4 none 4 [.ref 69, .ref p1, .int x2] A (RV q) := by
  unfold f_X2_sumLetters at h
  refine ct_of (by decide) (Nat.le_of_ble_eq_true rfl) ?_
  show Ev cX2_sumLetters 4 RX2 none 4 none 0 [(0, .ref 69), (1, .ref p1), (2, .int x2)] [] A (RV q)
  refine ev_aload_n 0 dX2_sumLetters_0 rfl rfl ?_
  refine ev_getR (r := 22) dX2_sumLetters_1 fl_X2_38 (by decide) rfl (by decide) (by decide) rfl ?_
  refine ev_aload_n 1 dX2_sumLetters_4 rfl rfl ?_
  refine ev_iload_n 2 dX2_sumLetters_5 rfl rfl ?_
  obtain ⟨q1, e2, h⟩ := bd_c h
  refine ev_callVv (av := [.ref p1, .int x2]) dX2_sumLetters_6 (c_X4_sumTrust n p1 x2 hp1 hk1 A q1 e2) mk_X4_sumTrust lk_X2_104 iv_X4_sumTrust (Or.inl ⟨4, _, by decide, rfl, by decide, rfl, rfl⟩) rfl (by decide) (by decide) (Nat.le_of_ble_eq_true rfl) rfl ?_
  refine ev_aload_n 0 dX2_sumLetters_9 rfl rfl ?_
  refine ev_getR (r := 22) dX2_sumLetters_10 fl_X2_38 (by decide) rfl (by decide) (by decide) rfl ?_
  refine ev_getR (r := 23) dX2_sumLetters_13 fl_X2_107 (by decide) rfl (by decide) (by decide) rfl ?_
  refine ev_iconst (v := 0) dX2_sumLetters_16 (by decide) ?_
  refine ev_aload_n 0 dX2_sumLetters_17 rfl rfl ?_
  refine ev_getR (r := 74) dX2_sumLetters_18 fl_X2_24 (by decide) rfl (by decide) (by decide) rfl ?_
  refine ev_iconst (v := 0) dX2_sumLetters_21 (by decide) ?_
  refine ev_bipush (v := 6) dX2_sumLetters_22 (by decide) ?_
  refine ev_copy (k0 := 23) (k1 := 74) 6 6 dX2_sumLetters_24 lc_X2_108 cpw (by decide) (by decide) rfl rfl rfl rfl (by decide) (by decide) (Nat.le_of_ble_eq_true rfl) ?_
  refine ev_iconst (v := 0) dX2_sumLetters_27 (by decide) ?_
  refine ev_istore_n (ls' := [(3, .int ((0 : Int32))), (0, .ref 69), (1, .ref p1), (2, .int x2)]) dX2_sumLetters_28 rfl (by decide) rfl ?_
  refine ev_pick [1, 2, 3, 0] (ls' := [(0, .ref 69), (1, .ref p1), (2, .int x2), (3, .int ((0 : Int32)))]) rfl ?_
  exact (l_X2_sumLetters_29 n p1 hp1 hk1 n) x2 ((0 : Int32)) _ q h
def g_X2_gatherLines_66_2 (n : Nat) : Nat → Int32 → Int32 → Mem → Option (Int32 × Mem)
  | 0, _, _, _ => none
  | m + 1, x2, x3, A =>
    if (A 66 2) ≤ x3 then
      some (0, A)
    else
      if ¬ x3 < 0 ∧ (x3).toNatClampNeg < 4 then
        (f_X4_gather n (A 67 (x3).toNatClampNeg) x2 A).bind fun q3 =>
        if ¬ ((0 : Int32)) < 0 ∧ ¬ (x3 * ((10 : Int32))) < 0 ∧ ¬ ((10 : Int32)) < 0 ∧ ((0 : Int32)).toNatClampNeg + ((10 : Int32)).toNatClampNeg ≤ 10 ∧ (x3 * ((10 : Int32))).toNatClampNeg + ((10 : Int32)).toNatClampNeg ≤ 40 then
          g_X2_gatherLines_66_2 n  m x2 (x3 + 1) (updR q3.2 75 (va_cpy (q3.2 24) (q3.2 75) ((0 : Int32)).toNatClampNeg (x3 * ((10 : Int32))).toNatClampNeg ((10 : Int32)).toNatClampNeg))
        else
          none
      else
        none
set_option maxRecDepth 100000 in
set_option maxHeartbeats 4000000 in
theorem l_X2_gatherLines_66_2 (n : Nat) : ∀ (m : Nat) (x2 : Int32) (x3 : Int32) (A : Mem) (q : Int32 × Mem), g_X2_gatherLines_66_2 n  m x2 x3 A = some q → Ev cX2_gatherLines 4 RX2 none 2 none 2 [(0, .ref 69), (1, .ref 66), (2, .int x2), (3, .int x3)] [] A (RV q) := by
  intro m
  induction m with
  | zero => intro x2 x3 A q h; exact absurd h (by simp [g_X2_gatherLines_66_2])
  | succ m ih =>
    intro x2 x3 A q h
    rw [g_X2_gatherLines_66_2] at h
    refine ev_iload_n 3 dX2_gatherLines_2 rfl rfl ?_
    refine ev_aload_n 1 dX2_gatherLines_3 rfl rfl ?_
    refine ev_getI dX2_gatherLines_4 fl_X2_84 (by decide) rfl (by decide) (by decide) rfl ?_
    refine ev_icmp_ge (tgt := 51) dX2_gatherLines_7 (by decide) (fun c1 => ?_) (fun c1 => ?_)
    · have h := if_t c1 h
      cases h
      exact ev_vret dX2_gatherLines_51 rfl ⟨rfl, rfl⟩
    · have h := if_f c1 h
      refine ev_aload_n 0 dX2_gatherLines_10 rfl rfl ?_
      refine ev_getR (r := 22) dX2_gatherLines_11 fl_X2_38 (by decide) rfl (by decide) (by decide) rfl ?_
      refine ev_aload_n 1 dX2_gatherLines_14 rfl rfl ?_
      refine ev_getR (r := 67) dX2_gatherLines_15 fl_X2_87 (by decide) rfl (by decide) (by decide) rfl ?_
      refine ev_iload_n 3 dX2_gatherLines_18 rfl rfl ?_
      obtain ⟨c2, h⟩ := if_c h
      refine ev_ialdc 4 dX2_gatherLines_19 (by decide) rfl rfl (by decide) c2 ?_
      refine ev_iload_n 2 dX2_gatherLines_20 rfl rfl ?_
      obtain ⟨q3, e4, h⟩ := bd_c h
      refine ev_callVv (av := [.int (A 67 (x3).toNatClampNeg), .int x2]) dX2_gatherLines_21 (c_X4_gather n (A 67 (x3).toNatClampNeg) x2  A q3 e4) mk_X4_gather lk_X2_118 iv_X4_gather (Or.inl ⟨4, _, by decide, rfl, by decide, rfl, rfl⟩) rfl (by decide) (by decide) (Nat.le_of_ble_eq_true rfl) rfl ?_
      refine ev_aload_n 0 dX2_gatherLines_24 rfl rfl ?_
      refine ev_getR (r := 22) dX2_gatherLines_25 fl_X2_38 (by decide) rfl (by decide) (by decide) rfl ?_
      refine ev_getR (r := 24) dX2_gatherLines_28 fl_X2_122 (by decide) rfl (by decide) (by decide) rfl ?_
      refine ev_iconst (v := 0) dX2_gatherLines_31 (by decide) ?_
      refine ev_aload_n 0 dX2_gatherLines_32 rfl rfl ?_
      refine ev_getR (r := 75) dX2_gatherLines_33 fl_X2_27 (by decide) rfl (by decide) (by decide) rfl ?_
      refine ev_iload_n 3 dX2_gatherLines_36 rfl rfl ?_
      refine ev_bipush (v := 10) dX2_gatherLines_37 (by decide) ?_
      refine ev_imul dX2_gatherLines_39 ?_
      refine ev_bipush (v := 10) dX2_gatherLines_40 (by decide) ?_
      obtain ⟨c5, h⟩ := if_c h
      refine ev_copy (k0 := 24) (k1 := 75) 10 40 dX2_gatherLines_42 lc_X2_108 cpw (by decide) (by decide) rfl rfl rfl rfl c5 (by decide) (Nat.le_of_ble_eq_true rfl) ?_
      refine ev_iinc (v := x3 + 1) (ls' := [(3, .int (x3 + 1)), (0, .ref 69), (1, .ref 66), (2, .int x2)]) 3 dX2_gatherLines_45 rfl rfl (by decide) rfl ?_
      refine ev_goto (tgt := 2) dX2_gatherLines_48 (by decide) ?_
      refine ev_pick [1, 2, 3, 0] (ls' := [(0, .ref 69), (1, .ref 66), (2, .int x2), (3, .int (x3 + 1))]) rfl ?_
      exact ih x2 (x3 + 1) _ q h
def f_X2_gatherLines_66 (n : Nat) (x2 : Int32) (A : Mem) : Option (Int32 × Mem) :=
  g_X2_gatherLines_66_2 n  n x2 ((0 : Int32)) A
set_option maxRecDepth 100000 in
set_option maxHeartbeats 4000000 in
theorem c_X2_gatherLines_66 (n : Nat) (x2 : Int32) (A : Mem) (q : Int32 × Mem) (h : f_X2_gatherLines_66 n x2 A = some q) : Ct yX2_gatherLines cX2_gatherLines 4 none 2 [.ref 69, .ref 66, .int x2] A (RV q) := by
  unfold f_X2_gatherLines_66 at h
  refine ct_of (by decide) (Nat.le_of_ble_eq_true rfl) ?_
  show Ev cX2_gatherLines 4 RX2 none 2 none 0 [(0, .ref 69), (1, .ref 66), (2, .int x2)] [] A (RV q)
  refine ev_iconst (v := 0) dX2_gatherLines_0 (by decide) ?_
  refine ev_istore_n (ls' := [(3, .int ((0 : Int32))), (0, .ref 69), (1, .ref 66), (2, .int x2)]) dX2_gatherLines_1 rfl (by decide) rfl ?_
  refine ev_pick [1, 2, 3, 0] (ls' := [(0, .ref 69), (1, .ref 66), (2, .int x2), (3, .int ((0 : Int32)))]) rfl ?_
  exact (l_X2_gatherLines_66_2 n   n) x2 ((0 : Int32)) _ q h
def g_X2_usefulForStory_66_5 (n : Nat) : Nat → Nat → Int32 → Int32 → Int32 → Int32 → Mem → Option (Int32 × Mem)
  | 0, _, _, _, _, _, _ => none
  | m + 1, b, x2, x3, x4, x5, A =>
    if b = 0 then
      if (A 16 7) ≤ x4 then
        some (x3, A)
      else
        if ¬ x4 < 0 ∧ (x4).toNatClampNeg < 10 then
          g_X2_usefulForStory_66_5 n  m 1 x2 x3 x4 ((0 : Int32)) (st2 A 73 (x4).toNatClampNeg ((0 : Int32)))
        else
          none
    else
      if (A 66 2) ≤ x5 then
        if ¬ x4 < 0 ∧ (x4).toNatClampNeg < 10 then
          if (A 73 (x4).toNatClampNeg) = 0 then
            if (A 72 (x4).toNatClampNeg) = 0 then
              g_X2_usefulForStory_66_5 n  m 0 x2 x3 (x4 + 1) 0 A
            else
              g_X2_usefulForStory_66_5 n  m 0 x2 (x3 ||| (((1 : Int32)) <<< (x4 &&& 31))) (x4 + 1) 0 A
          else
            g_X2_usefulForStory_66_5 n  m 0 x2 (x3 ||| (((1 : Int32)) <<< (x4 &&& 31))) (x4 + 1) 0 A
        else
          none
      else
        (f_X9_hasBit n (A 69 9) x5 A).bind fun q7 =>
        if q7.1 = 0 then
          g_X2_usefulForStory_66_5 n  m 1 x2 x3 x4 (x5 + 1) q7.2
        else
          if ¬ x4 < 0 ∧ (x4).toNatClampNeg < 10 then
            if ¬ x5 < 0 ∧ (x5).toNatClampNeg < 4 then
              if (q7.2 20 (x4).toNatClampNeg) = (q7.2 67 (x5).toNatClampNeg) then
                (f_X1_cameOn_16 n x4 q7.2).bind fun q13 =>
                if x2 < q13.1 then
                  g_X2_usefulForStory_66_5 n  m 1 x2 x3 x4 (x5 + 1) q13.2
                else
                  g_X2_usefulForStory_66_5 n  m 1 x2 x3 x4 (x5 + 1) (st2 q13.2 73 (x4).toNatClampNeg ((q13.2 73 (x4).toNatClampNeg) ||| (((1 : Int32)) <<< (x5 &&& 31))))
              else
                g_X2_usefulForStory_66_5 n  m 1 x2 x3 x4 (x5 + 1) q7.2
            else
              none
          else
            none
set_option maxRecDepth 100000 in
set_option maxHeartbeats 4000000 in
theorem l_X2_usefulForStory_66_5 (n : Nat) : ∀ (m : Nat), (∀ (x2 : Int32) (x3 : Int32) (x4 : Int32) (x5 : Int32) (A : Mem) (q : Int32 × Mem), g_X2_usefulForStory_66_5 n  m 0 x2 x3 x4 x5 A = some q → Ev cX2_usefulForStory 6 RX2 (some .int) 1 none 5 [(0, .ref 69), (1, .ref 66), (2, .int x2), (3, .int x3), (4, .int x4)] [] A (RI q)) ∧ (∀ (x2 : Int32) (x3 : Int32) (x4 : Int32) (x5 : Int32) (A : Mem) (q : Int32 × Mem), g_X2_usefulForStory_66_5 n  m 1 x2 x3 x4 x5 A = some q → Ev cX2_usefulForStory 6 RX2 (some .int) 1 none 28 [(0, .ref 69), (1, .ref 66), (2, .int x2), (3, .int x3), (4, .int x4), (5, .int x5)] [] A (RI q)) := by
  intro m
  induction m with
  | zero => exact ⟨fun x2 x3 x4 x5 A q h => absurd h (by simp [g_X2_usefulForStory_66_5]), fun x2 x3 x4 x5 A q h => absurd h (by simp [g_X2_usefulForStory_66_5])⟩
  | succ m ih =>
    constructor
    · intro x2 x3 x4 x5 A q h
      rw [g_X2_usefulForStory_66_5] at h
      have h := if_t rfl h
      refine ev_iload 4 dX2_usefulForStory_5 rfl ?_
      refine ev_aload_n 0 dX2_usefulForStory_7 rfl rfl ?_
      refine ev_getR (r := 16) dX2_usefulForStory_8 fl_X2_42 (by decide) rfl (by decide) (by decide) rfl ?_
      refine ev_getI dX2_usefulForStory_11 fl_X2_62 (by decide) rfl (by decide) (by decide) rfl ?_
      refine ev_icmp_ge (tgt := 135) dX2_usefulForStory_14 (by decide) (fun c1 => ?_) (fun c1 => ?_)
      · have h := if_t c1 h
        refine ev_iload_n 3 dX2_usefulForStory_135 rfl rfl ?_
        cases h
        exact ev_iret dX2_usefulForStory_136 rfl rfl ⟨rfl, rfl⟩
      · have h := if_f c1 h
        refine ev_aload_n 0 dX2_usefulForStory_17 rfl rfl ?_
        refine ev_getR (r := 73) dX2_usefulForStory_18 fl_X2_21 (by decide) rfl (by decide) (by decide) rfl ?_
        refine ev_iload 4 dX2_usefulForStory_21 rfl ?_
        refine ev_iconst (v := 0) dX2_usefulForStory_23 (by decide) ?_
        obtain ⟨c2, h⟩ := if_c h
        refine ev_iastc 10 dX2_usefulForStory_24 (by decide) rfl rfl (by decide) c2 ?_
        refine ev_iconst (v := 0) dX2_usefulForStory_25 (by decide) ?_
        refine ev_istore (ls' := [(5, .int ((0 : Int32))), (0, .ref 69), (1, .ref 66), (2, .int x2), (3, .int x3), (4, .int x4)]) dX2_usefulForStory_26 (by decide) rfl ?_
        refine ev_pick [1, 2, 3, 4, 5, 0] (ls' := [(0, .ref 69), (1, .ref 66), (2, .int x2), (3, .int x3), (4, .int x4), (5, .int ((0 : Int32)))]) rfl ?_
        exact ih.2 x2 x3 x4 ((0 : Int32)) _ q h
    · intro x2 x3 x4 x5 A q h
      rw [g_X2_usefulForStory_66_5] at h
      have h := if_f (by decide) h
      refine ev_iload 5 dX2_usefulForStory_28 rfl ?_
      refine ev_aload_n 1 dX2_usefulForStory_30 rfl rfl ?_
      refine ev_getI dX2_usefulForStory_31 fl_X2_84 (by decide) rfl (by decide) (by decide) rfl ?_
      refine ev_icmp_ge (tgt := 102) dX2_usefulForStory_34 (by decide) (fun c3 => ?_) (fun c3 => ?_)
      · have h := if_t c3 h
        refine ev_aload_n 0 dX2_usefulForStory_102 rfl rfl ?_
        refine ev_getR (r := 73) dX2_usefulForStory_103 fl_X2_21 (by decide) rfl (by decide) (by decide) rfl ?_
        refine ev_iload 4 dX2_usefulForStory_106 rfl ?_
        obtain ⟨c4, h⟩ := if_c h
        refine ev_ialdc 10 dX2_usefulForStory_108 (by decide) rfl rfl (by decide) c4 ?_
        refine ev_if_ne (tgt := 122) dX2_usefulForStory_109 (by decide) (fun c5 => ?_) (fun c5 => ?_)
        · have h := if_f c5 h
          refine ev_iload_n 3 dX2_usefulForStory_122 rfl rfl ?_
          refine ev_iconst (v := 1) dX2_usefulForStory_123 (by decide) ?_
          refine ev_iload 4 dX2_usefulForStory_124 rfl ?_
          refine ev_ishl dX2_usefulForStory_126 ?_
          refine ev_ior dX2_usefulForStory_127 ?_
          refine ev_istore_n (ls' := [(3, .int (x3 ||| (((1 : Int32)) <<< (x4 &&& 31)))), (0, .ref 69), (1, .ref 66), (2, .int x2), (4, .int x4), (5, .int x5)]) dX2_usefulForStory_128 rfl (by decide) rfl ?_
          refine ev_iinc (v := x4 + 1) (ls' := [(4, .int (x4 + 1)), (3, .int (x3 ||| (((1 : Int32)) <<< (x4 &&& 31)))), (0, .ref 69), (1, .ref 66), (2, .int x2), (5, .int x5)]) 4 dX2_usefulForStory_129 rfl rfl (by decide) rfl ?_
          refine ev_goto (tgt := 5) dX2_usefulForStory_132 (by decide) ?_
          refine ev_pick [2, 3, 4, 1, 0] (ls' := [(0, .ref 69), (1, .ref 66), (2, .int x2), (3, .int (x3 ||| (((1 : Int32)) <<< (x4 &&& 31)))), (4, .int (x4 + 1))]) rfl ?_
          exact ih.1 x2 (x3 ||| (((1 : Int32)) <<< (x4 &&& 31))) (x4 + 1) 0 _ q h
        · have h := if_t c5 h
          refine ev_aload_n 0 dX2_usefulForStory_112 rfl rfl ?_
          refine ev_getR (r := 72) dX2_usefulForStory_113 fl_X2_18 (by decide) rfl (by decide) (by decide) rfl ?_
          refine ev_iload 4 dX2_usefulForStory_116 rfl ?_
          refine ev_ialdc 10 dX2_usefulForStory_118 (by decide) rfl rfl (by decide) c4 ?_
          refine ev_if_eq (tgt := 129) dX2_usefulForStory_119 (by decide) (fun c6 => ?_) (fun c6 => ?_)
          · have h := if_t c6 h
            refine ev_iinc (v := x4 + 1) (ls' := [(4, .int (x4 + 1)), (0, .ref 69), (1, .ref 66), (2, .int x2), (3, .int x3), (5, .int x5)]) 4 dX2_usefulForStory_129 rfl rfl (by decide) rfl ?_
            refine ev_goto (tgt := 5) dX2_usefulForStory_132 (by decide) ?_
            refine ev_pick [1, 2, 3, 4, 0] (ls' := [(0, .ref 69), (1, .ref 66), (2, .int x2), (3, .int x3), (4, .int (x4 + 1))]) rfl ?_
            exact ih.1 x2 x3 (x4 + 1) 0 _ q h
          · have h := if_f c6 h
            refine ev_iload_n 3 dX2_usefulForStory_122 rfl rfl ?_
            refine ev_iconst (v := 1) dX2_usefulForStory_123 (by decide) ?_
            refine ev_iload 4 dX2_usefulForStory_124 rfl ?_
            refine ev_ishl dX2_usefulForStory_126 ?_
            refine ev_ior dX2_usefulForStory_127 ?_
            refine ev_istore_n (ls' := [(3, .int (x3 ||| (((1 : Int32)) <<< (x4 &&& 31)))), (0, .ref 69), (1, .ref 66), (2, .int x2), (4, .int x4), (5, .int x5)]) dX2_usefulForStory_128 rfl (by decide) rfl ?_
            refine ev_iinc (v := x4 + 1) (ls' := [(4, .int (x4 + 1)), (3, .int (x3 ||| (((1 : Int32)) <<< (x4 &&& 31)))), (0, .ref 69), (1, .ref 66), (2, .int x2), (5, .int x5)]) 4 dX2_usefulForStory_129 rfl rfl (by decide) rfl ?_
            refine ev_goto (tgt := 5) dX2_usefulForStory_132 (by decide) ?_
            refine ev_pick [2, 3, 4, 1, 0] (ls' := [(0, .ref 69), (1, .ref 66), (2, .int x2), (3, .int (x3 ||| (((1 : Int32)) <<< (x4 &&& 31)))), (4, .int (x4 + 1))]) rfl ?_
            exact ih.1 x2 (x3 ||| (((1 : Int32)) <<< (x4 &&& 31))) (x4 + 1) 0 _ q h
      · have h := if_f c3 h
        refine ev_aload_n 0 dX2_usefulForStory_37 rfl rfl ?_
        refine ev_getI dX2_usefulForStory_38 fl_X2_30 (by decide) rfl (by decide) (by decide) rfl ?_
        refine ev_iload 5 dX2_usefulForStory_41 rfl ?_
        obtain ⟨q7, e8, h⟩ := bd_c h
        refine ev_callSi (av := [.int (A 69 9), .int x5]) dX2_usefulForStory_43 (c_X9_hasBit n (A 69 9) x5  A q7 e8) mk_X9_hasBit lk_X2_123 is_X9_hasBit rfl (by decide) (by decide) (Nat.le_of_ble_eq_true rfl) rfl ?_
        refine ev_if_eq (tgt := 96) dX2_usefulForStory_46 (by decide) (fun c9 => ?_) (fun c9 => ?_)
        · have h := if_t c9 h
          refine ev_iinc (v := x5 + 1) (ls' := [(5, .int (x5 + 1)), (0, .ref 69), (1, .ref 66), (2, .int x2), (3, .int x3), (4, .int x4)]) 5 dX2_usefulForStory_96 rfl rfl (by decide) rfl ?_
          refine ev_goto (tgt := 28) dX2_usefulForStory_99 (by decide) ?_
          refine ev_pick [1, 2, 3, 4, 5, 0] (ls' := [(0, .ref 69), (1, .ref 66), (2, .int x2), (3, .int x3), (4, .int x4), (5, .int (x5 + 1))]) rfl ?_
          exact ih.2 x2 x3 x4 (x5 + 1) _ q h
        · have h := if_f c9 h
          refine ev_aload_n 0 dX2_usefulForStory_49 rfl rfl ?_
          refine ev_getR (r := 16) dX2_usefulForStory_50 fl_X2_42 (by decide) rfl (by decide) (by decide) rfl ?_
          refine ev_getR (r := 20) dX2_usefulForStory_53 fl_X2_126 (by decide) rfl (by decide) (by decide) rfl ?_
          refine ev_iload 4 dX2_usefulForStory_56 rfl ?_
          obtain ⟨c10, h⟩ := if_c h
          refine ev_ialdc 10 dX2_usefulForStory_58 (by decide) rfl rfl (by decide) c10 ?_
          refine ev_aload_n 1 dX2_usefulForStory_59 rfl rfl ?_
          refine ev_getR (r := 67) dX2_usefulForStory_60 fl_X2_87 (by decide) rfl (by decide) (by decide) rfl ?_
          refine ev_iload 5 dX2_usefulForStory_63 rfl ?_
          obtain ⟨c11, h⟩ := if_c h
          refine ev_ialdc 4 dX2_usefulForStory_65 (by decide) rfl rfl (by decide) c11 ?_
          refine ev_icmp_ne (tgt := 96) dX2_usefulForStory_66 (by decide) (fun c12 => ?_) (fun c12 => ?_)
          · have h := if_f c12 h
            refine ev_iinc (v := x5 + 1) (ls' := [(5, .int (x5 + 1)), (0, .ref 69), (1, .ref 66), (2, .int x2), (3, .int x3), (4, .int x4)]) 5 dX2_usefulForStory_96 rfl rfl (by decide) rfl ?_
            refine ev_goto (tgt := 28) dX2_usefulForStory_99 (by decide) ?_
            refine ev_pick [1, 2, 3, 4, 5, 0] (ls' := [(0, .ref 69), (1, .ref 66), (2, .int x2), (3, .int x3), (4, .int x4), (5, .int (x5 + 1))]) rfl ?_
            exact ih.2 x2 x3 x4 (x5 + 1) _ q h
          · have h := if_t c12 h
            refine ev_aload_n 0 dX2_usefulForStory_69 rfl rfl ?_
            refine ev_getR (r := 16) dX2_usefulForStory_70 fl_X2_42 (by decide) rfl (by decide) (by decide) rfl ?_
            refine ev_iload 4 dX2_usefulForStory_73 rfl ?_
            obtain ⟨q13, e14, h⟩ := bd_c h
            refine ev_callVi (av := [.int x4]) dX2_usefulForStory_75 (c_X1_cameOn_16 n x4  q7.2 q13 e14) mk_X1_cameOn lk_X2_127 iv_X1_cameOn (Or.inl ⟨1, _, by decide, rfl, by decide, rfl, rfl⟩) rfl (by decide) (by decide) (Nat.le_of_ble_eq_true rfl) rfl ?_
            refine ev_iload_n 2 dX2_usefulForStory_78 rfl rfl ?_
            refine ev_icmp_gt (tgt := 96) dX2_usefulForStory_79 (by decide) (fun c15 => ?_) (fun c15 => ?_)
            · have h := if_t c15 h
              refine ev_iinc (v := x5 + 1) (ls' := [(5, .int (x5 + 1)), (0, .ref 69), (1, .ref 66), (2, .int x2), (3, .int x3), (4, .int x4)]) 5 dX2_usefulForStory_96 rfl rfl (by decide) rfl ?_
              refine ev_goto (tgt := 28) dX2_usefulForStory_99 (by decide) ?_
              refine ev_pick [1, 2, 3, 4, 5, 0] (ls' := [(0, .ref 69), (1, .ref 66), (2, .int x2), (3, .int x3), (4, .int x4), (5, .int (x5 + 1))]) rfl ?_
              exact ih.2 x2 x3 x4 (x5 + 1) _ q h
            · have h := if_f c15 h
              refine ev_aload_n 0 dX2_usefulForStory_82 rfl rfl ?_
              refine ev_getR (r := 73) dX2_usefulForStory_83 fl_X2_21 (by decide) rfl (by decide) (by decide) rfl ?_
              refine ev_iload 4 dX2_usefulForStory_86 rfl ?_
              refine ev_dup2 dX2_usefulForStory_88 rfl rfl ?_
              refine ev_ialdc 10 dX2_usefulForStory_89 (by decide) rfl rfl (by decide) c10 ?_
              refine ev_iconst (v := 1) dX2_usefulForStory_90 (by decide) ?_
              refine ev_iload 5 dX2_usefulForStory_91 rfl ?_
              refine ev_ishl dX2_usefulForStory_93 ?_
              refine ev_ior dX2_usefulForStory_94 ?_
              refine ev_iastc 10 dX2_usefulForStory_95 (by decide) rfl rfl (by decide) c10 ?_
              refine ev_iinc (v := x5 + 1) (ls' := [(5, .int (x5 + 1)), (0, .ref 69), (1, .ref 66), (2, .int x2), (3, .int x3), (4, .int x4)]) 5 dX2_usefulForStory_96 rfl rfl (by decide) rfl ?_
              refine ev_goto (tgt := 28) dX2_usefulForStory_99 (by decide) ?_
              refine ev_pick [1, 2, 3, 4, 5, 0] (ls' := [(0, .ref 69), (1, .ref 66), (2, .int x2), (3, .int x3), (4, .int x4), (5, .int (x5 + 1))]) rfl ?_
              exact ih.2 x2 x3 x4 (x5 + 1) _ q h
def f_X2_usefulForStory_66 (n : Nat) (x2 : Int32) (A : Mem) : Option (Int32 × Mem) :=
  g_X2_usefulForStory_66_5 n  n 0 x2 ((0 : Int32)) ((0 : Int32)) 0 A
set_option maxRecDepth 100000 in
set_option maxHeartbeats 4000000 in
theorem c_X2_usefulForStory_66 (n : Nat) (x2 : Int32) (A : Mem) (q : Int32 × Mem) (h : f_X2_usefulForStory_66 n x2 A = some q) : Ct yX2_usefulForStory cX2_usefulForStory 6 (some .int) 1 [.ref 69, .ref 66, .int x2] A (RI q) := by
  unfold f_X2_usefulForStory_66 at h
  refine ct_of (by decide) (Nat.le_of_ble_eq_true rfl) ?_
  show Ev cX2_usefulForStory 6 RX2 (some .int) 1 none 0 [(0, .ref 69), (1, .ref 66), (2, .int x2)] [] A (RI q)
  refine ev_iconst (v := 0) dX2_usefulForStory_0 (by decide) ?_
  refine ev_istore_n (ls' := [(3, .int ((0 : Int32))), (0, .ref 69), (1, .ref 66), (2, .int x2)]) dX2_usefulForStory_1 rfl (by decide) rfl ?_
  refine ev_iconst (v := 0) dX2_usefulForStory_2 (by decide) ?_
  refine ev_istore (ls' := [(4, .int ((0 : Int32))), (3, .int ((0 : Int32))), (0, .ref 69), (1, .ref 66), (2, .int x2)]) dX2_usefulForStory_3 (by decide) rfl ?_
  refine ev_pick [2, 3, 4, 1, 0] (ls' := [(0, .ref 69), (1, .ref 66), (2, .int x2), (3, .int ((0 : Int32))), (4, .int ((0 : Int32)))]) rfl ?_
  exact (l_X2_usefulForStory_66_5 n   n).1 x2 ((0 : Int32)) ((0 : Int32)) 0 _ q h
def g_X2_addUp_70_5 (n : Nat) : Nat → Int32 → Int32 → Int32 → Mem → Option (Int32 × Mem)
  | 0, _, _, _, _ => none
  | m + 1, x2, x3, x4, A =>
    if (A 16 7) ≤ x4 then
      some (x3, A)
    else
      (f_X9_hasBit n x2 x4 A).bind fun q2 =>
      if q2.1 = 0 then
        g_X2_addUp_70_5 n  m x2 x3 (x4 + 1) q2.2
      else
        if ¬ x4 < 0 ∧ (x4).toNatClampNeg < 10 then
          g_X2_addUp_70_5 n  m x2 (x3 + (q2.2 70 (x4).toNatClampNeg)) (x4 + 1) q2.2
        else
          none
set_option maxRecDepth 100000 in
set_option maxHeartbeats 4000000 in
theorem l_X2_addUp_70_5 (n : Nat) : ∀ (m : Nat) (x2 : Int32) (x3 : Int32) (x4 : Int32) (A : Mem) (q : Int32 × Mem), g_X2_addUp_70_5 n  m x2 x3 x4 A = some q → Ev cX2_addUp 5 RX2 (some .int) 1 none 5 [(0, .ref 69), (1, .ref 70), (2, .int x2), (3, .int x3), (4, .int x4)] [] A (RI q) := by
  intro m
  induction m with
  | zero => intro x2 x3 x4 A q h; exact absurd h (by simp [g_X2_addUp_70_5])
  | succ m ih =>
    intro x2 x3 x4 A q h
    rw [g_X2_addUp_70_5] at h
    refine ev_iload 4 dX2_addUp_5 rfl ?_
    refine ev_aload_n 0 dX2_addUp_7 rfl rfl ?_
    refine ev_getR (r := 16) dX2_addUp_8 fl_X2_42 (by decide) rfl (by decide) (by decide) rfl ?_
    refine ev_getI dX2_addUp_11 fl_X2_62 (by decide) rfl (by decide) (by decide) rfl ?_
    refine ev_icmp_ge (tgt := 39) dX2_addUp_14 (by decide) (fun c1 => ?_) (fun c1 => ?_)
    · have h := if_t c1 h
      refine ev_iload_n 3 dX2_addUp_39 rfl rfl ?_
      cases h
      exact ev_iret dX2_addUp_40 rfl rfl ⟨rfl, rfl⟩
    · have h := if_f c1 h
      refine ev_iload_n 2 dX2_addUp_17 rfl rfl ?_
      refine ev_iload 4 dX2_addUp_18 rfl ?_
      obtain ⟨q2, e3, h⟩ := bd_c h
      refine ev_callSi (av := [.int x2, .int x4]) dX2_addUp_20 (c_X9_hasBit n x2 x4  A q2 e3) mk_X9_hasBit lk_X2_123 is_X9_hasBit rfl (by decide) (by decide) (Nat.le_of_ble_eq_true rfl) rfl ?_
      refine ev_if_eq (tgt := 33) dX2_addUp_23 (by decide) (fun c4 => ?_) (fun c4 => ?_)
      · have h := if_t c4 h
        refine ev_iinc (v := x4 + 1) (ls' := [(4, .int (x4 + 1)), (0, .ref 69), (1, .ref 70), (2, .int x2), (3, .int x3)]) 4 dX2_addUp_33 rfl rfl (by decide) rfl ?_
        refine ev_goto (tgt := 5) dX2_addUp_36 (by decide) ?_
        refine ev_pick [1, 2, 3, 4, 0] (ls' := [(0, .ref 69), (1, .ref 70), (2, .int x2), (3, .int x3), (4, .int (x4 + 1))]) rfl ?_
        exact ih x2 x3 (x4 + 1) _ q h
      · have h := if_f c4 h
        refine ev_iload_n 3 dX2_addUp_26 rfl rfl ?_
        refine ev_aload_n 1 dX2_addUp_27 rfl rfl ?_
        refine ev_iload 4 dX2_addUp_28 rfl ?_
        obtain ⟨c5, h⟩ := if_c h
        refine ev_ialdc 10 dX2_addUp_30 (by decide) rfl rfl (by decide) c5 ?_
        refine ev_iadd dX2_addUp_31 ?_
        refine ev_istore_n (ls' := [(3, .int (x3 + (q2.2 70 (x4).toNatClampNeg))), (0, .ref 69), (1, .ref 70), (2, .int x2), (4, .int x4)]) dX2_addUp_32 rfl (by decide) rfl ?_
        refine ev_iinc (v := x4 + 1) (ls' := [(4, .int (x4 + 1)), (3, .int (x3 + (q2.2 70 (x4).toNatClampNeg))), (0, .ref 69), (1, .ref 70), (2, .int x2)]) 4 dX2_addUp_33 rfl rfl (by decide) rfl ?_
        refine ev_goto (tgt := 5) dX2_addUp_36 (by decide) ?_
        refine ev_pick [2, 3, 4, 1, 0] (ls' := [(0, .ref 69), (1, .ref 70), (2, .int x2), (3, .int (x3 + (q2.2 70 (x4).toNatClampNeg))), (4, .int (x4 + 1))]) rfl ?_
        exact ih x2 (x3 + (q2.2 70 (x4).toNatClampNeg)) (x4 + 1) _ q h
def f_X2_addUp_70 (n : Nat) (x2 : Int32) (A : Mem) : Option (Int32 × Mem) :=
  g_X2_addUp_70_5 n  n x2 ((0 : Int32)) ((0 : Int32)) A
set_option maxRecDepth 100000 in
set_option maxHeartbeats 4000000 in
theorem c_X2_addUp_70 (n : Nat) (x2 : Int32) (A : Mem) (q : Int32 × Mem) (h : f_X2_addUp_70 n x2 A = some q) : Ct yX2_addUp cX2_addUp 5 (some .int) 1 [.ref 69, .ref 70, .int x2] A (RI q) := by
  unfold f_X2_addUp_70 at h
  refine ct_of (by decide) (Nat.le_of_ble_eq_true rfl) ?_
  show Ev cX2_addUp 5 RX2 (some .int) 1 none 0 [(0, .ref 69), (1, .ref 70), (2, .int x2)] [] A (RI q)
  refine ev_iconst (v := 0) dX2_addUp_0 (by decide) ?_
  refine ev_istore_n (ls' := [(3, .int ((0 : Int32))), (0, .ref 69), (1, .ref 70), (2, .int x2)]) dX2_addUp_1 rfl (by decide) rfl ?_
  refine ev_iconst (v := 0) dX2_addUp_2 (by decide) ?_
  refine ev_istore (ls' := [(4, .int ((0 : Int32))), (3, .int ((0 : Int32))), (0, .ref 69), (1, .ref 70), (2, .int x2)]) dX2_addUp_3 (by decide) rfl ?_
  refine ev_pick [2, 3, 4, 1, 0] (ls' := [(0, .ref 69), (1, .ref 70), (2, .int x2), (3, .int ((0 : Int32))), (4, .int ((0 : Int32)))]) rfl ?_
  exact (l_X2_addUp_70_5 n   n) x2 ((0 : Int32)) ((0 : Int32)) _ q h
def g_X2_gatherWith_23 (n : Nat) : Nat → Int32 → Int32 → Int32 → Mem → Option (Int32 × Mem)
  | 0, _, _, _, _ => none
  | m + 1, x1, x2, x3, A =>
    if (A 16 7) ≤ x3 then
      some (0, A)
    else
      (f_X9_hasBit n x1 x3 A).bind fun q3 =>
      if q3.1 = 0 then
        g_X2_gatherWith_23 n  m x1 x2 (x3 + 1) q3.2
      else
        if ¬ x3 < 0 ∧ (x3).toNatClampNeg < 10 then
          (f_X9_hasBit n (q3.2 73 (x3).toNatClampNeg) x2 q3.2).bind fun q7 =>
          if q7.1 = 0 then
            g_X2_gatherWith_23 n  m x1 x2 (x3 + 1) q7.2
          else
            if ¬ (q7.2 21 (x3).toNatClampNeg) < 0 ∧ (q7.2 21 (x3).toNatClampNeg).toNatClampNeg < 10 then
              g_X2_gatherWith_23 n  m x1 x2 (x3 + 1) (st2 q7.2 24 (q7.2 21 (x3).toNatClampNeg).toNatClampNeg ((q7.2 24 (q7.2 21 (x3).toNatClampNeg).toNatClampNeg) ||| (((1 : Int32)) <<< ((q7.2 17 (x3).toNatClampNeg) &&& 31))))
            else
              none
        else
          none
set_option maxRecDepth 100000 in
set_option maxHeartbeats 4000000 in
theorem l_X2_gatherWith_23 (n : Nat) : ∀ (m : Nat) (x1 : Int32) (x2 : Int32) (x3 : Int32) (A : Mem) (q : Int32 × Mem), g_X2_gatherWith_23 n  m x1 x2 x3 A = some q → Ev cX2_gatherWith 4 RX2 none 1 none 23 [(0, .ref 69), (1, .int x1), (2, .int x2), (3, .int x3)] [] A (RV q) := by
  intro m
  induction m with
  | zero => intro x1 x2 x3 A q h; exact absurd h (by simp [g_X2_gatherWith_23])
  | succ m ih =>
    intro x1 x2 x3 A q h
    rw [g_X2_gatherWith_23] at h
    refine ev_iload_n 3 dX2_gatherWith_23 rfl rfl ?_
    refine ev_aload_n 0 dX2_gatherWith_24 rfl rfl ?_
    refine ev_getR (r := 16) dX2_gatherWith_25 fl_X2_42 (by decide) rfl (by decide) (by decide) rfl ?_
    refine ev_getI dX2_gatherWith_28 fl_X2_62 (by decide) rfl (by decide) (by decide) rfl ?_
    refine ev_icmp_ge (tgt := 92) dX2_gatherWith_31 (by decide) (fun c2 => ?_) (fun c2 => ?_)
    · have h := if_t c2 h
      cases h
      exact ev_vret dX2_gatherWith_92 rfl ⟨rfl, rfl⟩
    · have h := if_f c2 h
      refine ev_iload_n 1 dX2_gatherWith_34 rfl rfl ?_
      refine ev_iload_n 3 dX2_gatherWith_35 rfl rfl ?_
      obtain ⟨q3, e4, h⟩ := bd_c h
      refine ev_callSi (av := [.int x1, .int x3]) dX2_gatherWith_36 (c_X9_hasBit n x1 x3  A q3 e4) mk_X9_hasBit lk_X2_123 is_X9_hasBit rfl (by decide) (by decide) (Nat.le_of_ble_eq_true rfl) rfl ?_
      refine ev_if_eq (tgt := 86) dX2_gatherWith_39 (by decide) (fun c5 => ?_) (fun c5 => ?_)
      · have h := if_t c5 h
        refine ev_iinc (v := x3 + 1) (ls' := [(3, .int (x3 + 1)), (0, .ref 69), (1, .int x1), (2, .int x2)]) 3 dX2_gatherWith_86 rfl rfl (by decide) rfl ?_
        refine ev_goto (tgt := 23) dX2_gatherWith_89 (by decide) ?_
        refine ev_pick [1, 2, 3, 0] (ls' := [(0, .ref 69), (1, .int x1), (2, .int x2), (3, .int (x3 + 1))]) rfl ?_
        exact ih x1 x2 (x3 + 1) _ q h
      · have h := if_f c5 h
        refine ev_aload_n 0 dX2_gatherWith_42 rfl rfl ?_
        refine ev_getR (r := 73) dX2_gatherWith_43 fl_X2_21 (by decide) rfl (by decide) (by decide) rfl ?_
        refine ev_iload_n 3 dX2_gatherWith_46 rfl rfl ?_
        obtain ⟨c6, h⟩ := if_c h
        refine ev_ialdc 10 dX2_gatherWith_47 (by decide) rfl rfl (by decide) c6 ?_
        refine ev_iload_n 2 dX2_gatherWith_48 rfl rfl ?_
        obtain ⟨q7, e8, h⟩ := bd_c h
        refine ev_callSi (av := [.int (q3.2 73 (x3).toNatClampNeg), .int x2]) dX2_gatherWith_49 (c_X9_hasBit n (q3.2 73 (x3).toNatClampNeg) x2  q3.2 q7 e8) mk_X9_hasBit lk_X2_123 is_X9_hasBit rfl (by decide) (by decide) (Nat.le_of_ble_eq_true rfl) rfl ?_
        refine ev_if_eq (tgt := 86) dX2_gatherWith_52 (by decide) (fun c9 => ?_) (fun c9 => ?_)
        · have h := if_t c9 h
          refine ev_iinc (v := x3 + 1) (ls' := [(3, .int (x3 + 1)), (0, .ref 69), (1, .int x1), (2, .int x2)]) 3 dX2_gatherWith_86 rfl rfl (by decide) rfl ?_
          refine ev_goto (tgt := 23) dX2_gatherWith_89 (by decide) ?_
          refine ev_pick [1, 2, 3, 0] (ls' := [(0, .ref 69), (1, .int x1), (2, .int x2), (3, .int (x3 + 1))]) rfl ?_
          exact ih x1 x2 (x3 + 1) _ q h
        · have h := if_f c9 h
          refine ev_aload_n 0 dX2_gatherWith_55 rfl rfl ?_
          refine ev_getR (r := 22) dX2_gatherWith_56 fl_X2_38 (by decide) rfl (by decide) (by decide) rfl ?_
          refine ev_getR (r := 24) dX2_gatherWith_59 fl_X2_122 (by decide) rfl (by decide) (by decide) rfl ?_
          refine ev_aload_n 0 dX2_gatherWith_62 rfl rfl ?_
          refine ev_getR (r := 16) dX2_gatherWith_63 fl_X2_42 (by decide) rfl (by decide) (by decide) rfl ?_
          refine ev_getR (r := 21) dX2_gatherWith_66 fl_X2_140 (by decide) rfl (by decide) (by decide) rfl ?_
          refine ev_iload_n 3 dX2_gatherWith_69 rfl rfl ?_
          refine ev_ialdc 10 dX2_gatherWith_70 (by decide) rfl rfl (by decide) c6 ?_
          refine ev_dup2 dX2_gatherWith_71 rfl rfl ?_
          obtain ⟨c10, h⟩ := if_c h
          refine ev_ialdc 10 dX2_gatherWith_72 (by decide) rfl rfl (by decide) c10 ?_
          refine ev_iconst (v := 1) dX2_gatherWith_73 (by decide) ?_
          refine ev_aload_n 0 dX2_gatherWith_74 rfl rfl ?_
          refine ev_getR (r := 16) dX2_gatherWith_75 fl_X2_42 (by decide) rfl (by decide) (by decide) rfl ?_
          refine ev_getR (r := 17) dX2_gatherWith_78 fl_X2_130 (by decide) rfl (by decide) (by decide) rfl ?_
          refine ev_iload_n 3 dX2_gatherWith_81 rfl rfl ?_
          refine ev_ialdc 10 dX2_gatherWith_82 (by decide) rfl rfl (by decide) c6 ?_
          refine ev_ishl dX2_gatherWith_83 ?_
          refine ev_ior dX2_gatherWith_84 ?_
          refine ev_iastc 10 dX2_gatherWith_85 (by decide) rfl rfl (by decide) c10 ?_
          refine ev_iinc (v := x3 + 1) (ls' := [(3, .int (x3 + 1)), (0, .ref 69), (1, .int x1), (2, .int x2)]) 3 dX2_gatherWith_86 rfl rfl (by decide) rfl ?_
          refine ev_goto (tgt := 23) dX2_gatherWith_89 (by decide) ?_
          refine ev_pick [1, 2, 3, 0] (ls' := [(0, .ref 69), (1, .int x1), (2, .int x2), (3, .int (x3 + 1))]) rfl ?_
          exact ih x1 x2 (x3 + 1) _ q h
def f_X2_gatherWith (n : Nat) (x1 : Int32) (x2 : Int32) (A : Mem) : Option (Int32 × Mem) :=
  if ¬ (x2 * ((10 : Int32))) < 0 ∧ ¬ ((0 : Int32)) < 0 ∧ ¬ ((10 : Int32)) < 0 ∧ (x2 * ((10 : Int32))).toNatClampNeg + ((10 : Int32)).toNatClampNeg ≤ 40 ∧ ((0 : Int32)).toNatClampNeg + ((10 : Int32)).toNatClampNeg ≤ 10 then
    g_X2_gatherWith_23 n  n x1 x2 ((0 : Int32)) (updR A 24 (va_cpy (A 75) (A 24) (x2 * ((10 : Int32))).toNatClampNeg ((0 : Int32)).toNatClampNeg ((10 : Int32)).toNatClampNeg))
  else
    none
set_option maxRecDepth 100000 in
set_option maxHeartbeats 4000000 in
theorem c_X2_gatherWith (n : Nat) (x1 : Int32) (x2 : Int32) (A : Mem) (q : Int32 × Mem) (h : f_X2_gatherWith n x1 x2 A = some q) : Ct yX2_gatherWith cX2_gatherWith 4 none 1 [.ref 69, .int x1, .int x2] A (RV q) := by
  unfold f_X2_gatherWith at h
  refine ct_of (by decide) (Nat.le_of_ble_eq_true rfl) ?_
  show Ev cX2_gatherWith 4 RX2 none 1 none 0 [(0, .ref 69), (1, .int x1), (2, .int x2)] [] A (RV q)
  refine ev_aload_n 0 dX2_gatherWith_0 rfl rfl ?_
  refine ev_getR (r := 75) dX2_gatherWith_1 fl_X2_27 (by decide) rfl (by decide) (by decide) rfl ?_
  refine ev_iload_n 2 dX2_gatherWith_4 rfl rfl ?_
  refine ev_bipush (v := 10) dX2_gatherWith_5 (by decide) ?_
  refine ev_imul dX2_gatherWith_7 ?_
  refine ev_aload_n 0 dX2_gatherWith_8 rfl rfl ?_
  refine ev_getR (r := 22) dX2_gatherWith_9 fl_X2_38 (by decide) rfl (by decide) (by decide) rfl ?_
  refine ev_getR (r := 24) dX2_gatherWith_12 fl_X2_122 (by decide) rfl (by decide) (by decide) rfl ?_
  refine ev_iconst (v := 0) dX2_gatherWith_15 (by decide) ?_
  refine ev_bipush (v := 10) dX2_gatherWith_16 (by decide) ?_
  obtain ⟨c1, h⟩ := if_c h
  refine ev_copy (k0 := 75) (k1 := 24) 40 10 dX2_gatherWith_18 lc_X2_108 cpw (by decide) (by decide) rfl rfl rfl rfl c1 (by decide) (Nat.le_of_ble_eq_true rfl) ?_
  refine ev_iconst (v := 0) dX2_gatherWith_21 (by decide) ?_
  refine ev_istore_n (ls' := [(3, .int ((0 : Int32))), (0, .ref 69), (1, .int x1), (2, .int x2)]) dX2_gatherWith_22 rfl (by decide) rfl ?_
  refine ev_pick [1, 2, 3, 0] (ls' := [(0, .ref 69), (1, .int x1), (2, .int x2), (3, .int ((0 : Int32)))]) rfl ?_
  exact (l_X2_gatherWith_23 n   n) x1 x2 ((0 : Int32)) _ q h
def g_X2_holdsWith_66_79 (n : Nat) (p2 : Nat) : Nat → Int32 → Int32 → Mem → Option (Int32 × Mem)
  | 0, _, _, _ => none
  | m + 1, x1, x4, A =>
    if (A 66 2) ≤ x4 then
      some ((1 : Int32), A)
    else
      (f_X9_hasBit n (A 69 9) x4 A).bind fun q8 =>
      if q8.1 = 0 then
        g_X2_holdsWith_66_79 n p2 m x1 (x4 + 1) q8.2
      else
        (f_X2_gatherWith n x1 x4 q8.2).bind fun q11 =>
        (f_X4_heaviest n p2 q11.2).bind fun q13 =>
        if ¬ x4 < 0 ∧ (x4).toNatClampNeg < 4 then
          if q13.1 = (q13.2 68 (x4).toNatClampNeg) then
            g_X2_holdsWith_66_79 n p2 m x1 (x4 + 1) q13.2
          else
            some ((0 : Int32), q13.2)
        else
          none
set_option maxRecDepth 100000 in
set_option maxHeartbeats 4000000 in
theorem l_X2_holdsWith_66_79 (n : Nat) (p2 : Nat) (hp2 : p2 < NT) (hk2 : kd p2 = 3) : ∀ (m : Nat) (x1 : Int32) (x4 : Int32) (A : Mem) (q : Int32 × Mem), g_X2_holdsWith_66_79 n p2 m x1 x4 A = some q → Ev cX2_holdsWith 5 RX2 (some .boolean) 4 none 79 [(0, .ref 69), (1, .int x1), (2, .ref p2), (3, .ref 66), (4, .int x4)] [] A (RI q) := by
  intro m
  induction m with
  | zero => intro x1 x4 A q h; exact absurd h (by simp [g_X2_holdsWith_66_79])
  | succ m ih =>
    intro x1 x4 A q h
    rw [g_X2_holdsWith_66_79] at h
    refine ev_iload 4 dX2_holdsWith_79 rfl ?_
    refine ev_aload_n 3 dX2_holdsWith_81 rfl rfl ?_
    refine ev_getI dX2_holdsWith_82 fl_X2_84 (by decide) rfl (by decide) (by decide) rfl ?_
    refine ev_icmp_ge (tgt := 133) dX2_holdsWith_85 (by decide) (fun c7 => ?_) (fun c7 => ?_)
    · have h := if_t c7 h
      refine ev_iconst (v := 1) dX2_holdsWith_133 (by decide) ?_
      cases h
      exact ev_iret dX2_holdsWith_134 rfl rfl ⟨rfl, rfl⟩
    · have h := if_f c7 h
      refine ev_aload_n 0 dX2_holdsWith_88 rfl rfl ?_
      refine ev_getI dX2_holdsWith_89 fl_X2_30 (by decide) rfl (by decide) (by decide) rfl ?_
      refine ev_iload 4 dX2_holdsWith_92 rfl ?_
      obtain ⟨q8, e9, h⟩ := bd_c h
      refine ev_callSi (av := [.int (A 69 9), .int x4]) dX2_holdsWith_94 (c_X9_hasBit n (A 69 9) x4  A q8 e9) mk_X9_hasBit lk_X2_123 is_X9_hasBit rfl (by decide) (by decide) (Nat.le_of_ble_eq_true rfl) rfl ?_
      refine ev_if_eq (tgt := 127) dX2_holdsWith_97 (by decide) (fun c10 => ?_) (fun c10 => ?_)
      · have h := if_t c10 h
        refine ev_iinc (v := x4 + 1) (ls' := [(4, .int (x4 + 1)), (0, .ref 69), (1, .int x1), (2, .ref p2), (3, .ref 66)]) 4 dX2_holdsWith_127 rfl rfl (by decide) rfl ?_
        refine ev_goto (tgt := 79) dX2_holdsWith_130 (by decide) ?_
        refine ev_pick [1, 2, 3, 4, 0] (ls' := [(0, .ref 69), (1, .int x1), (2, .ref p2), (3, .ref 66), (4, .int (x4 + 1))]) rfl ?_
        exact ih x1 (x4 + 1) _ q h
      · have h := if_f c10 h
        refine ev_aload_n 0 dX2_holdsWith_100 rfl rfl ?_
        refine ev_iload_n 1 dX2_holdsWith_101 rfl rfl ?_
        refine ev_iload 4 dX2_holdsWith_102 rfl ?_
        obtain ⟨q11, e12, h⟩ := bd_c h
        refine ev_callVv (av := [.int x1, .int x4]) dX2_holdsWith_104 (c_X2_gatherWith n x1 x4  q8.2 q11 e12) mk_X2_gatherWith lk_X2_133 iv_X2_gatherWith (Or.inl ⟨2, _, by decide, rfl, by decide, rfl, rfl⟩) rfl (by decide) (by decide) (Nat.le_of_ble_eq_true rfl) rfl ?_
        refine ev_aload_n 0 dX2_holdsWith_107 rfl rfl ?_
        refine ev_getR (r := 22) dX2_holdsWith_108 fl_X2_38 (by decide) rfl (by decide) (by decide) rfl ?_
        refine ev_aload_n 2 dX2_holdsWith_111 rfl rfl ?_
        obtain ⟨q13, e14, h⟩ := bd_c h
        refine ev_callVi (av := [.ref p2]) dX2_holdsWith_112 (c_X4_heaviest n p2 hp2 hk2 q11.2 q13 e14) mk_X4_heaviest lk_X2_136 iv_X4_heaviest (Or.inl ⟨4, _, by decide, rfl, by decide, rfl, rfl⟩) rfl (by decide) (by decide) (Nat.le_of_ble_eq_true rfl) rfl ?_
        refine ev_aload_n 3 dX2_holdsWith_115 rfl rfl ?_
        refine ev_getR (r := 68) dX2_holdsWith_116 fl_X2_101 (by decide) rfl (by decide) (by decide) rfl ?_
        refine ev_iload 4 dX2_holdsWith_119 rfl ?_
        obtain ⟨c15, h⟩ := if_c h
        refine ev_ialdc 4 dX2_holdsWith_121 (by decide) rfl rfl (by decide) c15 ?_
        refine ev_icmp_eq (tgt := 127) dX2_holdsWith_122 (by decide) (fun c16 => ?_) (fun c16 => ?_)
        · have h := if_t c16 h
          refine ev_iinc (v := x4 + 1) (ls' := [(4, .int (x4 + 1)), (0, .ref 69), (1, .int x1), (2, .ref p2), (3, .ref 66)]) 4 dX2_holdsWith_127 rfl rfl (by decide) rfl ?_
          refine ev_goto (tgt := 79) dX2_holdsWith_130 (by decide) ?_
          refine ev_pick [1, 2, 3, 4, 0] (ls' := [(0, .ref 69), (1, .int x1), (2, .ref p2), (3, .ref 66), (4, .int (x4 + 1))]) rfl ?_
          exact ih x1 (x4 + 1) _ q h
        · have h := if_f c16 h
          refine ev_iconst (v := 0) dX2_holdsWith_125 (by decide) ?_
          cases h
          exact ev_iret dX2_holdsWith_126 rfl rfl ⟨rfl, rfl⟩
def g_X2_holdsWith_66_21 (n : Nat) (p2 : Nat) : Nat → Int32 → Int32 → Mem → Option (Int32 × Mem)
  | 0, _, _, _ => none
  | m + 1, x1, x4, A =>
    if (A 16 7) ≤ x4 then
      g_X2_holdsWith_66_79 n p2 n x1 ((0 : Int32)) A
    else
      (f_X9_hasBit n x1 x4 A).bind fun q2 =>
      if q2.1 = 0 then
        g_X2_holdsWith_66_21 n p2 m x1 (x4 + 1) q2.2
      else
        if ¬ x4 < 0 ∧ (x4).toNatClampNeg < 10 then
          if ¬ (q2.2 17 (x4).toNatClampNeg) < 0 ∧ (q2.2 17 (x4).toNatClampNeg).toNatClampNeg < 6 then
            g_X2_holdsWith_66_21 n p2 m x1 (x4 + 1) (st2 q2.2 23 (q2.2 17 (x4).toNatClampNeg).toNatClampNeg ((q2.2 23 (q2.2 17 (x4).toNatClampNeg).toNatClampNeg) + (q2.2 72 (x4).toNatClampNeg)))
          else
            none
        else
          none
set_option maxRecDepth 100000 in
set_option maxHeartbeats 4000000 in
theorem l_X2_holdsWith_66_21 (n : Nat) (p2 : Nat) (hp2 : p2 < NT) (hk2 : kd p2 = 3) : ∀ (m : Nat) (x1 : Int32) (x4 : Int32) (A : Mem) (q : Int32 × Mem), g_X2_holdsWith_66_21 n p2 m x1 x4 A = some q → Ev cX2_holdsWith 5 RX2 (some .boolean) 4 none 21 [(0, .ref 69), (1, .int x1), (2, .ref p2), (3, .ref 66), (4, .int x4)] [] A (RI q) := by
  intro m
  induction m with
  | zero => intro x1 x4 A q h; exact absurd h (by simp [g_X2_holdsWith_66_21])
  | succ m ih =>
    intro x1 x4 A q h
    rw [g_X2_holdsWith_66_21] at h
    refine ev_iload 4 dX2_holdsWith_21 rfl ?_
    refine ev_aload_n 0 dX2_holdsWith_23 rfl rfl ?_
    refine ev_getR (r := 16) dX2_holdsWith_24 fl_X2_42 (by decide) rfl (by decide) (by decide) rfl ?_
    refine ev_getI dX2_holdsWith_27 fl_X2_62 (by decide) rfl (by decide) (by decide) rfl ?_
    refine ev_icmp_ge (tgt := 76) dX2_holdsWith_30 (by decide) (fun c1 => ?_) (fun c1 => ?_)
    · have h := if_t c1 h
      refine ev_iconst (v := 0) dX2_holdsWith_76 (by decide) ?_
      refine ev_istore (ls' := [(4, .int ((0 : Int32))), (0, .ref 69), (1, .int x1), (2, .ref p2), (3, .ref 66)]) dX2_holdsWith_77 (by decide) rfl ?_
      refine ev_pick [1, 2, 3, 4, 0] (ls' := [(0, .ref 69), (1, .int x1), (2, .ref p2), (3, .ref 66), (4, .int ((0 : Int32)))]) rfl ?_
      exact (l_X2_holdsWith_66_79 n p2 hp2 hk2 n) x1 ((0 : Int32)) _ q h
    · have h := if_f c1 h
      refine ev_iload_n 1 dX2_holdsWith_33 rfl rfl ?_
      refine ev_iload 4 dX2_holdsWith_34 rfl ?_
      obtain ⟨q2, e3, h⟩ := bd_c h
      refine ev_callSi (av := [.int x1, .int x4]) dX2_holdsWith_36 (c_X9_hasBit n x1 x4  A q2 e3) mk_X9_hasBit lk_X2_123 is_X9_hasBit rfl (by decide) (by decide) (Nat.le_of_ble_eq_true rfl) rfl ?_
      refine ev_if_eq (tgt := 70) dX2_holdsWith_39 (by decide) (fun c4 => ?_) (fun c4 => ?_)
      · have h := if_t c4 h
        refine ev_iinc (v := x4 + 1) (ls' := [(4, .int (x4 + 1)), (0, .ref 69), (1, .int x1), (2, .ref p2), (3, .ref 66)]) 4 dX2_holdsWith_70 rfl rfl (by decide) rfl ?_
        refine ev_goto (tgt := 21) dX2_holdsWith_73 (by decide) ?_
        refine ev_pick [1, 2, 3, 4, 0] (ls' := [(0, .ref 69), (1, .int x1), (2, .ref p2), (3, .ref 66), (4, .int (x4 + 1))]) rfl ?_
        exact ih x1 (x4 + 1) _ q h
      · have h := if_f c4 h
        refine ev_aload_n 0 dX2_holdsWith_42 rfl rfl ?_
        refine ev_getR (r := 22) dX2_holdsWith_43 fl_X2_38 (by decide) rfl (by decide) (by decide) rfl ?_
        refine ev_getR (r := 23) dX2_holdsWith_46 fl_X2_107 (by decide) rfl (by decide) (by decide) rfl ?_
        refine ev_aload_n 0 dX2_holdsWith_49 rfl rfl ?_
        refine ev_getR (r := 16) dX2_holdsWith_50 fl_X2_42 (by decide) rfl (by decide) (by decide) rfl ?_
        refine ev_getR (r := 17) dX2_holdsWith_53 fl_X2_130 (by decide) rfl (by decide) (by decide) rfl ?_
        refine ev_iload 4 dX2_holdsWith_56 rfl ?_
        obtain ⟨c5, h⟩ := if_c h
        refine ev_ialdc 10 dX2_holdsWith_58 (by decide) rfl rfl (by decide) c5 ?_
        refine ev_dup2 dX2_holdsWith_59 rfl rfl ?_
        obtain ⟨c6, h⟩ := if_c h
        refine ev_ialdc 6 dX2_holdsWith_60 (by decide) rfl rfl (by decide) c6 ?_
        refine ev_aload_n 0 dX2_holdsWith_61 rfl rfl ?_
        refine ev_getR (r := 72) dX2_holdsWith_62 fl_X2_18 (by decide) rfl (by decide) (by decide) rfl ?_
        refine ev_iload 4 dX2_holdsWith_65 rfl ?_
        refine ev_ialdc 10 dX2_holdsWith_67 (by decide) rfl rfl (by decide) c5 ?_
        refine ev_iadd dX2_holdsWith_68 ?_
        refine ev_iastc 6 dX2_holdsWith_69 (by decide) rfl rfl (by decide) c6 ?_
        refine ev_iinc (v := x4 + 1) (ls' := [(4, .int (x4 + 1)), (0, .ref 69), (1, .int x1), (2, .ref p2), (3, .ref 66)]) 4 dX2_holdsWith_70 rfl rfl (by decide) rfl ?_
        refine ev_goto (tgt := 21) dX2_holdsWith_73 (by decide) ?_
        refine ev_pick [1, 2, 3, 4, 0] (ls' := [(0, .ref 69), (1, .int x1), (2, .ref p2), (3, .ref 66), (4, .int (x4 + 1))]) rfl ?_
        exact ih x1 (x4 + 1) _ q h
def f_X2_holdsWith_66 (n : Nat) (x1 : Int32) (p2 : Nat) (A : Mem) : Option (Int32 × Mem) :=
  g_X2_holdsWith_66_21 n p2 n x1 ((0 : Int32)) (updR A 23 (va_cpy (A 74) (A 23) ((0 : Int32)).toNatClampNeg ((0 : Int32)).toNatClampNeg ((6 : Int32)).toNatClampNeg))
set_option maxRecDepth 100000 in
set_option maxHeartbeats 4000000 in
theorem c_X2_holdsWith_66 (n : Nat) (x1 : Int32) (p2 : Nat) (hp2 : p2 < NT) (hk2 : kd p2 = 3) (A : Mem) (q : Int32 × Mem) (h : f_X2_holdsWith_66 n x1 p2 A = some q) : Ct yX2_holdsWith cX2_holdsWith 5 (some .boolean) 4 [.ref 69, .int x1, .ref p2, .ref 66] A (RI q) := by
  unfold f_X2_holdsWith_66 at h
  refine ct_of (by decide) (Nat.le_of_ble_eq_true rfl) ?_
  show Ev cX2_holdsWith 5 RX2 (some .boolean) 4 none 0 [(0, .ref 69), (1, .int x1), (2, .ref p2), (3, .ref 66)] [] A (RI q)
  refine ev_aload_n 0 dX2_holdsWith_0 rfl rfl ?_
  refine ev_getR (r := 74) dX2_holdsWith_1 fl_X2_24 (by decide) rfl (by decide) (by decide) rfl ?_
  refine ev_iconst (v := 0) dX2_holdsWith_4 (by decide) ?_
  refine ev_aload_n 0 dX2_holdsWith_5 rfl rfl ?_
  refine ev_getR (r := 22) dX2_holdsWith_6 fl_X2_38 (by decide) rfl (by decide) (by decide) rfl ?_
  refine ev_getR (r := 23) dX2_holdsWith_9 fl_X2_107 (by decide) rfl (by decide) (by decide) rfl ?_
  refine ev_iconst (v := 0) dX2_holdsWith_12 (by decide) ?_
  refine ev_bipush (v := 6) dX2_holdsWith_13 (by decide) ?_
  refine ev_copy (k0 := 74) (k1 := 23) 6 6 dX2_holdsWith_15 lc_X2_108 cpw (by decide) (by decide) rfl rfl rfl rfl (by decide) (by decide) (Nat.le_of_ble_eq_true rfl) ?_
  refine ev_iconst (v := 0) dX2_holdsWith_18 (by decide) ?_
  refine ev_istore (ls' := [(4, .int ((0 : Int32))), (0, .ref 69), (1, .int x1), (2, .ref p2), (3, .ref 66)]) dX2_holdsWith_19 (by decide) rfl ?_
  refine ev_pick [1, 2, 3, 4, 0] (ls' := [(0, .ref 69), (1, .int x1), (2, .ref p2), (3, .ref 66), (4, .int ((0 : Int32)))]) rfl ?_
  exact (l_X2_holdsWith_66_21 n p2 hp2 hk2 n) x1 ((0 : Int32)) _ q h
def g_X2_leastRisk_66_43 (n : Nat) (p1 : Nat) : Nat → Int32 → Int32 → Int32 → Int32 → Mem → Option (Int32 × Mem)
  | 0, _, _, _, _, _ => none
  | m + 1, x4, x5, x6, x7, A =>
    if (((1 : Int32)) <<< ((A 16 7) &&& 31)) ≤ x7 then
      some (x5, A)
    else
      if (x7 &&& (x4 ^^^ ((-1 : Int32)))) = 0 then
        (f_X2_addUp_70 n x7 A).bind fun q12 =>
        if x6 ≤ q12.1 then
          g_X2_leastRisk_66_43 n p1 m x4 x5 x6 (x7 + 1) q12.2
        else
          (f_X2_holdsWith_66 n x7 p1 q12.2).bind fun q15 =>
          if q15.1 = 0 then
            g_X2_leastRisk_66_43 n p1 m x4 x5 x6 (x7 + 1) q15.2
          else
            g_X2_leastRisk_66_43 n p1 m x4 x7 q12.1 (x7 + 1) q15.2
      else
        if x6 ≤ x6 then
          g_X2_leastRisk_66_43 n p1 m x4 x5 x6 (x7 + 1) A
        else
          (f_X2_holdsWith_66 n x7 p1 A).bind fun q19 =>
          if q19.1 = 0 then
            g_X2_leastRisk_66_43 n p1 m x4 x5 x6 (x7 + 1) q19.2
          else
            g_X2_leastRisk_66_43 n p1 m x4 x7 x6 (x7 + 1) q19.2
set_option maxRecDepth 100000 in
set_option maxHeartbeats 4000000 in
theorem l_X2_leastRisk_66_43 (n : Nat) (p1 : Nat) (hp1 : p1 < NT) (hk1 : kd p1 = 3) : ∀ (m : Nat) (x4 : Int32) (x5 : Int32) (x6 : Int32) (x7 : Int32) (A : Mem) (q : Int32 × Mem), g_X2_leastRisk_66_43 n p1 m x4 x5 x6 x7 A = some q → Ev cX2_leastRisk 9 RX2 (some .int) 5 none 43 [(0, .ref 69), (1, .ref p1), (2, .ref 66), (4, .int x4), (5, .int x5), (6, .int x6), (7, .int x7)] [] A (RI q) := by
  intro m
  induction m with
  | zero => intro x4 x5 x6 x7 A q h; exact absurd h (by simp [g_X2_leastRisk_66_43])
  | succ m ih =>
    intro x4 x5 x6 x7 A q h
    rw [g_X2_leastRisk_66_43] at h
    refine ev_iload 6 dX2_leastRisk_43 rfl ?_
    refine ev_iconst (v := 1) dX2_leastRisk_45 (by decide) ?_
    refine ev_aload_n 0 dX2_leastRisk_46 rfl rfl ?_
    refine ev_getR (r := 16) dX2_leastRisk_47 fl_X2_42 (by decide) rfl (by decide) (by decide) rfl ?_
    refine ev_getI dX2_leastRisk_50 fl_X2_62 (by decide) rfl (by decide) (by decide) rfl ?_
    refine ev_ishl dX2_leastRisk_53 ?_
    refine ev_icmp_ge (tgt := 116) dX2_leastRisk_54 (by decide) (fun c10 => ?_) (fun c10 => ?_)
    · have h := if_t c10 h
      refine ev_iload 4 dX2_leastRisk_116 rfl ?_
      cases h
      exact ev_iret dX2_leastRisk_118 rfl rfl ⟨rfl, rfl⟩
    · have h := if_f c10 h
      refine ev_iload 6 dX2_leastRisk_57 rfl ?_
      refine ev_iload 3 dX2_leastRisk_59 rfl ?_
      refine ev_iconst (v := -1) dX2_leastRisk_61 (by decide) ?_
      refine ev_ixor dX2_leastRisk_62 ?_
      refine ev_iand dX2_leastRisk_63 ?_
      refine ev_if_eq (tgt := 72) dX2_leastRisk_64 (by decide) (fun c11 => ?_) (fun c11 => ?_)
      · have h := if_t c11 h
        refine ev_aload_n 0 dX2_leastRisk_72 rfl rfl ?_
        refine ev_aload_n 0 dX2_leastRisk_73 rfl rfl ?_
        refine ev_getR (r := 70) dX2_leastRisk_74 fl_X2_9 (by decide) rfl (by decide) (by decide) rfl ?_
        refine ev_iload 6 dX2_leastRisk_77 rfl ?_
        obtain ⟨q12, e13, h⟩ := bd_c h
        refine ev_callVi (av := [.ref 70, .int x7]) dX2_leastRisk_79 (c_X2_addUp_70 n x7  A q12 e13) mk_X2_addUp lk_X2_67 iv_X2_addUp (Or.inl ⟨2, _, by decide, rfl, by decide, rfl, rfl⟩) rfl (by decide) (by decide) (Nat.le_of_ble_eq_true rfl) rfl ?_
        refine ev_istore (ls' := [(8, .int q12.1), (0, .ref 69), (1, .ref p1), (2, .ref 66), (4, .int x4), (5, .int x5), (6, .int x6), (7, .int x7)]) dX2_leastRisk_82 (by decide) rfl ?_
        refine ev_iload 0 dX2_leastRisk_84 rfl ?_
        refine ev_iload 6 dX2_leastRisk_86 rfl ?_
        refine ev_icmp_ge (tgt := 110) dX2_leastRisk_88 (by decide) (fun c14 => ?_) (fun c14 => ?_)
        · have h := if_t c14 h
          refine ev_iinc (v := x7 + 1) (ls' := [(7, .int (x7 + 1)), (8, .int q12.1), (0, .ref 69), (1, .ref p1), (2, .ref 66), (4, .int x4), (5, .int x5), (6, .int x6)]) 7 dX2_leastRisk_110 rfl rfl (by decide) rfl ?_
          refine ev_goto (tgt := 43) dX2_leastRisk_113 (by decide) ?_
          refine ev_pick [2, 3, 4, 5, 6, 7, 0] (ls' := [(0, .ref 69), (1, .ref p1), (2, .ref 66), (4, .int x4), (5, .int x5), (6, .int x6), (7, .int (x7 + 1))]) rfl ?_
          exact ih x4 x5 x6 (x7 + 1) _ q h
        · have h := if_f c14 h
          refine ev_aload_n 1 dX2_leastRisk_91 rfl rfl ?_
          refine ev_iload 7 dX2_leastRisk_92 rfl ?_
          refine ev_aload_n 2 dX2_leastRisk_94 rfl rfl ?_
          refine ev_aload_n 3 dX2_leastRisk_95 rfl rfl ?_
          obtain ⟨q15, e16, h⟩ := bd_c h
          refine ev_callVi (av := [.int x7, .ref p1, .ref 66]) dX2_leastRisk_96 (c_X2_holdsWith_66 n x7 p1 hp1 hk1 q12.2 q15 e16) mk_X2_holdsWith lk_X2_71 iv_X2_holdsWith (Or.inl ⟨2, _, by decide, rfl, by decide, rfl, rfl⟩) rfl (by decide) (by decide) (Nat.le_of_ble_eq_true rfl) rfl ?_
          refine ev_if_eq (tgt := 110) dX2_leastRisk_99 (by decide) (fun c17 => ?_) (fun c17 => ?_)
          · have h := if_t c17 h
            refine ev_iinc (v := x7 + 1) (ls' := [(7, .int (x7 + 1)), (8, .int q12.1), (0, .ref 69), (1, .ref p1), (2, .ref 66), (4, .int x4), (5, .int x5), (6, .int x6)]) 7 dX2_leastRisk_110 rfl rfl (by decide) rfl ?_
            refine ev_goto (tgt := 43) dX2_leastRisk_113 (by decide) ?_
            refine ev_pick [2, 3, 4, 5, 6, 7, 0] (ls' := [(0, .ref 69), (1, .ref p1), (2, .ref 66), (4, .int x4), (5, .int x5), (6, .int x6), (7, .int (x7 + 1))]) rfl ?_
            exact ih x4 x5 x6 (x7 + 1) _ q h
          · have h := if_f c17 h
            refine ev_iload 7 dX2_leastRisk_102 rfl ?_
            refine ev_istore (ls' := [(5, .int x7), (8, .int q12.1), (0, .ref 69), (1, .ref p1), (2, .ref 66), (4, .int x4), (6, .int x6), (7, .int x7)]) dX2_leastRisk_104 (by decide) rfl ?_
            refine ev_iload 1 dX2_leastRisk_106 rfl ?_
            refine ev_istore (ls' := [(6, .int q12.1), (5, .int x7), (8, .int q12.1), (0, .ref 69), (1, .ref p1), (2, .ref 66), (4, .int x4), (7, .int x7)]) dX2_leastRisk_108 (by decide) rfl ?_
            refine ev_iinc (v := x7 + 1) (ls' := [(7, .int (x7 + 1)), (6, .int q12.1), (5, .int x7), (8, .int q12.1), (0, .ref 69), (1, .ref p1), (2, .ref 66), (4, .int x4)]) 7 dX2_leastRisk_110 rfl rfl (by decide) rfl ?_
            refine ev_goto (tgt := 43) dX2_leastRisk_113 (by decide) ?_
            refine ev_pick [4, 5, 6, 7, 2, 1, 0] (ls' := [(0, .ref 69), (1, .ref p1), (2, .ref 66), (4, .int x4), (5, .int x7), (6, .int q12.1), (7, .int (x7 + 1))]) rfl ?_
            exact ih x4 x7 q12.1 (x7 + 1) _ q h
      · have h := if_f c11 h
        refine ev_iload 5 dX2_leastRisk_67 rfl ?_
        refine ev_goto (tgt := 82) dX2_leastRisk_69 (by decide) ?_
        refine ev_istore (ls' := [(8, .int x6), (0, .ref 69), (1, .ref p1), (2, .ref 66), (4, .int x4), (5, .int x5), (6, .int x6), (7, .int x7)]) dX2_leastRisk_82 (by decide) rfl ?_
        refine ev_iload 0 dX2_leastRisk_84 rfl ?_
        refine ev_iload 6 dX2_leastRisk_86 rfl ?_
        refine ev_icmp_ge (tgt := 110) dX2_leastRisk_88 (by decide) (fun c18 => ?_) (fun c18 => ?_)
        · have h := if_t c18 h
          refine ev_iinc (v := x7 + 1) (ls' := [(7, .int (x7 + 1)), (8, .int x6), (0, .ref 69), (1, .ref p1), (2, .ref 66), (4, .int x4), (5, .int x5), (6, .int x6)]) 7 dX2_leastRisk_110 rfl rfl (by decide) rfl ?_
          refine ev_goto (tgt := 43) dX2_leastRisk_113 (by decide) ?_
          refine ev_pick [2, 3, 4, 5, 6, 7, 0] (ls' := [(0, .ref 69), (1, .ref p1), (2, .ref 66), (4, .int x4), (5, .int x5), (6, .int x6), (7, .int (x7 + 1))]) rfl ?_
          exact ih x4 x5 x6 (x7 + 1) _ q h
        · have h := if_f c18 h
          refine ev_aload_n 1 dX2_leastRisk_91 rfl rfl ?_
          refine ev_iload 7 dX2_leastRisk_92 rfl ?_
          refine ev_aload_n 2 dX2_leastRisk_94 rfl rfl ?_
          refine ev_aload_n 3 dX2_leastRisk_95 rfl rfl ?_
          obtain ⟨q19, e20, h⟩ := bd_c h
          refine ev_callVi (av := [.int x7, .ref p1, .ref 66]) dX2_leastRisk_96 (c_X2_holdsWith_66 n x7 p1 hp1 hk1 A q19 e20) mk_X2_holdsWith lk_X2_71 iv_X2_holdsWith (Or.inl ⟨2, _, by decide, rfl, by decide, rfl, rfl⟩) rfl (by decide) (by decide) (Nat.le_of_ble_eq_true rfl) rfl ?_
          refine ev_if_eq (tgt := 110) dX2_leastRisk_99 (by decide) (fun c21 => ?_) (fun c21 => ?_)
          · have h := if_t c21 h
            refine ev_iinc (v := x7 + 1) (ls' := [(7, .int (x7 + 1)), (8, .int x6), (0, .ref 69), (1, .ref p1), (2, .ref 66), (4, .int x4), (5, .int x5), (6, .int x6)]) 7 dX2_leastRisk_110 rfl rfl (by decide) rfl ?_
            refine ev_goto (tgt := 43) dX2_leastRisk_113 (by decide) ?_
            refine ev_pick [2, 3, 4, 5, 6, 7, 0] (ls' := [(0, .ref 69), (1, .ref p1), (2, .ref 66), (4, .int x4), (5, .int x5), (6, .int x6), (7, .int (x7 + 1))]) rfl ?_
            exact ih x4 x5 x6 (x7 + 1) _ q h
          · have h := if_f c21 h
            refine ev_iload 7 dX2_leastRisk_102 rfl ?_
            refine ev_istore (ls' := [(5, .int x7), (8, .int x6), (0, .ref 69), (1, .ref p1), (2, .ref 66), (4, .int x4), (6, .int x6), (7, .int x7)]) dX2_leastRisk_104 (by decide) rfl ?_
            refine ev_iload 1 dX2_leastRisk_106 rfl ?_
            refine ev_istore (ls' := [(6, .int x6), (5, .int x7), (8, .int x6), (0, .ref 69), (1, .ref p1), (2, .ref 66), (4, .int x4), (7, .int x7)]) dX2_leastRisk_108 (by decide) rfl ?_
            refine ev_iinc (v := x7 + 1) (ls' := [(7, .int (x7 + 1)), (6, .int x6), (5, .int x7), (8, .int x6), (0, .ref 69), (1, .ref p1), (2, .ref 66), (4, .int x4)]) 7 dX2_leastRisk_110 rfl rfl (by decide) rfl ?_
            refine ev_goto (tgt := 43) dX2_leastRisk_113 (by decide) ?_
            refine ev_pick [4, 5, 6, 7, 2, 1, 0] (ls' := [(0, .ref 69), (1, .ref p1), (2, .ref 66), (4, .int x4), (5, .int x7), (6, .int x6), (7, .int (x7 + 1))]) rfl ?_
            exact ih x4 x7 x6 (x7 + 1) _ q h
def f_X2_leastRisk_66 (n : Nat) (p1 : Nat) (x3 : Int32) (A : Mem) : Option (Int32 × Mem) :=
  (f_X2_opensLines_66 n p1 x3 A).bind fun q1 =>
  if q1.1 = 0 then
    some ((-1 : Int32), q1.2)
  else
    (f_X2_sumLetters n p1 x3 q1.2).bind fun q4 =>
    (f_X2_gatherLines_66 n x3 q4.2).bind fun q6 =>
    (f_X2_usefulForStory_66 n x3 q6.2).bind fun q8 =>
    g_X2_leastRisk_66_43 n p1 n q8.1 ((-1 : Int32)) ((991 : Int32)) ((0 : Int32)) q8.2
set_option maxRecDepth 100000 in
set_option maxHeartbeats 4000000 in
theorem c_X2_leastRisk_66 (n : Nat) (p1 : Nat) (x3 : Int32) (hp1 : p1 < NT) (hk1 : kd p1 = 3) (A : Mem) (q : Int32 × Mem) (h : f_X2_leastRisk_66 n p1 x3 A = some q) : Ct yX2_leastRisk cX2_leastRisk 9 (some .int) 5 [.ref 69, .ref p1, .ref 66, .int x3] A (RI q) := by
  unfold f_X2_leastRisk_66 at h
  refine ct_of (by decide) (Nat.le_of_ble_eq_true rfl) ?_
  show Ev cX2_leastRisk 9 RX2 (some .int) 5 none 0 [(0, .ref 69), (1, .ref p1), (2, .ref 66), (3, .int x3)] [] A (RI q)
  refine ev_aload_n 0 dX2_leastRisk_0 rfl rfl ?_
  refine ev_aload_n 1 dX2_leastRisk_1 rfl rfl ?_
  refine ev_aload_n 2 dX2_leastRisk_2 rfl rfl ?_
  refine ev_iload_n 3 dX2_leastRisk_3 rfl rfl ?_
  obtain ⟨q1, e2, h⟩ := bd_c h
  refine ev_callVi (av := [.ref p1, .ref 66, .int x3]) dX2_leastRisk_4 (c_X2_opensLines_66 n p1 x3 hp1 hk1 A q1 e2) mk_X2_opensLines lk_X2_46 iv_X2_opensLines (Or.inl ⟨2, _, by decide, rfl, by decide, rfl, rfl⟩) rfl (by decide) (by decide) (Nat.le_of_ble_eq_true rfl) rfl ?_
  refine ev_if_ne (tgt := 12) dX2_leastRisk_7 (by decide) (fun c3 => ?_) (fun c3 => ?_)
  · have h := if_f c3 h
    refine ev_aload_n 0 dX2_leastRisk_12 rfl rfl ?_
    refine ev_aload_n 1 dX2_leastRisk_13 rfl rfl ?_
    refine ev_iload_n 3 dX2_leastRisk_14 rfl rfl ?_
    obtain ⟨q4, e5, h⟩ := bd_c h
    refine ev_callVv (av := [.ref p1, .int x3]) dX2_leastRisk_15 (c_X2_sumLetters n p1 x3 hp1 hk1 q1.2 q4 e5) mk_X2_sumLetters lk_X2_50 iv_X2_sumLetters (Or.inl ⟨2, _, by decide, rfl, by decide, rfl, rfl⟩) rfl (by decide) (by decide) (Nat.le_of_ble_eq_true rfl) rfl ?_
    refine ev_aload_n 0 dX2_leastRisk_18 rfl rfl ?_
    refine ev_aload_n 2 dX2_leastRisk_19 rfl rfl ?_
    refine ev_iload_n 3 dX2_leastRisk_20 rfl rfl ?_
    obtain ⟨q6, e7, h⟩ := bd_c h
    refine ev_callVv (av := [.ref 66, .int x3]) dX2_leastRisk_21 (c_X2_gatherLines_66 n x3  q4.2 q6 e7) mk_X2_gatherLines lk_X2_54 iv_X2_gatherLines (Or.inl ⟨2, _, by decide, rfl, by decide, rfl, rfl⟩) rfl (by decide) (by decide) (Nat.le_of_ble_eq_true rfl) rfl ?_
    refine ev_aload_n 0 dX2_leastRisk_24 rfl rfl ?_
    refine ev_aload_n 2 dX2_leastRisk_25 rfl rfl ?_
    refine ev_iload_n 3 dX2_leastRisk_26 rfl rfl ?_
    obtain ⟨q8, e9, h⟩ := bd_c h
    refine ev_callVi (av := [.ref 66, .int x3]) dX2_leastRisk_27 (c_X2_usefulForStory_66 n x3  q6.2 q8 e9) mk_X2_usefulForStory lk_X2_58 iv_X2_usefulForStory (Or.inl ⟨2, _, by decide, rfl, by decide, rfl, rfl⟩) rfl (by decide) (by decide) (Nat.le_of_ble_eq_true rfl) rfl ?_
    refine ev_istore (ls' := [(4, .int q8.1), (0, .ref 69), (1, .ref p1), (2, .ref 66), (3, .int x3)]) dX2_leastRisk_30 (by decide) rfl ?_
    refine ev_iconst (v := -1) dX2_leastRisk_32 (by decide) ?_
    refine ev_istore (ls' := [(5, .int ((-1 : Int32))), (4, .int q8.1), (0, .ref 69), (1, .ref p1), (2, .ref 66), (3, .int x3)]) dX2_leastRisk_33 (by decide) rfl ?_
    refine ev_sipush (v := 991) dX2_leastRisk_35 (by decide) ?_
    refine ev_istore (ls' := [(6, .int ((991 : Int32))), (5, .int ((-1 : Int32))), (4, .int q8.1), (0, .ref 69), (1, .ref p1), (2, .ref 66), (3, .int x3)]) dX2_leastRisk_38 (by decide) rfl ?_
    refine ev_iconst (v := 0) dX2_leastRisk_40 (by decide) ?_
    refine ev_istore (ls' := [(7, .int ((0 : Int32))), (6, .int ((991 : Int32))), (5, .int ((-1 : Int32))), (4, .int q8.1), (0, .ref 69), (1, .ref p1), (2, .ref 66), (3, .int x3)]) dX2_leastRisk_41 (by decide) rfl ?_
    refine ev_pick [4, 5, 6, 3, 2, 1, 0] (ls' := [(0, .ref 69), (1, .ref p1), (2, .ref 66), (4, .int q8.1), (5, .int ((-1 : Int32))), (6, .int ((991 : Int32))), (7, .int ((0 : Int32)))]) rfl ?_
    exact (l_X2_leastRisk_66_43 n p1 hp1 hk1 n) q8.1 ((-1 : Int32)) ((991 : Int32)) ((0 : Int32)) _ q h
  · have h := if_t c3 h
    refine ev_iconst (v := -1) dX2_leastRisk_10 (by decide) ?_
    cases h
    exact ev_iret dX2_leastRisk_11 rfl rfl ⟨rfl, rfl⟩
