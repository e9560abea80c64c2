def f_X7_isLetter (n : Nat) (x0 : Int32) (A : Mem) : Option (Int32 × Mem) :=
  if x0 < ((97 : Int32)) then
    some ((0 : Int32), A)
  else
    if ((122 : Int32)) < x0 then
      some ((0 : Int32), A)
    else
      some ((1 : Int32), A)
set_option maxRecDepth 100000 in
set_option maxHeartbeats 4000000 in
theorem c_X7_isLetter (n : Nat) (x0 : Int32) (A : Mem) (q : Int32 × Mem) (h : f_X7_isLetter n x0 A = some q) : Ct yX7_isLetter cX7_isLetter 1 (some .boolean) 0 [.int x0] A (RI q) := by
  unfold f_X7_isLetter at h
  refine ct_of (by decide) (Nat.le_of_ble_eq_true rfl) ?_
  show Ev cX7_isLetter 1 RX7 (some .boolean) 0 none 0 [(0, .int x0)] [] A (RI q)
  refine ev_iload_n 0 dX7_isLetter_0 rfl rfl ?_
  refine ev_bipush (v := 97) dX7_isLetter_1 (by decide) ?_
  refine ev_icmp_lt (tgt := 16) dX7_isLetter_3 (by decide) (fun c1 => ?_) (fun c1 => ?_)
  · have h := if_t c1 h
    refine ev_iconst (v := 0) dX7_isLetter_16 (by decide) ?_
    cases h
    exact ev_iret dX7_isLetter_17 rfl rfl ⟨rfl, rfl⟩
  · have h := if_f c1 h
    refine ev_iload_n 0 dX7_isLetter_6 rfl rfl ?_
    refine ev_bipush (v := 122) dX7_isLetter_7 (by decide) ?_
    refine ev_icmp_gt (tgt := 16) dX7_isLetter_9 (by decide) (fun c2 => ?_) (fun c2 => ?_)
    · have h := if_t c2 h
      refine ev_iconst (v := 0) dX7_isLetter_16 (by decide) ?_
      cases h
      exact ev_iret dX7_isLetter_17 rfl rfl ⟨rfl, rfl⟩
    · have h := if_f c2 h
      refine ev_iconst (v := 1) dX7_isLetter_12 (by decide) ?_
      refine ev_goto (tgt := 17) dX7_isLetter_13 (by decide) ?_
      cases h
      exact ev_iret dX7_isLetter_17 rfl rfl ⟨rfl, rfl⟩
def f_X7_isDigit (n : Nat) (x0 : Int32) (A : Mem) : Option (Int32 × Mem) :=
  if x0 < ((48 : Int32)) then
    some ((0 : Int32), A)
  else
    if ((57 : Int32)) < x0 then
      some ((0 : Int32), A)
    else
      some ((1 : Int32), A)
set_option maxRecDepth 100000 in
set_option maxHeartbeats 4000000 in
theorem c_X7_isDigit (n : Nat) (x0 : Int32) (A : Mem) (q : Int32 × Mem) (h : f_X7_isDigit n x0 A = some q) : Ct yX7_isDigit cX7_isDigit 1 (some .boolean) 0 [.int x0] A (RI q) := by
  unfold f_X7_isDigit at h
  refine ct_of (by decide) (Nat.le_of_ble_eq_true rfl) ?_
  show Ev cX7_isDigit 1 RX7 (some .boolean) 0 none 0 [(0, .int x0)] [] A (RI q)
  refine ev_iload_n 0 dX7_isDigit_0 rfl rfl ?_
  refine ev_bipush (v := 48) dX7_isDigit_1 (by decide) ?_
  refine ev_icmp_lt (tgt := 16) dX7_isDigit_3 (by decide) (fun c1 => ?_) (fun c1 => ?_)
  · have h := if_t c1 h
    refine ev_iconst (v := 0) dX7_isDigit_16 (by decide) ?_
    cases h
    exact ev_iret dX7_isDigit_17 rfl rfl ⟨rfl, rfl⟩
  · have h := if_f c1 h
    refine ev_iload_n 0 dX7_isDigit_6 rfl rfl ?_
    refine ev_bipush (v := 57) dX7_isDigit_7 (by decide) ?_
    refine ev_icmp_gt (tgt := 16) dX7_isDigit_9 (by decide) (fun c2 => ?_) (fun c2 => ?_)
    · have h := if_t c2 h
      refine ev_iconst (v := 0) dX7_isDigit_16 (by decide) ?_
      cases h
      exact ev_iret dX7_isDigit_17 rfl rfl ⟨rfl, rfl⟩
    · have h := if_f c2 h
      refine ev_iconst (v := 1) dX7_isDigit_12 (by decide) ?_
      refine ev_goto (tgt := 17) dX7_isDigit_13 (by decide) ?_
      cases h
      exact ev_iret dX7_isDigit_17 rfl rfl ⟨rfl, rfl⟩
def g_X7_nextToken_102 (n : Nat) : Nat → Int32 → Int32 → Mem → Option (Int32 × Mem)
  | 0, _, _, _ => none
  | m + 1, x1, x2, A =>
    if (A 61 4) ≤ (A 61 7) then
      some (0, A)
    else
      if x1 = 0 then
        if x2 = 0 then
          some (0, A)
        else
          if ¬ (A 61 7) < 0 ∧ (A 61 7).toNatClampNeg < 160 then
            (f_X7_isDigit n (A 62 (A 61 7).toNatClampNeg) A).bind fun q22 =>
            if q22.1 = 0 then
              some (0, q22.2)
            else
              g_X7_nextToken_102 n  m x1 x2 (st2 q22.2 61 7 ((q22.2 61 7) + ((1 : Int32))))
          else
            none
      else
        if ¬ (A 61 7) < 0 ∧ (A 61 7).toNatClampNeg < 160 then
          (f_X7_isLetter n (A 62 (A 61 7).toNatClampNeg) A).bind fun q26 =>
          if q26.1 = 0 then
            if x2 = 0 then
              some (0, q26.2)
            else
              if ¬ (q26.2 61 7) < 0 ∧ (q26.2 61 7).toNatClampNeg < 160 then
                (f_X7_isDigit n (q26.2 62 (q26.2 61 7).toNatClampNeg) q26.2).bind fun q31 =>
                if q31.1 = 0 then
                  some (0, q31.2)
                else
                  g_X7_nextToken_102 n  m x1 x2 (st2 q31.2 61 7 ((q31.2 61 7) + ((1 : Int32))))
              else
                none
          else
            g_X7_nextToken_102 n  m x1 x2 (st2 q26.2 61 7 ((q26.2 61 7) + ((1 : Int32))))
        else
          none
set_option maxRecDepth 100000 in
set_option maxHeartbeats 4000000 in
theorem l_X7_nextToken_102 (n : Nat) : ∀ (m : Nat) (x1 : Int32) (x2 : Int32) (A : Mem) (q : Int32 × Mem), g_X7_nextToken_102 n  m x1 x2 A = some q → Ev cX7_nextToken 3 RX7 none 1 none 102 [(0, .ref 61), (1, .int x1), (2, .int x2)] [] A (RV q) := by
  intro m
  induction m with
  | zero => intro x1 x2 A q h; exact absurd h (by simp [g_X7_nextToken_102])
  | succ m ih =>
    intro x1 x2 A q h
    rw [g_X7_nextToken_102] at h
    refine ev_aload_n 0 dX7_nextToken_102 rfl rfl ?_
    refine ev_getI dX7_nextToken_103 fl_X7_34 (by decide) rfl (by decide) (by decide) rfl ?_
    refine ev_aload_n 0 dX7_nextToken_106 rfl rfl ?_
    refine ev_getI dX7_nextToken_107 fl_X7_24 (by decide) rfl (by decide) (by decide) rfl ?_
    refine ev_icmp_ge (tgt := 164) dX7_nextToken_110 (by decide) (fun c18 => ?_) (fun c18 => ?_)
    · have h := if_t c18 h
      cases h
      exact ev_vret dX7_nextToken_164 rfl ⟨rfl, rfl⟩
    · have h := if_f c18 h
      refine ev_iload_n 1 dX7_nextToken_113 rfl rfl ?_
      refine ev_if_eq (tgt := 132) dX7_nextToken_114 (by decide) (fun c19 => ?_) (fun c19 => ?_)
      · have h := if_t c19 h
        refine ev_iload_n 2 dX7_nextToken_132 rfl rfl ?_
        refine ev_if_eq (tgt := 164) dX7_nextToken_133 (by decide) (fun c20 => ?_) (fun c20 => ?_)
        · have h := if_t c20 h
          cases h
          exact ev_vret dX7_nextToken_164 rfl ⟨rfl, rfl⟩
        · have h := if_f c20 h
          refine ev_aload_n 0 dX7_nextToken_136 rfl rfl ?_
          refine ev_getR (r := 62) dX7_nextToken_137 fl_X7_9 (by decide) rfl (by decide) (by decide) rfl ?_
          refine ev_aload_n 0 dX7_nextToken_140 rfl rfl ?_
          refine ev_getI dX7_nextToken_141 fl_X7_34 (by decide) rfl (by decide) (by decide) rfl ?_
          obtain ⟨c21, h⟩ := if_c h
          refine ev_ialdc 160 dX7_nextToken_144 (by decide) rfl rfl (by decide) c21 ?_
          obtain ⟨q22, e23, h⟩ := bd_c h
          refine ev_callSi (av := [.int (A 62 (A 61 7).toNatClampNeg)]) dX7_nextToken_145 (c_X7_isDigit n (A 62 (A 61 7).toNatClampNeg)  A q22 e23) mk_X7_isDigit lk_X7_90 is_X7_isDigit rfl (by decide) (by decide) (Nat.le_of_ble_eq_true rfl) rfl ?_
          refine ev_if_eq (tgt := 164) dX7_nextToken_148 (by decide) (fun c24 => ?_) (fun c24 => ?_)
          · have h := if_t c24 h
            cases h
            exact ev_vret dX7_nextToken_164 rfl ⟨rfl, rfl⟩
          · have h := if_f c24 h
            refine ev_aload_n 0 dX7_nextToken_151 rfl rfl ?_
            refine ev_dup dX7_nextToken_152 rfl ?_
            refine ev_getI dX7_nextToken_153 fl_X7_34 (by decide) rfl (by decide) (by decide) rfl ?_
            refine ev_iconst (v := 1) dX7_nextToken_156 (by decide) ?_
            refine ev_iadd dX7_nextToken_157 ?_
            refine ev_put2 dX7_nextToken_158 fl_X7_34 pk_7_7 (by decide) rfl (by decide) (by decide) rfl ?_
            refine ev_goto (tgt := 102) dX7_nextToken_161 (by decide) ?_
            exact ih x1 x2 _ q h
      · have h := if_f c19 h
        refine ev_aload_n 0 dX7_nextToken_117 rfl rfl ?_
        refine ev_getR (r := 62) dX7_nextToken_118 fl_X7_9 (by decide) rfl (by decide) (by decide) rfl ?_
        refine ev_aload_n 0 dX7_nextToken_121 rfl rfl ?_
        refine ev_getI dX7_nextToken_122 fl_X7_34 (by decide) rfl (by decide) (by decide) rfl ?_
        obtain ⟨c25, h⟩ := if_c h
        refine ev_ialdc 160 dX7_nextToken_125 (by decide) rfl rfl (by decide) c25 ?_
        obtain ⟨q26, e27, h⟩ := bd_c h
        refine ev_callSi (av := [.int (A 62 (A 61 7).toNatClampNeg)]) dX7_nextToken_126 (c_X7_isLetter n (A 62 (A 61 7).toNatClampNeg)  A q26 e27) mk_X7_isLetter lk_X7_94 is_X7_isLetter rfl (by decide) (by decide) (Nat.le_of_ble_eq_true rfl) rfl ?_
        refine ev_if_ne (tgt := 151) dX7_nextToken_129 (by decide) (fun c28 => ?_) (fun c28 => ?_)
        · have h := if_f c28 h
          refine ev_aload_n 0 dX7_nextToken_151 rfl rfl ?_
          refine ev_dup dX7_nextToken_152 rfl ?_
          refine ev_getI dX7_nextToken_153 fl_X7_34 (by decide) rfl (by decide) (by decide) rfl ?_
          refine ev_iconst (v := 1) dX7_nextToken_156 (by decide) ?_
          refine ev_iadd dX7_nextToken_157 ?_
          refine ev_put2 dX7_nextToken_158 fl_X7_34 pk_7_7 (by decide) rfl (by decide) (by decide) rfl ?_
          refine ev_goto (tgt := 102) dX7_nextToken_161 (by decide) ?_
          exact ih x1 x2 _ q h
        · have h := if_t c28 h
          refine ev_iload_n 2 dX7_nextToken_132 rfl rfl ?_
          refine ev_if_eq (tgt := 164) dX7_nextToken_133 (by decide) (fun c29 => ?_) (fun c29 => ?_)
          · have h := if_t c29 h
            cases h
            exact ev_vret dX7_nextToken_164 rfl ⟨rfl, rfl⟩
          · have h := if_f c29 h
            refine ev_aload_n 0 dX7_nextToken_136 rfl rfl ?_
            refine ev_getR (r := 62) dX7_nextToken_137 fl_X7_9 (by decide) rfl (by decide) (by decide) rfl ?_
            refine ev_aload_n 0 dX7_nextToken_140 rfl rfl ?_
            refine ev_getI dX7_nextToken_141 fl_X7_34 (by decide) rfl (by decide) (by decide) rfl ?_
            obtain ⟨c30, h⟩ := if_c h
            refine ev_ialdc 160 dX7_nextToken_144 (by decide) rfl rfl (by decide) c30 ?_
            obtain ⟨q31, e32, h⟩ := bd_c h
            refine ev_callSi (av := [.int (q26.2 62 (q26.2 61 7).toNatClampNeg)]) dX7_nextToken_145 (c_X7_isDigit n (q26.2 62 (q26.2 61 7).toNatClampNeg)  q26.2 q31 e32) mk_X7_isDigit lk_X7_90 is_X7_isDigit rfl (by decide) (by decide) (Nat.le_of_ble_eq_true rfl) rfl ?_
            refine ev_if_eq (tgt := 164) dX7_nextToken_148 (by decide) (fun c33 => ?_) (fun c33 => ?_)
            · have h := if_t c33 h
              cases h
              exact ev_vret dX7_nextToken_164 rfl ⟨rfl, rfl⟩
            · have h := if_f c33 h
              refine ev_aload_n 0 dX7_nextToken_151 rfl rfl ?_
              refine ev_dup dX7_nextToken_152 rfl ?_
              refine ev_getI dX7_nextToken_153 fl_X7_34 (by decide) rfl (by decide) (by decide) rfl ?_
              refine ev_iconst (v := 1) dX7_nextToken_156 (by decide) ?_
              refine ev_iadd dX7_nextToken_157 ?_
              refine ev_put2 dX7_nextToken_158 fl_X7_34 pk_7_7 (by decide) rfl (by decide) (by decide) rfl ?_
              refine ev_goto (tgt := 102) dX7_nextToken_161 (by decide) ?_
              exact ih x1 x2 _ q h
def g_X7_nextToken_8 (n : Nat) : Nat → Mem → Option (Int32 × Mem)
  | 0, _ => none
  | m + 1, A =>
    if (A 61 4) ≤ (A 61 6) then
      if ((st2 A 61 7 (A 61 6)) 61 6) = ((st2 A 61 7 (A 61 6)) 61 4) then
        some (0, st2 A 61 7 (A 61 6))
      else
        if ¬ ((st2 (st2 A 61 7 (A 61 6)) 61 7 (((st2 A 61 7 (A 61 6)) 61 7) + ((1 : Int32)))) 61 6) < 0 ∧ ((st2 (st2 A 61 7 (A 61 6)) 61 7 (((st2 A 61 7 (A 61 6)) 61 7) + ((1 : Int32)))) 61 6).toNatClampNeg < 160 then
          (f_X7_isLetter n ((st2 (st2 A 61 7 (A 61 6)) 61 7 (((st2 A 61 7 (A 61 6)) 61 7) + ((1 : Int32)))) 62 ((st2 (st2 A 61 7 (A 61 6)) 61 7 (((st2 A 61 7 (A 61 6)) 61 7) + ((1 : Int32)))) 61 6).toNatClampNeg) (st2 (st2 A 61 7 (A 61 6)) 61 7 (((st2 A 61 7 (A 61 6)) 61 7) + ((1 : Int32))))).bind fun q4 =>
          if ¬ (q4.2 61 6) < 0 ∧ (q4.2 61 6).toNatClampNeg < 160 then
            (f_X7_isDigit n (q4.2 62 (q4.2 61 6).toNatClampNeg) q4.2).bind fun q7 =>
            g_X7_nextToken_102 n  n q4.1 q7.1 q7.2
          else
            none
        else
          none
    else
      if ¬ (A 61 6) < 0 ∧ (A 61 6).toNatClampNeg < 160 then
        if (A 62 (A 61 6).toNatClampNeg) = ((32 : Int32)) then
          g_X7_nextToken_8 n  m  (st2 A 61 6 ((A 61 6) + ((1 : Int32))))
        else
          if ((st2 A 61 7 (A 61 6)) 61 6) = ((st2 A 61 7 (A 61 6)) 61 4) then
            some (0, st2 A 61 7 (A 61 6))
          else
            if ¬ ((st2 (st2 A 61 7 (A 61 6)) 61 7 (((st2 A 61 7 (A 61 6)) 61 7) + ((1 : Int32)))) 61 6) < 0 ∧ ((st2 (st2 A 61 7 (A 61 6)) 61 7 (((st2 A 61 7 (A 61 6)) 61 7) + ((1 : Int32)))) 61 6).toNatClampNeg < 160 then
              (f_X7_isLetter n ((st2 (st2 A 61 7 (A 61 6)) 61 7 (((st2 A 61 7 (A 61 6)) 61 7) + ((1 : Int32)))) 62 ((st2 (st2 A 61 7 (A 61 6)) 61 7 (((st2 A 61 7 (A 61 6)) 61 7) + ((1 : Int32)))) 61 6).toNatClampNeg) (st2 (st2 A 61 7 (A 61 6)) 61 7 (((st2 A 61 7 (A 61 6)) 61 7) + ((1 : Int32))))).bind fun q13 =>
              if ¬ (q13.2 61 6) < 0 ∧ (q13.2 61 6).toNatClampNeg < 160 then
                (f_X7_isDigit n (q13.2 62 (q13.2 61 6).toNatClampNeg) q13.2).bind fun q16 =>
                g_X7_nextToken_102 n  n q13.1 q16.1 q16.2
              else
                none
            else
              none
      else
        none
set_option maxRecDepth 100000 in
set_option maxHeartbeats 4000000 in
theorem l_X7_nextToken_8 (n : Nat) : ∀ (m : Nat) (A : Mem) (q : Int32 × Mem), g_X7_nextToken_8 n  m  A = some q → Ev cX7_nextToken 3 RX7 none 1 none 8 [(0, .ref 61)] [] A (RV q) := by
  intro m
  induction m with
  | zero => intro  A q h; exact absurd h (by simp [g_X7_nextToken_8])
  | succ m ih =>
    intro  A q h
    rw [g_X7_nextToken_8] at h
    refine ev_aload_n 0 dX7_nextToken_8 rfl rfl ?_
    refine ev_getI dX7_nextToken_9 fl_X7_31 (by decide) rfl (by decide) (by decide) rfl ?_
    refine ev_aload_n 0 dX7_nextToken_12 rfl rfl ?_
    refine ev_getI dX7_nextToken_13 fl_X7_24 (by decide) rfl (by decide) (by decide) rfl ?_
    refine ev_icmp_ge (tgt := 46) dX7_nextToken_16 (by decide) (fun c1 => ?_) (fun c1 => ?_)
    · have h := if_t c1 h
      refine ev_aload_n 0 dX7_nextToken_46 rfl rfl ?_
      refine ev_aload_n 0 dX7_nextToken_47 rfl rfl ?_
      refine ev_getI dX7_nextToken_48 fl_X7_31 (by decide) rfl (by decide) (by decide) rfl ?_
      refine ev_put2 dX7_nextToken_51 fl_X7_34 pk_7_7 (by decide) rfl (by decide) (by decide) rfl ?_
      refine ev_aload_n 0 dX7_nextToken_54 rfl rfl ?_
      refine ev_getI dX7_nextToken_55 fl_X7_31 (by decide) rfl (by decide) (by decide) rfl ?_
      refine ev_aload_n 0 dX7_nextToken_58 rfl rfl ?_
      refine ev_getI dX7_nextToken_59 fl_X7_24 (by decide) rfl (by decide) (by decide) rfl ?_
      refine ev_icmp_ne (tgt := 66) dX7_nextToken_62 (by decide) (fun c2 => ?_) (fun c2 => ?_)
      · have h := if_f c2 h
        refine ev_aload_n 0 dX7_nextToken_66 rfl rfl ?_
        refine ev_dup dX7_nextToken_67 rfl ?_
        refine ev_getI dX7_nextToken_68 fl_X7_34 (by decide) rfl (by decide) (by decide) rfl ?_
        refine ev_iconst (v := 1) dX7_nextToken_71 (by decide) ?_
        refine ev_iadd dX7_nextToken_72 ?_
        refine ev_put2 dX7_nextToken_73 fl_X7_34 pk_7_7 (by decide) rfl (by decide) (by decide) rfl ?_
        refine ev_aload_n 0 dX7_nextToken_76 rfl rfl ?_
        refine ev_getR (r := 62) dX7_nextToken_77 fl_X7_9 (by decide) rfl (by decide) (by decide) rfl ?_
        refine ev_aload_n 0 dX7_nextToken_80 rfl rfl ?_
        refine ev_getI dX7_nextToken_81 fl_X7_31 (by decide) rfl (by decide) (by decide) rfl ?_
        obtain ⟨c3, h⟩ := if_c h
        refine ev_ialdc 160 dX7_nextToken_84 (by decide) rfl rfl (by decide) c3 ?_
        obtain ⟨q4, e5, h⟩ := bd_c h
        refine ev_callSi (av := [.int ((st2 (st2 A 61 7 (A 61 6)) 61 7 (((st2 A 61 7 (A 61 6)) 61 7) + ((1 : Int32)))) 62 ((st2 (st2 A 61 7 (A 61 6)) 61 7 (((st2 A 61 7 (A 61 6)) 61 7) + ((1 : Int32)))) 61 6).toNatClampNeg)]) dX7_nextToken_85 (c_X7_isLetter n ((st2 (st2 A 61 7 (A 61 6)) 61 7 (((st2 A 61 7 (A 61 6)) 61 7) + ((1 : Int32)))) 62 ((st2 (st2 A 61 7 (A 61 6)) 61 7 (((st2 A 61 7 (A 61 6)) 61 7) + ((1 : Int32)))) 61 6).toNatClampNeg)  (st2 (st2 A 61 7 (A 61 6)) 61 7 (((st2 A 61 7 (A 61 6)) 61 7) + ((1 : Int32)))) q4 e5) mk_X7_isLetter lk_X7_94 is_X7_isLetter rfl (by decide) (by decide) (Nat.le_of_ble_eq_true rfl) rfl ?_
        refine ev_istore_n (ls' := [(1, .int q4.1), (0, .ref 61)]) dX7_nextToken_88 rfl (by decide) rfl ?_
        refine ev_aload_n 1 dX7_nextToken_89 rfl rfl ?_
        refine ev_getR (r := 62) dX7_nextToken_90 fl_X7_9 (by decide) rfl (by decide) (by decide) rfl ?_
        refine ev_aload_n 1 dX7_nextToken_93 rfl rfl ?_
        refine ev_getI dX7_nextToken_94 fl_X7_31 (by decide) rfl (by decide) (by decide) rfl ?_
        obtain ⟨c6, h⟩ := if_c h
        refine ev_ialdc 160 dX7_nextToken_97 (by decide) rfl rfl (by decide) c6 ?_
        obtain ⟨q7, e8, h⟩ := bd_c h
        refine ev_callSi (av := [.int (q4.2 62 (q4.2 61 6).toNatClampNeg)]) dX7_nextToken_98 (c_X7_isDigit n (q4.2 62 (q4.2 61 6).toNatClampNeg)  q4.2 q7 e8) mk_X7_isDigit lk_X7_90 is_X7_isDigit rfl (by decide) (by decide) (Nat.le_of_ble_eq_true rfl) rfl ?_
        refine ev_istore_n (ls' := [(2, .int q7.1), (1, .int q4.1), (0, .ref 61)]) dX7_nextToken_101 rfl (by decide) rfl ?_
        refine ev_pick [2, 1, 0] (ls' := [(0, .ref 61), (1, .int q4.1), (2, .int q7.1)]) rfl ?_
        exact (l_X7_nextToken_102 n   n) q4.1 q7.1 _ q h
      · have h := if_t c2 h
        cases h
        exact ev_vret dX7_nextToken_65 rfl ⟨rfl, rfl⟩
    · have h := if_f c1 h
      refine ev_aload_n 0 dX7_nextToken_19 rfl rfl ?_
      refine ev_getR (r := 62) dX7_nextToken_20 fl_X7_9 (by decide) rfl (by decide) (by decide) rfl ?_
      refine ev_aload_n 0 dX7_nextToken_23 rfl rfl ?_
      refine ev_getI dX7_nextToken_24 fl_X7_31 (by decide) rfl (by decide) (by decide) rfl ?_
      obtain ⟨c9, h⟩ := if_c h
      refine ev_ialdc 160 dX7_nextToken_27 (by decide) rfl rfl (by decide) c9 ?_
      refine ev_bipush (v := 32) dX7_nextToken_28 (by decide) ?_
      refine ev_icmp_ne (tgt := 46) dX7_nextToken_30 (by decide) (fun c10 => ?_) (fun c10 => ?_)
      · have h := if_f c10 h
        refine ev_aload_n 0 dX7_nextToken_46 rfl rfl ?_
        refine ev_aload_n 0 dX7_nextToken_47 rfl rfl ?_
        refine ev_getI dX7_nextToken_48 fl_X7_31 (by decide) rfl (by decide) (by decide) rfl ?_
        refine ev_put2 dX7_nextToken_51 fl_X7_34 pk_7_7 (by decide) rfl (by decide) (by decide) rfl ?_
        refine ev_aload_n 0 dX7_nextToken_54 rfl rfl ?_
        refine ev_getI dX7_nextToken_55 fl_X7_31 (by decide) rfl (by decide) (by decide) rfl ?_
        refine ev_aload_n 0 dX7_nextToken_58 rfl rfl ?_
        refine ev_getI dX7_nextToken_59 fl_X7_24 (by decide) rfl (by decide) (by decide) rfl ?_
        refine ev_icmp_ne (tgt := 66) dX7_nextToken_62 (by decide) (fun c11 => ?_) (fun c11 => ?_)
        · have h := if_f c11 h
          refine ev_aload_n 0 dX7_nextToken_66 rfl rfl ?_
          refine ev_dup dX7_nextToken_67 rfl ?_
          refine ev_getI dX7_nextToken_68 fl_X7_34 (by decide) rfl (by decide) (by decide) rfl ?_
          refine ev_iconst (v := 1) dX7_nextToken_71 (by decide) ?_
          refine ev_iadd dX7_nextToken_72 ?_
          refine ev_put2 dX7_nextToken_73 fl_X7_34 pk_7_7 (by decide) rfl (by decide) (by decide) rfl ?_
          refine ev_aload_n 0 dX7_nextToken_76 rfl rfl ?_
          refine ev_getR (r := 62) dX7_nextToken_77 fl_X7_9 (by decide) rfl (by decide) (by decide) rfl ?_
          refine ev_aload_n 0 dX7_nextToken_80 rfl rfl ?_
          refine ev_getI dX7_nextToken_81 fl_X7_31 (by decide) rfl (by decide) (by decide) rfl ?_
          obtain ⟨c12, h⟩ := if_c h
          refine ev_ialdc 160 dX7_nextToken_84 (by decide) rfl rfl (by decide) c12 ?_
          obtain ⟨q13, e14, h⟩ := bd_c h
          refine ev_callSi (av := [.int ((st2 (st2 A 61 7 (A 61 6)) 61 7 (((st2 A 61 7 (A 61 6)) 61 7) + ((1 : Int32)))) 62 ((st2 (st2 A 61 7 (A 61 6)) 61 7 (((st2 A 61 7 (A 61 6)) 61 7) + ((1 : Int32)))) 61 6).toNatClampNeg)]) dX7_nextToken_85 (c_X7_isLetter n ((st2 (st2 A 61 7 (A 61 6)) 61 7 (((st2 A 61 7 (A 61 6)) 61 7) + ((1 : Int32)))) 62 ((st2 (st2 A 61 7 (A 61 6)) 61 7 (((st2 A 61 7 (A 61 6)) 61 7) + ((1 : Int32)))) 61 6).toNatClampNeg)  (st2 (st2 A 61 7 (A 61 6)) 61 7 (((st2 A 61 7 (A 61 6)) 61 7) + ((1 : Int32)))) q13 e14) mk_X7_isLetter lk_X7_94 is_X7_isLetter rfl (by decide) (by decide) (Nat.le_of_ble_eq_true rfl) rfl ?_
          refine ev_istore_n (ls' := [(1, .int q13.1), (0, .ref 61)]) dX7_nextToken_88 rfl (by decide) rfl ?_
          refine ev_aload_n 1 dX7_nextToken_89 rfl rfl ?_
          refine ev_getR (r := 62) dX7_nextToken_90 fl_X7_9 (by decide) rfl (by decide) (by decide) rfl ?_
          refine ev_aload_n 1 dX7_nextToken_93 rfl rfl ?_
          refine ev_getI dX7_nextToken_94 fl_X7_31 (by decide) rfl (by decide) (by decide) rfl ?_
          obtain ⟨c15, h⟩ := if_c h
          refine ev_ialdc 160 dX7_nextToken_97 (by decide) rfl rfl (by decide) c15 ?_
          obtain ⟨q16, e17, h⟩ := bd_c h
          refine ev_callSi (av := [.int (q13.2 62 (q13.2 61 6).toNatClampNeg)]) dX7_nextToken_98 (c_X7_isDigit n (q13.2 62 (q13.2 61 6).toNatClampNeg)  q13.2 q16 e17) mk_X7_isDigit lk_X7_90 is_X7_isDigit rfl (by decide) (by decide) (Nat.le_of_ble_eq_true rfl) rfl ?_
          refine ev_istore_n (ls' := [(2, .int q16.1), (1, .int q13.1), (0, .ref 61)]) dX7_nextToken_101 rfl (by decide) rfl ?_
          refine ev_pick [2, 1, 0] (ls' := [(0, .ref 61), (1, .int q13.1), (2, .int q16.1)]) rfl ?_
          exact (l_X7_nextToken_102 n   n) q13.1 q16.1 _ q h
        · have h := if_t c11 h
          cases h
          exact ev_vret dX7_nextToken_65 rfl ⟨rfl, rfl⟩
      · have h := if_t c10 h
        refine ev_aload_n 0 dX7_nextToken_33 rfl rfl ?_
        refine ev_dup dX7_nextToken_34 rfl ?_
        refine ev_getI dX7_nextToken_35 fl_X7_31 (by decide) rfl (by decide) (by decide) rfl ?_
        refine ev_iconst (v := 1) dX7_nextToken_38 (by decide) ?_
        refine ev_iadd dX7_nextToken_39 ?_
        refine ev_put2 dX7_nextToken_40 fl_X7_31 pk_7_6 (by decide) rfl (by decide) (by decide) rfl ?_
        refine ev_goto (tgt := 8) dX7_nextToken_43 (by decide) ?_
        exact ih  _ q h
def f_X7_nextToken (n : Nat) (A : Mem) : Option (Int32 × Mem) :=
  g_X7_nextToken_8 n  n  (st2 A 61 6 (A 61 7))
set_option maxRecDepth 100000 in
set_option maxHeartbeats 4000000 in
theorem c_X7_nextToken (n : Nat) (A : Mem) (q : Int32 × Mem) (h : f_X7_nextToken n  A = some q) : Ct yX7_nextToken cX7_nextToken 3 none 1 [.ref 61] A (RV q) := by
  unfold f_X7_nextToken at h
  refine ct_of (by decide) (Nat.le_of_ble_eq_true rfl) ?_
  show Ev cX7_nextToken 3 RX7 none 1 none 0 [(0, .ref 61)] [] A (RV q)
  refine ev_aload_n 0 dX7_nextToken_0 rfl rfl ?_
  refine ev_aload_n 0 dX7_nextToken_1 rfl rfl ?_
  refine ev_getI dX7_nextToken_2 fl_X7_34 (by decide) rfl (by decide) (by decide) rfl ?_
  refine ev_put2 dX7_nextToken_5 fl_X7_31 pk_7_6 (by decide) rfl (by decide) (by decide) rfl ?_
  exact (l_X7_nextToken_8 n   n)  _ q h
def g_X7_passNumber_46 (n : Nat) : Nat → Int32 → Int32 → Int32 → Int32 → Mem → Option (Int32 × Mem)
  | 0, _, _, _, _, _ => none
  | m + 1, x1, x2, x4, x5, A =>
    if (A 61 7) ≤ x5 then
      if x4 < x1 then
        some ((-1 : Int32), A)
      else
        if x4 ≤ x2 then
          (f_X7_nextToken n  A).bind fun q10 =>
          some (x4, q10.2)
        else
          some ((-1 : Int32), A)
    else
      if ¬ x5 < 0 ∧ (x5).toNatClampNeg < 160 then
        g_X7_passNumber_46 n  m x1 x2 (((x4 * ((10 : Int32))) + (A 62 (x5).toNatClampNeg)) - ((48 : Int32))) (x5 + 1) A
      else
        none
set_option maxRecDepth 100000 in
set_option maxHeartbeats 4000000 in
theorem l_X7_passNumber_46 (n : Nat) : ∀ (m : Nat) (x1 : Int32) (x2 : Int32) (x4 : Int32) (x5 : Int32) (A : Mem) (q : Int32 × Mem), g_X7_passNumber_46 n  m x1 x2 x4 x5 A = some q → Ev cX7_passNumber 6 RX7 (some .int) 2 none 46 [(0, .ref 61), (1, .int x1), (2, .int x2), (4, .int x4), (5, .int x5)] [] A (RI q) := by
  intro m
  induction m with
  | zero => intro x1 x2 x4 x5 A q h; exact absurd h (by simp [g_X7_passNumber_46])
  | succ m ih =>
    intro x1 x2 x4 x5 A q h
    rw [g_X7_passNumber_46] at h
    refine ev_iload 4 dX7_passNumber_46 rfl ?_
    refine ev_aload_n 0 dX7_passNumber_48 rfl rfl ?_
    refine ev_getI dX7_passNumber_49 fl_X7_34 (by decide) rfl (by decide) (by decide) rfl ?_
    refine ev_icmp_ge (tgt := 79) dX7_passNumber_52 (by decide) (fun c7 => ?_) (fun c7 => ?_)
    · have h := if_t c7 h
      refine ev_iload 3 dX7_passNumber_79 rfl ?_
      refine ev_iload_n 1 dX7_passNumber_81 rfl rfl ?_
      refine ev_icmp_lt (tgt := 91) dX7_passNumber_82 (by decide) (fun c8 => ?_) (fun c8 => ?_)
      · have h := if_t c8 h
        refine ev_iconst (v := -1) dX7_passNumber_91 (by decide) ?_
        cases h
        exact ev_iret dX7_passNumber_92 rfl rfl ⟨rfl, rfl⟩
      · have h := if_f c8 h
        refine ev_iload 3 dX7_passNumber_85 rfl ?_
        refine ev_iload_n 2 dX7_passNumber_87 rfl rfl ?_
        refine ev_icmp_le (tgt := 93) dX7_passNumber_88 (by decide) (fun c9 => ?_) (fun c9 => ?_)
        · have h := if_t c9 h
          refine ev_aload_n 0 dX7_passNumber_93 rfl rfl ?_
          obtain ⟨q10, e11, h⟩ := bd_c h
          refine ev_callVv (av := []) dX7_passNumber_94 (c_X7_nextToken n   A q10 e11) mk_X7_nextToken lk_X7_39 iv_X7_nextToken (Or.inl ⟨7, _, by decide, rfl, by decide, rfl, rfl⟩) rfl (by decide) (by decide) (Nat.le_of_ble_eq_true rfl) rfl ?_
          refine ev_iload 3 dX7_passNumber_97 rfl ?_
          cases h
          exact ev_iret dX7_passNumber_99 rfl rfl ⟨rfl, rfl⟩
        · have h := if_f c9 h
          refine ev_iconst (v := -1) dX7_passNumber_91 (by decide) ?_
          cases h
          exact ev_iret dX7_passNumber_92 rfl rfl ⟨rfl, rfl⟩
    · have h := if_f c7 h
      refine ev_iload 3 dX7_passNumber_55 rfl ?_
      refine ev_bipush (v := 10) dX7_passNumber_57 (by decide) ?_
      refine ev_imul dX7_passNumber_59 ?_
      refine ev_aload_n 0 dX7_passNumber_60 rfl rfl ?_
      refine ev_getR (r := 62) dX7_passNumber_61 fl_X7_9 (by decide) rfl (by decide) (by decide) rfl ?_
      refine ev_iload 4 dX7_passNumber_64 rfl ?_
      obtain ⟨c12, h⟩ := if_c h
      refine ev_ialdc 160 dX7_passNumber_66 (by decide) rfl rfl (by decide) c12 ?_
      refine ev_iadd dX7_passNumber_67 ?_
      refine ev_bipush (v := 48) dX7_passNumber_68 (by decide) ?_
      refine ev_isub dX7_passNumber_70 ?_
      refine ev_istore (ls' := [(4, .int (((x4 * ((10 : Int32))) + (A 62 (x5).toNatClampNeg)) - ((48 : Int32)))), (0, .ref 61), (1, .int x1), (2, .int x2), (5, .int x5)]) dX7_passNumber_71 (by decide) rfl ?_
      refine ev_iinc (v := x5 + 1) (ls' := [(5, .int (x5 + 1)), (4, .int (((x4 * ((10 : Int32))) + (A 62 (x5).toNatClampNeg)) - ((48 : Int32)))), (0, .ref 61), (1, .int x1), (2, .int x2)]) 4 dX7_passNumber_73 rfl rfl (by decide) rfl ?_
      refine ev_goto (tgt := 46) dX7_passNumber_76 (by decide) ?_
      refine ev_pick [2, 3, 4, 1, 0] (ls' := [(0, .ref 61), (1, .int x1), (2, .int x2), (4, .int (((x4 * ((10 : Int32))) + (A 62 (x5).toNatClampNeg)) - ((48 : Int32)))), (5, .int (x5 + 1))]) rfl ?_
      exact ih x1 x2 (((x4 * ((10 : Int32))) + (A 62 (x5).toNatClampNeg)) - ((48 : Int32))) (x5 + 1) _ q h
def f_X7_passNumber (n : Nat) (x1 : Int32) (x2 : Int32) (A : Mem) : Option (Int32 × Mem) :=
  if ((A 61 7) - (A 61 6)) < ((1 : Int32)) then
    some ((-1 : Int32), A)
  else
    if ((2 : Int32)) < ((A 61 7) - (A 61 6)) then
      some ((-1 : Int32), A)
    else
      if ¬ (A 61 6) < 0 ∧ (A 61 6).toNatClampNeg < 160 then
        (f_X7_isDigit n (A 62 (A 61 6).toNatClampNeg) A).bind fun q4 =>
        if q4.1 = 0 then
          some ((-1 : Int32), q4.2)
        else
          g_X7_passNumber_46 n  n x1 x2 ((0 : Int32)) (q4.2 61 6) q4.2
      else
        none
set_option maxRecDepth 100000 in
set_option maxHeartbeats 4000000 in
theorem c_X7_passNumber (n : Nat) (x1 : Int32) (x2 : Int32) (A : Mem) (q : Int32 × Mem) (h : f_X7_passNumber n x1 x2 A = some q) : Ct yX7_passNumber cX7_passNumber 6 (some .int) 2 [.ref 61, .int x1, .int x2] A (RI q) := by
  unfold f_X7_passNumber at h
  refine ct_of (by decide) (Nat.le_of_ble_eq_true rfl) ?_
  show Ev cX7_passNumber 6 RX7 (some .int) 2 none 0 [(0, .ref 61), (1, .int x1), (2, .int x2)] [] A (RI q)
  refine ev_aload_n 0 dX7_passNumber_0 rfl rfl ?_
  refine ev_getI dX7_passNumber_1 fl_X7_34 (by decide) rfl (by decide) (by decide) rfl ?_
  refine ev_aload_n 0 dX7_passNumber_4 rfl rfl ?_
  refine ev_getI dX7_passNumber_5 fl_X7_31 (by decide) rfl (by decide) (by decide) rfl ?_
  refine ev_isub dX7_passNumber_8 ?_
  refine ev_istore_n (ls' := [(3, .int ((A 61 7) - (A 61 6))), (0, .ref 61), (1, .int x1), (2, .int x2)]) dX7_passNumber_9 rfl (by decide) rfl ?_
  refine ev_iload_n 0 dX7_passNumber_10 rfl rfl ?_
  refine ev_iconst (v := 1) dX7_passNumber_11 (by decide) ?_
  refine ev_icmp_lt (tgt := 35) dX7_passNumber_12 (by decide) (fun c1 => ?_) (fun c1 => ?_)
  · have h := if_t c1 h
    refine ev_iconst (v := -1) dX7_passNumber_35 (by decide) ?_
    cases h
    exact ev_iret dX7_passNumber_36 rfl rfl ⟨rfl, rfl⟩
  · have h := if_f c1 h
    refine ev_iload_n 0 dX7_passNumber_15 rfl rfl ?_
    refine ev_iconst (v := 2) dX7_passNumber_16 (by decide) ?_
    refine ev_icmp_gt (tgt := 35) dX7_passNumber_17 (by decide) (fun c2 => ?_) (fun c2 => ?_)
    · have h := if_t c2 h
      refine ev_iconst (v := -1) dX7_passNumber_35 (by decide) ?_
      cases h
      exact ev_iret dX7_passNumber_36 rfl rfl ⟨rfl, rfl⟩
    · have h := if_f c2 h
      refine ev_aload_n 1 dX7_passNumber_20 rfl rfl ?_
      refine ev_getR (r := 62) dX7_passNumber_21 fl_X7_9 (by decide) rfl (by decide) (by decide) rfl ?_
      refine ev_aload_n 1 dX7_passNumber_24 rfl rfl ?_
      refine ev_getI dX7_passNumber_25 fl_X7_31 (by decide) rfl (by decide) (by decide) rfl ?_
      obtain ⟨c3, h⟩ := if_c h
      refine ev_ialdc 160 dX7_passNumber_28 (by decide) rfl rfl (by decide) c3 ?_
      obtain ⟨q4, e5, h⟩ := bd_c h
      refine ev_callSi (av := [.int (A 62 (A 61 6).toNatClampNeg)]) dX7_passNumber_29 (c_X7_isDigit n (A 62 (A 61 6).toNatClampNeg)  A q4 e5) mk_X7_isDigit lk_X7_90 is_X7_isDigit rfl (by decide) (by decide) (Nat.le_of_ble_eq_true rfl) rfl ?_
      refine ev_if_ne (tgt := 37) dX7_passNumber_32 (by decide) (fun c6 => ?_) (fun c6 => ?_)
      · have h := if_f c6 h
        refine ev_iconst (v := 0) dX7_passNumber_37 (by decide) ?_
        refine ev_istore (ls' := [(4, .int ((0 : Int32))), (3, .int ((A 61 7) - (A 61 6))), (0, .ref 61), (1, .int x1), (2, .int x2)]) dX7_passNumber_38 (by decide) rfl ?_
        refine ev_aload_n 2 dX7_passNumber_40 rfl rfl ?_
        refine ev_getI dX7_passNumber_41 fl_X7_31 (by decide) rfl (by decide) (by decide) rfl ?_
        refine ev_istore (ls' := [(5, .int (q4.2 61 6)), (4, .int ((0 : Int32))), (3, .int ((A 61 7) - (A 61 6))), (0, .ref 61), (1, .int x1), (2, .int x2)]) dX7_passNumber_44 (by decide) rfl ?_
        refine ev_pick [3, 4, 5, 1, 0] (ls' := [(0, .ref 61), (1, .int x1), (2, .int x2), (4, .int ((0 : Int32))), (5, .int (q4.2 61 6))]) rfl ?_
        exact (l_X7_passNumber_46 n   n) x1 x2 ((0 : Int32)) (q4.2 61 6) _ q h
      · have h := if_t c6 h
        refine ev_iconst (v := -1) dX7_passNumber_35 (by decide) ?_
        cases h
        exact ev_iret dX7_passNumber_36 rfl rfl ⟨rfl, rfl⟩
def g_X7_passWord_20 (n : Nat) (w1 : Nat) : Nat → Int32 → Mem → Option (Int32 × Mem)
  | 0, _, _ => none
  | m + 1, x2, A =>
    if (nI (lenS.getD w1 0)) ≤ x2 then
      (f_X7_nextToken n  A).bind fun q3 =>
      some ((1 : Int32), q3.2)
    else
      if ¬ ((A 61 6) + x2) < 0 ∧ ((A 61 6) + x2).toNatClampNeg < 160 then
        if ¬ x2 < 0 ∧ (x2).toNatClampNeg < lenS.getD w1 0 then
          if (A 62 ((A 61 6) + x2).toNatClampNeg) = ((bytS.getD w1 []).getD (x2).toNatClampNeg 0) then
            g_X7_passWord_20 n w1 m (x2 + 1) A
          else
            some ((0 : Int32), A)
        else
          none
      else
        none
set_option maxRecDepth 100000 in
set_option maxHeartbeats 4000000 in
theorem l_X7_passWord_20 (n : Nat) (w1 : Nat) (hw1 : w1 < 10) : ∀ (m : Nat) (x2 : Int32) (A : Mem) (q : Int32 × Mem), g_X7_passWord_20 n w1 m x2 A = some q → Ev cX7_passWord 3 RX7 (some .boolean) 4 none 20 [(0, .ref 61), (1, .ref (1000000 + w1)), (2, .int x2)] [] A (RI q) := by
  intro m
  induction m with
  | zero => intro x2 A q h; exact absurd h (by simp [g_X7_passWord_20])
  | succ m ih =>
    intro x2 A q h
    rw [g_X7_passWord_20] at h
    refine ev_iload_n 2 dX7_passWord_20 rfl rfl ?_
    refine ev_aload_n 1 dX7_passWord_21 rfl rfl ?_
    refine ev_callVi (av := []) dX7_passWord_22 (c_slen w1 hw1 A) mk_J0_length_8abf5 lk_X7_81 iv_J0_length_8abf5 (Or.inr ⟨w1, hw1, rfl, rfl⟩) rfl (by decide) (by decide) (Nat.le_of_ble_eq_true rfl) rfl ?_
    refine ev_icmp_ge (tgt := 55) dX7_passWord_25 (by decide) (fun c2 => ?_) (fun c2 => ?_)
    · have h := if_t c2 h
      refine ev_aload_n 0 dX7_passWord_55 rfl rfl ?_
      obtain ⟨q3, e4, h⟩ := bd_c h
      refine ev_callVv (av := []) dX7_passWord_56 (c_X7_nextToken n   A q3 e4) mk_X7_nextToken lk_X7_39 iv_X7_nextToken (Or.inl ⟨7, _, by decide, rfl, by decide, rfl, rfl⟩) rfl (by decide) (by decide) (Nat.le_of_ble_eq_true rfl) rfl ?_
      refine ev_iconst (v := 1) dX7_passWord_59 (by decide) ?_
      cases h
      exact ev_iret dX7_passWord_60 rfl rfl ⟨rfl, rfl⟩
    · have h := if_f c2 h
      refine ev_aload_n 0 dX7_passWord_28 rfl rfl ?_
      refine ev_getR (r := 62) dX7_passWord_29 fl_X7_9 (by decide) rfl (by decide) (by decide) rfl ?_
      refine ev_aload_n 0 dX7_passWord_32 rfl rfl ?_
      refine ev_getI dX7_passWord_33 fl_X7_31 (by decide) rfl (by decide) (by decide) rfl ?_
      refine ev_iload_n 2 dX7_passWord_36 rfl rfl ?_
      refine ev_iadd dX7_passWord_37 ?_
      obtain ⟨c5, h⟩ := if_c h
      refine ev_ialdc 160 dX7_passWord_38 (by decide) rfl rfl (by decide) c5 ?_
      refine ev_aload_n 1 dX7_passWord_39 rfl rfl ?_
      refine ev_iload_n 2 dX7_passWord_40 rfl rfl ?_
      obtain ⟨c6, h⟩ := if_c h
      refine ev_callVi (av := [.int x2]) dX7_passWord_41 (c_schar w1 hw1 x2 c6 A) mk_J0_charAt_5068e lk_X7_86 iv_J0_charAt_5068e (Or.inr ⟨w1, hw1, rfl, rfl⟩) rfl (by decide) (by decide) (Nat.le_of_ble_eq_true rfl) rfl ?_
      refine ev_icmp_eq (tgt := 49) dX7_passWord_44 (by decide) (fun c7 => ?_) (fun c7 => ?_)
      · have h := if_t c7 h
        refine ev_iinc (v := x2 + 1) (ls' := [(2, .int (x2 + 1)), (0, .ref 61), (1, .ref (1000000 + w1))]) 2 dX7_passWord_49 rfl rfl (by decide) rfl ?_
        refine ev_goto (tgt := 20) dX7_passWord_52 (by decide) ?_
        refine ev_pick [1, 2, 0] (ls' := [(0, .ref 61), (1, .ref (1000000 + w1)), (2, .int (x2 + 1))]) rfl ?_
        exact ih (x2 + 1) _ q h
      · have h := if_f c7 h
        refine ev_iconst (v := 0) dX7_passWord_47 (by decide) ?_
        cases h
        exact ev_iret dX7_passWord_48 rfl rfl ⟨rfl, rfl⟩
def f_X7_passWord (n : Nat) (w1 : Nat) (A : Mem) : Option (Int32 × Mem) :=
  if ((A 61 7) - (A 61 6)) = (nI (lenS.getD w1 0)) then
    g_X7_passWord_20 n w1 n ((0 : Int32)) A
  else
    some ((0 : Int32), A)
set_option maxRecDepth 100000 in
set_option maxHeartbeats 4000000 in
theorem c_X7_passWord (n : Nat) (w1 : Nat) (hw1 : w1 < 10) (A : Mem) (q : Int32 × Mem) (h : f_X7_passWord n w1 A = some q) : Ct yX7_passWord cX7_passWord 3 (some .boolean) 4 [.ref 61, .ref (1000000 + w1)] A (RI q) := by
  unfold f_X7_passWord at h
  refine ct_of (by decide) (Nat.le_of_ble_eq_true rfl) ?_
  show Ev cX7_passWord 3 RX7 (some .boolean) 4 none 0 [(0, .ref 61), (1, .ref (1000000 + w1))] [] A (RI q)
  refine ev_aload_n 0 dX7_passWord_0 rfl rfl ?_
  refine ev_getI dX7_passWord_1 fl_X7_34 (by decide) rfl (by decide) (by decide) rfl ?_
  refine ev_aload_n 0 dX7_passWord_4 rfl rfl ?_
  refine ev_getI dX7_passWord_5 fl_X7_31 (by decide) rfl (by decide) (by decide) rfl ?_
  refine ev_isub dX7_passWord_8 ?_
  refine ev_aload_n 1 dX7_passWord_9 rfl rfl ?_
  refine ev_callVi (av := []) dX7_passWord_10 (c_slen w1 hw1 A) mk_J0_length_8abf5 lk_X7_81 iv_J0_length_8abf5 (Or.inr ⟨w1, hw1, rfl, rfl⟩) rfl (by decide) (by decide) (Nat.le_of_ble_eq_true rfl) rfl ?_
  refine ev_icmp_eq (tgt := 18) dX7_passWord_13 (by decide) (fun c1 => ?_) (fun c1 => ?_)
  · have h := if_t c1 h
    refine ev_iconst (v := 0) dX7_passWord_18 (by decide) ?_
    refine ev_istore_n (ls' := [(2, .int ((0 : Int32))), (0, .ref 61), (1, .ref (1000000 + w1))]) dX7_passWord_19 rfl (by decide) rfl ?_
    refine ev_pick [1, 2, 0] (ls' := [(0, .ref 61), (1, .ref (1000000 + w1)), (2, .int ((0 : Int32)))]) rfl ?_
    exact (l_X7_passWord_20 n w1 hw1 n) ((0 : Int32)) _ q h
  · have h := if_f c1 h
    refine ev_iconst (v := 0) dX7_passWord_16 (by decide) ?_
    cases h
    exact ev_iret dX7_passWord_17 rfl rfl ⟨rfl, rfl⟩
def g_X7_readTableLine_2 (n : Nat) : Nat → Int32 → Mem → Option (Int32 × Mem)
  | 0, _, _ => none
  | m + 1, x1, A =>
    if ((6 : Int32)) ≤ x1 then
      if x1 = ((6 : Int32)) then
        some ((0 : Int32), A)
      else
        if ¬ (A 61 5) < 0 ∧ (A 61 5).toNatClampNeg < 8 then
          (f_X7_passNumber n ((0 : Int32)) ((99 : Int32)) (st2 A 63 (A 61 5).toNatClampNeg x1)).bind fun q4 =>
          if ¬ ((st2 A 63 (A 61 5).toNatClampNeg x1) 61 5) < 0 ∧ ((st2 A 63 (A 61 5).toNatClampNeg x1) 61 5).toNatClampNeg < 8 then
            if ¬ ((st2 q4.2 64 ((st2 A 63 (A 61 5).toNatClampNeg x1) 61 5).toNatClampNeg q4.1) 61 5) < 0 ∧ ((st2 q4.2 64 ((st2 A 63 (A 61 5).toNatClampNeg x1) 61 5).toNatClampNeg q4.1) 61 5).toNatClampNeg < 8 then
              if ((st2 q4.2 64 ((st2 A 63 (A 61 5).toNatClampNeg x1) 61 5).toNatClampNeg q4.1) 64 ((st2 q4.2 64 ((st2 A 63 (A 61 5).toNatClampNeg x1) 61 5).toNatClampNeg q4.1) 61 5).toNatClampNeg) = ((-1 : Int32)) then
                some ((0 : Int32), st2 q4.2 64 ((st2 A 63 (A 61 5).toNatClampNeg x1) 61 5).toNatClampNeg q4.1)
              else
                some ((1 : Int32), st2 q4.2 64 ((st2 A 63 (A 61 5).toNatClampNeg x1) 61 5).toNatClampNeg q4.1)
            else
              none
          else
            none
        else
          none
    else
      (f_X7_passWord n (twi x1) A).bind fun q9 =>
      if q9.1 = 0 then
        g_X7_readTableLine_2 n  m (x1 + 1) q9.2
      else
        if x1 = ((6 : Int32)) then
          some ((0 : Int32), q9.2)
        else
          if ¬ (q9.2 61 5) < 0 ∧ (q9.2 61 5).toNatClampNeg < 8 then
            (f_X7_passNumber n ((0 : Int32)) ((99 : Int32)) (st2 q9.2 63 (q9.2 61 5).toNatClampNeg x1)).bind fun q14 =>
            if ¬ ((st2 q9.2 63 (q9.2 61 5).toNatClampNeg x1) 61 5) < 0 ∧ ((st2 q9.2 63 (q9.2 61 5).toNatClampNeg x1) 61 5).toNatClampNeg < 8 then
              if ¬ ((st2 q14.2 64 ((st2 q9.2 63 (q9.2 61 5).toNatClampNeg x1) 61 5).toNatClampNeg q14.1) 61 5) < 0 ∧ ((st2 q14.2 64 ((st2 q9.2 63 (q9.2 61 5).toNatClampNeg x1) 61 5).toNatClampNeg q14.1) 61 5).toNatClampNeg < 8 then
                if ((st2 q14.2 64 ((st2 q9.2 63 (q9.2 61 5).toNatClampNeg x1) 61 5).toNatClampNeg q14.1) 64 ((st2 q14.2 64 ((st2 q9.2 63 (q9.2 61 5).toNatClampNeg x1) 61 5).toNatClampNeg q14.1) 61 5).toNatClampNeg) = ((-1 : Int32)) then
                  some ((0 : Int32), st2 q14.2 64 ((st2 q9.2 63 (q9.2 61 5).toNatClampNeg x1) 61 5).toNatClampNeg q14.1)
                else
                  some ((1 : Int32), st2 q14.2 64 ((st2 q9.2 63 (q9.2 61 5).toNatClampNeg x1) 61 5).toNatClampNeg q14.1)
              else
                none
            else
              none
          else
            none
set_option maxRecDepth 100000 in
set_option maxHeartbeats 4000000 in
theorem l_X7_readTableLine_2 (n : Nat) : ∀ (m : Nat) (x1 : Int32) (A : Mem) (q : Int32 × Mem), g_X7_readTableLine_2 n  m x1 A = some q → Ev cX7_readTableLine 2 RX7 (some .boolean) 5 none 2 [(0, .ref 61), (1, .int x1)] [] A (RI q) := by
  intro m
  induction m with
  | zero => intro x1 A q h; exact absurd h (by simp [g_X7_readTableLine_2])
  | succ m ih =>
    intro x1 A q h
    rw [g_X7_readTableLine_2] at h
    refine ev_iload_n 1 dX7_readTableLine_2 rfl rfl ?_
    refine ev_bipush (v := 6) dX7_readTableLine_3 (by decide) ?_
    refine ev_icmp_ge (tgt := 25) dX7_readTableLine_5 (by decide) (fun c1 => ?_) (fun c1 => ?_)
    · have h := if_t c1 h
      refine ev_iload_n 1 dX7_readTableLine_25 rfl rfl ?_
      refine ev_bipush (v := 6) dX7_readTableLine_26 (by decide) ?_
      refine ev_icmp_ne (tgt := 33) dX7_readTableLine_28 (by decide) (fun c2 => ?_) (fun c2 => ?_)
      · have h := if_f c2 h
        refine ev_aload_n 0 dX7_readTableLine_33 rfl rfl ?_
        refine ev_getR (r := 63) dX7_readTableLine_34 fl_X7_15 (by decide) rfl (by decide) (by decide) rfl ?_
        refine ev_aload_n 0 dX7_readTableLine_37 rfl rfl ?_
        refine ev_getI dX7_readTableLine_38 fl_X7_28 (by decide) rfl (by decide) (by decide) rfl ?_
        refine ev_iload_n 1 dX7_readTableLine_41 rfl rfl ?_
        obtain ⟨c3, h⟩ := if_c h
        refine ev_iastc 8 dX7_readTableLine_42 (by decide) rfl rfl (by decide) c3 ?_
        refine ev_aload_n 0 dX7_readTableLine_43 rfl rfl ?_
        refine ev_getR (r := 64) dX7_readTableLine_44 fl_X7_18 (by decide) rfl (by decide) (by decide) rfl ?_
        refine ev_aload_n 0 dX7_readTableLine_47 rfl rfl ?_
        refine ev_getI dX7_readTableLine_48 fl_X7_28 (by decide) rfl (by decide) (by decide) rfl ?_
        refine ev_aload_n 0 dX7_readTableLine_51 rfl rfl ?_
        refine ev_iconst (v := 0) dX7_readTableLine_52 (by decide) ?_
        refine ev_bipush (v := 99) dX7_readTableLine_53 (by decide) ?_
        obtain ⟨q4, e5, h⟩ := bd_c h
        refine ev_callVi (av := [.int ((0 : Int32)), .int ((99 : Int32))]) dX7_readTableLine_55 (c_X7_passNumber n ((0 : Int32)) ((99 : Int32))  (st2 A 63 (A 61 5).toNatClampNeg x1) q4 e5) mk_X7_passNumber lk_X7_57 iv_X7_passNumber (Or.inl ⟨7, _, by decide, rfl, by decide, rfl, rfl⟩) rfl (by decide) (by decide) (Nat.le_of_ble_eq_true rfl) rfl ?_
        obtain ⟨c6, h⟩ := if_c h
        refine ev_iastc 8 dX7_readTableLine_58 (by decide) rfl rfl (by decide) c6 ?_
        refine ev_aload_n 0 dX7_readTableLine_59 rfl rfl ?_
        refine ev_getR (r := 64) dX7_readTableLine_60 fl_X7_18 (by decide) rfl (by decide) (by decide) rfl ?_
        refine ev_aload_n 0 dX7_readTableLine_63 rfl rfl ?_
        refine ev_getI dX7_readTableLine_64 fl_X7_28 (by decide) rfl (by decide) (by decide) rfl ?_
        obtain ⟨c7, h⟩ := if_c h
        refine ev_ialdc 8 dX7_readTableLine_67 (by decide) rfl rfl (by decide) c7 ?_
        refine ev_iconst (v := -1) dX7_readTableLine_68 (by decide) ?_
        refine ev_icmp_eq (tgt := 76) dX7_readTableLine_69 (by decide) (fun c8 => ?_) (fun c8 => ?_)
        · have h := if_t c8 h
          refine ev_iconst (v := 0) dX7_readTableLine_76 (by decide) ?_
          cases h
          exact ev_iret dX7_readTableLine_77 rfl rfl ⟨rfl, rfl⟩
        · have h := if_f c8 h
          refine ev_iconst (v := 1) dX7_readTableLine_72 (by decide) ?_
          refine ev_goto (tgt := 77) dX7_readTableLine_73 (by decide) ?_
          cases h
          exact ev_iret dX7_readTableLine_77 rfl rfl ⟨rfl, rfl⟩
      · have h := if_t c2 h
        refine ev_iconst (v := 0) dX7_readTableLine_31 (by decide) ?_
        cases h
        exact ev_iret dX7_readTableLine_32 rfl rfl ⟨rfl, rfl⟩
    · have h := if_f c1 h
      refine ev_aload_n 0 dX7_readTableLine_8 rfl rfl ?_
      refine ev_iload_n 1 dX7_readTableLine_9 rfl rfl ?_
      refine ev_callSr (av := [.int x1]) dX7_readTableLine_10 (c_tw x1 A) mk_X7_tableWord lk_X7_65 is_X7_tableWord rfl (by decide) (by decide) (Nat.le_of_ble_eq_true rfl) rfl ?_
      obtain ⟨q9, e10, h⟩ := bd_c h
      refine ev_callVi (av := [.ref (1000000 + (twi x1))]) dX7_readTableLine_13 (c_X7_passWord n (twi x1) (twi_lt x1) A q9 e10) mk_X7_passWord lk_X7_51 iv_X7_passWord (Or.inl ⟨7, _, by decide, rfl, by decide, rfl, rfl⟩) rfl (by decide) (by decide) (Nat.le_of_ble_eq_true rfl) rfl ?_
      refine ev_if_ne (tgt := 25) dX7_readTableLine_16 (by decide) (fun c11 => ?_) (fun c11 => ?_)
      · have h := if_f c11 h
        refine ev_iload_n 1 dX7_readTableLine_25 rfl rfl ?_
        refine ev_bipush (v := 6) dX7_readTableLine_26 (by decide) ?_
        refine ev_icmp_ne (tgt := 33) dX7_readTableLine_28 (by decide) (fun c12 => ?_) (fun c12 => ?_)
        · have h := if_f c12 h
          refine ev_aload_n 0 dX7_readTableLine_33 rfl rfl ?_
          refine ev_getR (r := 63) dX7_readTableLine_34 fl_X7_15 (by decide) rfl (by decide) (by decide) rfl ?_
          refine ev_aload_n 0 dX7_readTableLine_37 rfl rfl ?_
          refine ev_getI dX7_readTableLine_38 fl_X7_28 (by decide) rfl (by decide) (by decide) rfl ?_
          refine ev_iload_n 1 dX7_readTableLine_41 rfl rfl ?_
          obtain ⟨c13, h⟩ := if_c h
          refine ev_iastc 8 dX7_readTableLine_42 (by decide) rfl rfl (by decide) c13 ?_
          refine ev_aload_n 0 dX7_readTableLine_43 rfl rfl ?_
          refine ev_getR (r := 64) dX7_readTableLine_44 fl_X7_18 (by decide) rfl (by decide) (by decide) rfl ?_
          refine ev_aload_n 0 dX7_readTableLine_47 rfl rfl ?_
          refine ev_getI dX7_readTableLine_48 fl_X7_28 (by decide) rfl (by decide) (by decide) rfl ?_
          refine ev_aload_n 0 dX7_readTableLine_51 rfl rfl ?_
          refine ev_iconst (v := 0) dX7_readTableLine_52 (by decide) ?_
          refine ev_bipush (v := 99) dX7_readTableLine_53 (by decide) ?_
          obtain ⟨q14, e15, h⟩ := bd_c h
          refine ev_callVi (av := [.int ((0 : Int32)), .int ((99 : Int32))]) dX7_readTableLine_55 (c_X7_passNumber n ((0 : Int32)) ((99 : Int32))  (st2 q9.2 63 (q9.2 61 5).toNatClampNeg x1) q14 e15) mk_X7_passNumber lk_X7_57 iv_X7_passNumber (Or.inl ⟨7, _, by decide, rfl, by decide, rfl, rfl⟩) rfl (by decide) (by decide) (Nat.le_of_ble_eq_true rfl) rfl ?_
          obtain ⟨c16, h⟩ := if_c h
          refine ev_iastc 8 dX7_readTableLine_58 (by decide) rfl rfl (by decide) c16 ?_
          refine ev_aload_n 0 dX7_readTableLine_59 rfl rfl ?_
          refine ev_getR (r := 64) dX7_readTableLine_60 fl_X7_18 (by decide) rfl (by decide) (by decide) rfl ?_
          refine ev_aload_n 0 dX7_readTableLine_63 rfl rfl ?_
          refine ev_getI dX7_readTableLine_64 fl_X7_28 (by decide) rfl (by decide) (by decide) rfl ?_
          obtain ⟨c17, h⟩ := if_c h
          refine ev_ialdc 8 dX7_readTableLine_67 (by decide) rfl rfl (by decide) c17 ?_
          refine ev_iconst (v := -1) dX7_readTableLine_68 (by decide) ?_
          refine ev_icmp_eq (tgt := 76) dX7_readTableLine_69 (by decide) (fun c18 => ?_) (fun c18 => ?_)
          · have h := if_t c18 h
            refine ev_iconst (v := 0) dX7_readTableLine_76 (by decide) ?_
            cases h
            exact ev_iret dX7_readTableLine_77 rfl rfl ⟨rfl, rfl⟩
          · have h := if_f c18 h
            refine ev_iconst (v := 1) dX7_readTableLine_72 (by decide) ?_
            refine ev_goto (tgt := 77) dX7_readTableLine_73 (by decide) ?_
            cases h
            exact ev_iret dX7_readTableLine_77 rfl rfl ⟨rfl, rfl⟩
        · have h := if_t c12 h
          refine ev_iconst (v := 0) dX7_readTableLine_31 (by decide) ?_
          cases h
          exact ev_iret dX7_readTableLine_32 rfl rfl ⟨rfl, rfl⟩
      · have h := if_t c11 h
        refine ev_iinc (v := x1 + 1) (ls' := [(1, .int (x1 + 1)), (0, .ref 61)]) 1 dX7_readTableLine_19 rfl rfl (by decide) rfl ?_
        refine ev_goto (tgt := 2) dX7_readTableLine_22 (by decide) ?_
        refine ev_pick [1, 0] (ls' := [(0, .ref 61), (1, .int (x1 + 1))]) rfl ?_
        exact ih (x1 + 1) _ q h
def f_X7_readTableLine (n : Nat) (A : Mem) : Option (Int32 × Mem) :=
  g_X7_readTableLine_2 n  n ((0 : Int32)) A
set_option maxRecDepth 100000 in
set_option maxHeartbeats 4000000 in
theorem c_X7_readTableLine (n : Nat) (A : Mem) (q : Int32 × Mem) (h : f_X7_readTableLine n  A = some q) : Ct yX7_readTableLine cX7_readTableLine 2 (some .boolean) 5 [.ref 61] A (RI q) := by
  unfold f_X7_readTableLine at h
  refine ct_of (by decide) (Nat.le_of_ble_eq_true rfl) ?_
  show Ev cX7_readTableLine 2 RX7 (some .boolean) 5 none 0 [(0, .ref 61)] [] A (RI q)
  refine ev_iconst (v := 0) dX7_readTableLine_0 (by decide) ?_
  refine ev_istore_n (ls' := [(1, .int ((0 : Int32))), (0, .ref 61)]) dX7_readTableLine_1 rfl (by decide) rfl ?_
  refine ev_pick [1, 0] (ls' := [(0, .ref 61), (1, .int ((0 : Int32)))]) rfl ?_
  exact (l_X7_readTableLine_2 n   n) ((0 : Int32)) _ q h
def f_X7_readLifeLine (n : Nat) (A : Mem) : Option (Int32 × Mem) :=
  (f_X7_passWord n 0 A).bind fun q1 =>
  if q1.1 = 0 then
    some ((0 : Int32), q1.2)
  else
    (f_X7_passNumber n ((0 : Int32)) ((7 : Int32)) q1.2).bind fun q4 =>
    if ¬ (q1.2 61 5) < 0 ∧ (q1.2 61 5).toNatClampNeg < 8 then
      if ¬ ((st2 q4.2 63 (q1.2 61 5).toNatClampNeg q4.1) 61 5) < 0 ∧ ((st2 q4.2 63 (q1.2 61 5).toNatClampNeg q4.1) 61 5).toNatClampNeg < 8 then
        if ((st2 q4.2 63 (q1.2 61 5).toNatClampNeg q4.1) 63 ((st2 q4.2 63 (q1.2 61 5).toNatClampNeg q4.1) 61 5).toNatClampNeg) = ((-1 : Int32)) then
          some ((0 : Int32), st2 q4.2 63 (q1.2 61 5).toNatClampNeg q4.1)
        else
          (f_X7_passWord n 1 (st2 q4.2 63 (q1.2 61 5).toNatClampNeg q4.1)).bind fun q9 =>
          if q9.1 = 0 then
            some ((0 : Int32), q9.2)
          else
            (f_X7_passNumber n ((0 : Int32)) ((60 : Int32)) q9.2).bind fun q12 =>
            if ¬ (q9.2 61 5) < 0 ∧ (q9.2 61 5).toNatClampNeg < 8 then
              if ¬ ((st2 q12.2 64 (q9.2 61 5).toNatClampNeg q12.1) 61 5) < 0 ∧ ((st2 q12.2 64 (q9.2 61 5).toNatClampNeg q12.1) 61 5).toNatClampNeg < 8 then
                if ((st2 q12.2 64 (q9.2 61 5).toNatClampNeg q12.1) 64 ((st2 q12.2 64 (q9.2 61 5).toNatClampNeg q12.1) 61 5).toNatClampNeg) = ((-1 : Int32)) then
                  some ((0 : Int32), st2 q12.2 64 (q9.2 61 5).toNatClampNeg q12.1)
                else
                  (f_X7_passWord n 2 (st2 q12.2 64 (q9.2 61 5).toNatClampNeg q12.1)).bind fun q17 =>
                  if q17.1 = 0 then
                    some ((0 : Int32), q17.2)
                  else
                    if ¬ (q17.2 61 5) < 0 ∧ (q17.2 61 5).toNatClampNeg < 8 then
                      (f_X7_passNumber n (q17.2 64 (q17.2 61 5).toNatClampNeg) ((60 : Int32)) q17.2).bind fun q21 =>
                      if ¬ ((st2 q21.2 65 (q17.2 61 5).toNatClampNeg q21.1) 61 5) < 0 ∧ ((st2 q21.2 65 (q17.2 61 5).toNatClampNeg q21.1) 61 5).toNatClampNeg < 8 then
                        if ((st2 q21.2 65 (q17.2 61 5).toNatClampNeg q21.1) 65 ((st2 q21.2 65 (q17.2 61 5).toNatClampNeg q21.1) 61 5).toNatClampNeg) = ((-1 : Int32)) then
                          some ((0 : Int32), st2 q21.2 65 (q17.2 61 5).toNatClampNeg q21.1)
                        else
                          some ((1 : Int32), st2 q21.2 65 (q17.2 61 5).toNatClampNeg q21.1)
                      else
                        none
                    else
                      none
              else
                none
            else
              none
      else
        none
    else
      none
set_option maxRecDepth 100000 in
set_option maxHeartbeats 4000000 in
theorem c_X7_readLifeLine (n : Nat) (A : Mem) (q : Int32 × Mem) (h : f_X7_readLifeLine n  A = some q) : Ct yX7_readLifeLine cX7_readLifeLine 1 (some .boolean) 5 [.ref 61] A (RI q) := by
  unfold f_X7_readLifeLine at h
  refine ct_of (by decide) (Nat.le_of_ble_eq_true rfl) ?_
  show Ev cX7_readLifeLine 1 RX7 (some .boolean) 5 none 0 [(0, .ref 61)] [] A (RI q)
  refine ev_aload_n 0 dX7_readLifeLine_0 rfl rfl ?_
  refine ev_ldcS 0 dX7_readLifeLine_1 (by decide) rfl ?_
  obtain ⟨q1, e2, h⟩ := bd_c h
  refine ev_callVi (av := [.ref 1000000]) dX7_readLifeLine_3 (c_X7_passWord n 0 (by decide) A q1 e2) mk_X7_passWord lk_X7_51 iv_X7_passWord (Or.inl ⟨7, _, by decide, rfl, by decide, rfl, rfl⟩) rfl (by decide) (by decide) (Nat.le_of_ble_eq_true rfl) rfl ?_
  refine ev_if_ne (tgt := 11) dX7_readLifeLine_6 (by decide) (fun c3 => ?_) (fun c3 => ?_)
  · have h := if_f c3 h
    refine ev_aload_n 0 dX7_readLifeLine_11 rfl rfl ?_
    refine ev_getR (r := 63) dX7_readLifeLine_12 fl_X7_15 (by decide) rfl (by decide) (by decide) rfl ?_
    refine ev_aload_n 0 dX7_readLifeLine_15 rfl rfl ?_
    refine ev_getI dX7_readLifeLine_16 fl_X7_28 (by decide) rfl (by decide) (by decide) rfl ?_
    refine ev_aload_n 0 dX7_readLifeLine_19 rfl rfl ?_
    refine ev_iconst (v := 0) dX7_readLifeLine_20 (by decide) ?_
    refine ev_bipush (v := 7) dX7_readLifeLine_21 (by decide) ?_
    obtain ⟨q4, e5, h⟩ := bd_c h
    refine ev_callVi (av := [.int ((0 : Int32)), .int ((7 : Int32))]) dX7_readLifeLine_23 (c_X7_passNumber n ((0 : Int32)) ((7 : Int32))  q1.2 q4 e5) mk_X7_passNumber lk_X7_57 iv_X7_passNumber (Or.inl ⟨7, _, by decide, rfl, by decide, rfl, rfl⟩) rfl (by decide) (by decide) (Nat.le_of_ble_eq_true rfl) rfl ?_
    obtain ⟨c6, h⟩ := if_c h
    refine ev_iastc 8 dX7_readLifeLine_26 (by decide) rfl rfl (by decide) c6 ?_
    refine ev_aload_n 0 dX7_readLifeLine_27 rfl rfl ?_
    refine ev_getR (r := 63) dX7_readLifeLine_28 fl_X7_15 (by decide) rfl (by decide) (by decide) rfl ?_
    refine ev_aload_n 0 dX7_readLifeLine_31 rfl rfl ?_
    refine ev_getI dX7_readLifeLine_32 fl_X7_28 (by decide) rfl (by decide) (by decide) rfl ?_
    obtain ⟨c7, h⟩ := if_c h
    refine ev_ialdc 8 dX7_readLifeLine_35 (by decide) rfl rfl (by decide) c7 ?_
    refine ev_iconst (v := -1) dX7_readLifeLine_36 (by decide) ?_
    refine ev_icmp_eq (tgt := 49) dX7_readLifeLine_37 (by decide) (fun c8 => ?_) (fun c8 => ?_)
    · have h := if_t c8 h
      refine ev_iconst (v := 0) dX7_readLifeLine_49 (by decide) ?_
      cases h
      exact ev_iret dX7_readLifeLine_50 rfl rfl ⟨rfl, rfl⟩
    · have h := if_f c8 h
      refine ev_aload_n 0 dX7_readLifeLine_40 rfl rfl ?_
      refine ev_ldcS 1 dX7_readLifeLine_41 (by decide) rfl ?_
      obtain ⟨q9, e10, h⟩ := bd_c h
      refine ev_callVi (av := [.ref 1000001]) dX7_readLifeLine_43 (c_X7_passWord n 1 (by decide) (st2 q4.2 63 (q1.2 61 5).toNatClampNeg q4.1) q9 e10) mk_X7_passWord lk_X7_51 iv_X7_passWord (Or.inl ⟨7, _, by decide, rfl, by decide, rfl, rfl⟩) rfl (by decide) (by decide) (Nat.le_of_ble_eq_true rfl) rfl ?_
      refine ev_if_ne (tgt := 51) dX7_readLifeLine_46 (by decide) (fun c11 => ?_) (fun c11 => ?_)
      · have h := if_f c11 h
        refine ev_aload_n 0 dX7_readLifeLine_51 rfl rfl ?_
        refine ev_getR (r := 64) dX7_readLifeLine_52 fl_X7_18 (by decide) rfl (by decide) (by decide) rfl ?_
        refine ev_aload_n 0 dX7_readLifeLine_55 rfl rfl ?_
        refine ev_getI dX7_readLifeLine_56 fl_X7_28 (by decide) rfl (by decide) (by decide) rfl ?_
        refine ev_aload_n 0 dX7_readLifeLine_59 rfl rfl ?_
        refine ev_iconst (v := 0) dX7_readLifeLine_60 (by decide) ?_
        refine ev_bipush (v := 60) dX7_readLifeLine_61 (by decide) ?_
        obtain ⟨q12, e13, h⟩ := bd_c h
        refine ev_callVi (av := [.int ((0 : Int32)), .int ((60 : Int32))]) dX7_readLifeLine_63 (c_X7_passNumber n ((0 : Int32)) ((60 : Int32))  q9.2 q12 e13) mk_X7_passNumber lk_X7_57 iv_X7_passNumber (Or.inl ⟨7, _, by decide, rfl, by decide, rfl, rfl⟩) rfl (by decide) (by decide) (Nat.le_of_ble_eq_true rfl) rfl ?_
        obtain ⟨c14, h⟩ := if_c h
        refine ev_iastc 8 dX7_readLifeLine_66 (by decide) rfl rfl (by decide) c14 ?_
        refine ev_aload_n 0 dX7_readLifeLine_67 rfl rfl ?_
        refine ev_getR (r := 64) dX7_readLifeLine_68 fl_X7_18 (by decide) rfl (by decide) (by decide) rfl ?_
        refine ev_aload_n 0 dX7_readLifeLine_71 rfl rfl ?_
        refine ev_getI dX7_readLifeLine_72 fl_X7_28 (by decide) rfl (by decide) (by decide) rfl ?_
        obtain ⟨c15, h⟩ := if_c h
        refine ev_ialdc 8 dX7_readLifeLine_75 (by decide) rfl rfl (by decide) c15 ?_
        refine ev_iconst (v := -1) dX7_readLifeLine_76 (by decide) ?_
        refine ev_icmp_eq (tgt := 89) dX7_readLifeLine_77 (by decide) (fun c16 => ?_) (fun c16 => ?_)
        · have h := if_t c16 h
          refine ev_iconst (v := 0) dX7_readLifeLine_89 (by decide) ?_
          cases h
          exact ev_iret dX7_readLifeLine_90 rfl rfl ⟨rfl, rfl⟩
        · have h := if_f c16 h
          refine ev_aload_n 0 dX7_readLifeLine_80 rfl rfl ?_
          refine ev_ldcS 2 dX7_readLifeLine_81 (by decide) rfl ?_
          obtain ⟨q17, e18, h⟩ := bd_c h
          refine ev_callVi (av := [.ref 1000002]) dX7_readLifeLine_83 (c_X7_passWord n 2 (by decide) (st2 q12.2 64 (q9.2 61 5).toNatClampNeg q12.1) q17 e18) mk_X7_passWord lk_X7_51 iv_X7_passWord (Or.inl ⟨7, _, by decide, rfl, by decide, rfl, rfl⟩) rfl (by decide) (by decide) (Nat.le_of_ble_eq_true rfl) rfl ?_
          refine ev_if_ne (tgt := 91) dX7_readLifeLine_86 (by decide) (fun c19 => ?_) (fun c19 => ?_)
          · have h := if_f c19 h
            refine ev_aload_n 0 dX7_readLifeLine_91 rfl rfl ?_
            refine ev_getR (r := 65) dX7_readLifeLine_92 fl_X7_21 (by decide) rfl (by decide) (by decide) rfl ?_
            refine ev_aload_n 0 dX7_readLifeLine_95 rfl rfl ?_
            refine ev_getI dX7_readLifeLine_96 fl_X7_28 (by decide) rfl (by decide) (by decide) rfl ?_
            refine ev_aload_n 0 dX7_readLifeLine_99 rfl rfl ?_
            refine ev_aload_n 0 dX7_readLifeLine_100 rfl rfl ?_
            refine ev_getR (r := 64) dX7_readLifeLine_101 fl_X7_18 (by decide) rfl (by decide) (by decide) rfl ?_
            refine ev_aload_n 0 dX7_readLifeLine_104 rfl rfl ?_
            refine ev_getI dX7_readLifeLine_105 fl_X7_28 (by decide) rfl (by decide) (by decide) rfl ?_
            obtain ⟨c20, h⟩ := if_c h
            refine ev_ialdc 8 dX7_readLifeLine_108 (by decide) rfl rfl (by decide) c20 ?_
            refine ev_bipush (v := 60) dX7_readLifeLine_109 (by decide) ?_
            obtain ⟨q21, e22, h⟩ := bd_c h
            refine ev_callVi (av := [.int (q17.2 64 (q17.2 61 5).toNatClampNeg), .int ((60 : Int32))]) dX7_readLifeLine_111 (c_X7_passNumber n (q17.2 64 (q17.2 61 5).toNatClampNeg) ((60 : Int32))  q17.2 q21 e22) mk_X7_passNumber lk_X7_57 iv_X7_passNumber (Or.inl ⟨7, _, by decide, rfl, by decide, rfl, rfl⟩) rfl (by decide) (by decide) (Nat.le_of_ble_eq_true rfl) rfl ?_
            refine ev_iastc 8 dX7_readLifeLine_114 (by decide) rfl rfl (by decide) c20 ?_
            refine ev_aload_n 0 dX7_readLifeLine_115 rfl rfl ?_
            refine ev_getR (r := 65) dX7_readLifeLine_116 fl_X7_21 (by decide) rfl (by decide) (by decide) rfl ?_
            refine ev_aload_n 0 dX7_readLifeLine_119 rfl rfl ?_
            refine ev_getI dX7_readLifeLine_120 fl_X7_28 (by decide) rfl (by decide) (by decide) rfl ?_
            obtain ⟨c23, h⟩ := if_c h
            refine ev_ialdc 8 dX7_readLifeLine_123 (by decide) rfl rfl (by decide) c23 ?_
            refine ev_iconst (v := -1) dX7_readLifeLine_124 (by decide) ?_
            refine ev_icmp_eq (tgt := 132) dX7_readLifeLine_125 (by decide) (fun c24 => ?_) (fun c24 => ?_)
            · have h := if_t c24 h
              refine ev_iconst (v := 0) dX7_readLifeLine_132 (by decide) ?_
              cases h
              exact ev_iret dX7_readLifeLine_133 rfl rfl ⟨rfl, rfl⟩
            · have h := if_f c24 h
              refine ev_iconst (v := 1) dX7_readLifeLine_128 (by decide) ?_
              refine ev_goto (tgt := 133) dX7_readLifeLine_129 (by decide) ?_
              cases h
              exact ev_iret dX7_readLifeLine_133 rfl rfl ⟨rfl, rfl⟩
          · have h := if_t c19 h
            refine ev_iconst (v := 0) dX7_readLifeLine_89 (by decide) ?_
            cases h
            exact ev_iret dX7_readLifeLine_90 rfl rfl ⟨rfl, rfl⟩
      · have h := if_t c11 h
        refine ev_iconst (v := 0) dX7_readLifeLine_49 (by decide) ?_
        cases h
        exact ev_iret dX7_readLifeLine_50 rfl rfl ⟨rfl, rfl⟩
  · have h := if_t c3 h
    refine ev_iconst (v := 0) dX7_readLifeLine_9 (by decide) ?_
    cases h
    exact ev_iret dX7_readLifeLine_10 rfl rfl ⟨rfl, rfl⟩
def g_X7_firstFault_14 (n : Nat) : Nat → Int32 → Mem → Option (Int32 × Mem)
  | 0, _, _ => none
  | m + 1, x1, A =>
    if ((8 : Int32)) ≤ (A 61 5) then
      some (A 61 6, A)
    else
      if x1 = 0 then
        (f_X7_readTableLine n  A).bind fun q5 =>
        if q5.1 = 0 then
          some (q5.2 61 6, q5.2)
        else
          if ((st2 q5.2 61 5 ((q5.2 61 5) + ((1 : Int32)))) 61 6) = ((st2 q5.2 61 5 ((q5.2 61 5) + ((1 : Int32)))) 61 4) then
            some ((-1 : Int32), st2 q5.2 61 5 ((q5.2 61 5) + ((1 : Int32))))
          else
            if ((st2 q5.2 61 5 ((q5.2 61 5) + ((1 : Int32)))) 61 5) = ((8 : Int32)) then
              some ((st2 q5.2 61 5 ((q5.2 61 5) + ((1 : Int32)))) 61 6, st2 q5.2 61 5 ((q5.2 61 5) + ((1 : Int32))))
            else
              (f_X7_passWord n 9 (st2 q5.2 61 5 ((q5.2 61 5) + ((1 : Int32))))).bind fun q10 =>
              if q10.1 = 0 then
                some (q10.2 61 6, q10.2)
              else
                g_X7_firstFault_14 n  m x1 q10.2
      else
        (f_X7_readLifeLine n  A).bind fun q13 =>
        if q13.1 = 0 then
          some (q13.2 61 6, q13.2)
        else
          if ((st2 q13.2 61 5 ((q13.2 61 5) + ((1 : Int32)))) 61 6) = ((st2 q13.2 61 5 ((q13.2 61 5) + ((1 : Int32)))) 61 4) then
            some ((-1 : Int32), st2 q13.2 61 5 ((q13.2 61 5) + ((1 : Int32))))
          else
            if ((st2 q13.2 61 5 ((q13.2 61 5) + ((1 : Int32)))) 61 5) = ((8 : Int32)) then
              some ((st2 q13.2 61 5 ((q13.2 61 5) + ((1 : Int32)))) 61 6, st2 q13.2 61 5 ((q13.2 61 5) + ((1 : Int32))))
            else
              (f_X7_passWord n 9 (st2 q13.2 61 5 ((q13.2 61 5) + ((1 : Int32))))).bind fun q18 =>
              if q18.1 = 0 then
                some (q18.2 61 6, q18.2)
              else
                g_X7_firstFault_14 n  m x1 q18.2
set_option maxRecDepth 100000 in
set_option maxHeartbeats 4000000 in
theorem l_X7_firstFault_14 (n : Nat) : ∀ (m : Nat) (x1 : Int32) (A : Mem) (q : Int32 × Mem), g_X7_firstFault_14 n  m x1 A = some q → Ev cX7_firstFault 2 RX7 (some .int) 6 none 14 [(0, .ref 61), (1, .int x1)] [] A (RI q) := by
  intro m
  induction m with
  | zero => intro x1 A q h; exact absurd h (by simp [g_X7_firstFault_14])
  | succ m ih =>
    intro x1 A q h
    rw [g_X7_firstFault_14] at h
    refine ev_aload_n 0 dX7_firstFault_14 rfl rfl ?_
    refine ev_getI dX7_firstFault_15 fl_X7_28 (by decide) rfl (by decide) (by decide) rfl ?_
    refine ev_bipush (v := 8) dX7_firstFault_18 (by decide) ?_
    refine ev_icmp_ge (tgt := 95) dX7_firstFault_20 (by decide) (fun c3 => ?_) (fun c3 => ?_)
    · have h := if_t c3 h
      refine ev_aload_n 0 dX7_firstFault_95 rfl rfl ?_
      refine ev_getI dX7_firstFault_96 fl_X7_31 (by decide) rfl (by decide) (by decide) rfl ?_
      cases h
      exact ev_iret dX7_firstFault_99 rfl rfl ⟨rfl, rfl⟩
    · have h := if_f c3 h
      refine ev_iload_n 1 dX7_firstFault_23 rfl rfl ?_
      refine ev_if_eq (tgt := 37) dX7_firstFault_24 (by decide) (fun c4 => ?_) (fun c4 => ?_)
      · have h := if_t c4 h
        refine ev_aload_n 0 dX7_firstFault_37 rfl rfl ?_
        obtain ⟨q5, e6, h⟩ := bd_c h
        refine ev_callVi (av := []) dX7_firstFault_38 (c_X7_readTableLine n   A q5 e6) mk_X7_readTableLine lk_X7_46 iv_X7_readTableLine (Or.inl ⟨7, _, by decide, rfl, by decide, rfl, rfl⟩) rfl (by decide) (by decide) (Nat.le_of_ble_eq_true rfl) rfl ?_
        refine ev_if_ne (tgt := 49) dX7_firstFault_41 (by decide) (fun c7 => ?_) (fun c7 => ?_)
        · have h := if_f c7 h
          refine ev_aload_n 0 dX7_firstFault_49 rfl rfl ?_
          refine ev_dup dX7_firstFault_50 rfl ?_
          refine ev_getI dX7_firstFault_51 fl_X7_28 (by decide) rfl (by decide) (by decide) rfl ?_
          refine ev_iconst (v := 1) dX7_firstFault_54 (by decide) ?_
          refine ev_iadd dX7_firstFault_55 ?_
          refine ev_put2 dX7_firstFault_56 fl_X7_28 pk_7_5 (by decide) rfl (by decide) (by decide) rfl ?_
          refine ev_aload_n 0 dX7_firstFault_59 rfl rfl ?_
          refine ev_getI dX7_firstFault_60 fl_X7_31 (by decide) rfl (by decide) (by decide) rfl ?_
          refine ev_aload_n 0 dX7_firstFault_63 rfl rfl ?_
          refine ev_getI dX7_firstFault_64 fl_X7_24 (by decide) rfl (by decide) (by decide) rfl ?_
          refine ev_icmp_ne (tgt := 72) dX7_firstFault_67 (by decide) (fun c8 => ?_) (fun c8 => ?_)
          · have h := if_f c8 h
            refine ev_aload_n 0 dX7_firstFault_72 rfl rfl ?_
            refine ev_getI dX7_firstFault_73 fl_X7_28 (by decide) rfl (by decide) (by decide) rfl ?_
            refine ev_bipush (v := 8) dX7_firstFault_76 (by decide) ?_
            refine ev_icmp_eq (tgt := 90) dX7_firstFault_78 (by decide) (fun c9 => ?_) (fun c9 => ?_)
            · have h := if_t c9 h
              refine ev_aload_n 0 dX7_firstFault_90 rfl rfl ?_
              refine ev_getI dX7_firstFault_91 fl_X7_31 (by decide) rfl (by decide) (by decide) rfl ?_
              cases h
              exact ev_iret dX7_firstFault_94 rfl rfl ⟨rfl, rfl⟩
            · have h := if_f c9 h
              refine ev_aload_n 0 dX7_firstFault_81 rfl rfl ?_
              refine ev_ldcS 9 dX7_firstFault_82 (by decide) rfl ?_
              obtain ⟨q10, e11, h⟩ := bd_c h
              refine ev_callVi (av := [.ref 1000009]) dX7_firstFault_84 (c_X7_passWord n 9 (by decide) (st2 q5.2 61 5 ((q5.2 61 5) + ((1 : Int32)))) q10 e11) mk_X7_passWord lk_X7_51 iv_X7_passWord (Or.inl ⟨7, _, by decide, rfl, by decide, rfl, rfl⟩) rfl (by decide) (by decide) (Nat.le_of_ble_eq_true rfl) rfl ?_
              refine ev_if_ne (tgt := 14) dX7_firstFault_87 (by decide) (fun c12 => ?_) (fun c12 => ?_)
              · have h := if_f c12 h
                exact ih x1 _ q h
              · have h := if_t c12 h
                refine ev_aload_n 0 dX7_firstFault_90 rfl rfl ?_
                refine ev_getI dX7_firstFault_91 fl_X7_31 (by decide) rfl (by decide) (by decide) rfl ?_
                cases h
                exact ev_iret dX7_firstFault_94 rfl rfl ⟨rfl, rfl⟩
          · have h := if_t c8 h
            refine ev_iconst (v := -1) dX7_firstFault_70 (by decide) ?_
            cases h
            exact ev_iret dX7_firstFault_71 rfl rfl ⟨rfl, rfl⟩
        · have h := if_t c7 h
          refine ev_aload_n 0 dX7_firstFault_44 rfl rfl ?_
          refine ev_getI dX7_firstFault_45 fl_X7_31 (by decide) rfl (by decide) (by decide) rfl ?_
          cases h
          exact ev_iret dX7_firstFault_48 rfl rfl ⟨rfl, rfl⟩
      · have h := if_f c4 h
        refine ev_aload_n 0 dX7_firstFault_27 rfl rfl ?_
        obtain ⟨q13, e14, h⟩ := bd_c h
        refine ev_callVi (av := []) dX7_firstFault_28 (c_X7_readLifeLine n   A q13 e14) mk_X7_readLifeLine lk_X7_42 iv_X7_readLifeLine (Or.inl ⟨7, _, by decide, rfl, by decide, rfl, rfl⟩) rfl (by decide) (by decide) (Nat.le_of_ble_eq_true rfl) rfl ?_
        refine ev_if_eq (tgt := 44) dX7_firstFault_31 (by decide) (fun c15 => ?_) (fun c15 => ?_)
        · have h := if_t c15 h
          refine ev_aload_n 0 dX7_firstFault_44 rfl rfl ?_
          refine ev_getI dX7_firstFault_45 fl_X7_31 (by decide) rfl (by decide) (by decide) rfl ?_
          cases h
          exact ev_iret dX7_firstFault_48 rfl rfl ⟨rfl, rfl⟩
        · have h := if_f c15 h
          refine ev_goto (tgt := 49) dX7_firstFault_34 (by decide) ?_
          refine ev_aload_n 0 dX7_firstFault_49 rfl rfl ?_
          refine ev_dup dX7_firstFault_50 rfl ?_
          refine ev_getI dX7_firstFault_51 fl_X7_28 (by decide) rfl (by decide) (by decide) rfl ?_
          refine ev_iconst (v := 1) dX7_firstFault_54 (by decide) ?_
          refine ev_iadd dX7_firstFault_55 ?_
          refine ev_put2 dX7_firstFault_56 fl_X7_28 pk_7_5 (by decide) rfl (by decide) (by decide) rfl ?_
          refine ev_aload_n 0 dX7_firstFault_59 rfl rfl ?_
          refine ev_getI dX7_firstFault_60 fl_X7_31 (by decide) rfl (by decide) (by decide) rfl ?_
          refine ev_aload_n 0 dX7_firstFault_63 rfl rfl ?_
          refine ev_getI dX7_firstFault_64 fl_X7_24 (by decide) rfl (by decide) (by decide) rfl ?_
          refine ev_icmp_ne (tgt := 72) dX7_firstFault_67 (by decide) (fun c16 => ?_) (fun c16 => ?_)
          · have h := if_f c16 h
            refine ev_aload_n 0 dX7_firstFault_72 rfl rfl ?_
            refine ev_getI dX7_firstFault_73 fl_X7_28 (by decide) rfl (by decide) (by decide) rfl ?_
            refine ev_bipush (v := 8) dX7_firstFault_76 (by decide) ?_
            refine ev_icmp_eq (tgt := 90) dX7_firstFault_78 (by decide) (fun c17 => ?_) (fun c17 => ?_)
            · have h := if_t c17 h
              refine ev_aload_n 0 dX7_firstFault_90 rfl rfl ?_
              refine ev_getI dX7_firstFault_91 fl_X7_31 (by decide) rfl (by decide) (by decide) rfl ?_
              cases h
              exact ev_iret dX7_firstFault_94 rfl rfl ⟨rfl, rfl⟩
            · have h := if_f c17 h
              refine ev_aload_n 0 dX7_firstFault_81 rfl rfl ?_
              refine ev_ldcS 9 dX7_firstFault_82 (by decide) rfl ?_
              obtain ⟨q18, e19, h⟩ := bd_c h
              refine ev_callVi (av := [.ref 1000009]) dX7_firstFault_84 (c_X7_passWord n 9 (by decide) (st2 q13.2 61 5 ((q13.2 61 5) + ((1 : Int32)))) q18 e19) mk_X7_passWord lk_X7_51 iv_X7_passWord (Or.inl ⟨7, _, by decide, rfl, by decide, rfl, rfl⟩) rfl (by decide) (by decide) (Nat.le_of_ble_eq_true rfl) rfl ?_
              refine ev_if_ne (tgt := 14) dX7_firstFault_87 (by decide) (fun c20 => ?_) (fun c20 => ?_)
              · have h := if_f c20 h
                exact ih x1 _ q h
              · have h := if_t c20 h
                refine ev_aload_n 0 dX7_firstFault_90 rfl rfl ?_
                refine ev_getI dX7_firstFault_91 fl_X7_31 (by decide) rfl (by decide) (by decide) rfl ?_
                cases h
                exact ev_iret dX7_firstFault_94 rfl rfl ⟨rfl, rfl⟩
          · have h := if_t c16 h
            refine ev_iconst (v := -1) dX7_firstFault_70 (by decide) ?_
            cases h
            exact ev_iret dX7_firstFault_71 rfl rfl ⟨rfl, rfl⟩
def f_X7_firstFault (n : Nat) (x1 : Int32) (A : Mem) : Option (Int32 × Mem) :=
  (f_X7_nextToken n  (st2 (st2 A 61 5 ((0 : Int32))) 61 7 ((0 : Int32)))).bind fun q1 =>
  g_X7_firstFault_14 n  n x1 q1.2
set_option maxRecDepth 100000 in
set_option maxHeartbeats 4000000 in
theorem c_X7_firstFault (n : Nat) (x1 : Int32) (A : Mem) (q : Int32 × Mem) (h : f_X7_firstFault n x1 A = some q) : Ct yX7_firstFault cX7_firstFault 2 (some .int) 6 [.ref 61, .int x1] A (RI q) := by
  unfold f_X7_firstFault at h
  refine ct_of (by decide) (Nat.le_of_ble_eq_true rfl) ?_
  show Ev cX7_firstFault 2 RX7 (some .int) 6 none 0 [(0, .ref 61), (1, .int x1)] [] A (RI q)
  refine ev_aload_n 0 dX7_firstFault_0 rfl rfl ?_
  refine ev_iconst (v := 0) dX7_firstFault_1 (by decide) ?_
  refine ev_put2 dX7_firstFault_2 fl_X7_28 pk_7_5 (by decide) rfl (by decide) (by decide) rfl ?_
  refine ev_aload_n 0 dX7_firstFault_5 rfl rfl ?_
  refine ev_iconst (v := 0) dX7_firstFault_6 (by decide) ?_
  refine ev_put2 dX7_firstFault_7 fl_X7_34 pk_7_7 (by decide) rfl (by decide) (by decide) rfl ?_
  refine ev_aload_n 0 dX7_firstFault_10 rfl rfl ?_
  obtain ⟨q1, e2, h⟩ := bd_c h
  refine ev_callVv (av := []) dX7_firstFault_11 (c_X7_nextToken n   (st2 (st2 A 61 5 ((0 : Int32))) 61 7 ((0 : Int32))) q1 e2) mk_X7_nextToken lk_X7_39 iv_X7_nextToken (Or.inl ⟨7, _, by decide, rfl, by decide, rfl, rfl⟩) rfl (by decide) (by decide) (Nat.le_of_ble_eq_true rfl) rfl ?_
  exact (l_X7_firstFault_14 n   n) x1 _ q h
def f_X9_fault (n : Nat) (x1 : Int32) (A : Mem) : Option (Int32 × Mem) :=
  (f_X9_isBelow n x1 ((2 : Int32)) A).bind fun q1 =>
  if q1.1 = 0 then
    some ((-3 : Int32), q1.2)
  else
    if x1 = 0 then
      (f_X7_firstFault n ((1 : Int32)) q1.2).bind fun q7 =>
      some (q7.1, q7.2)
    else
      (f_X7_firstFault n ((0 : Int32)) q1.2).bind fun q5 =>
      some (q5.1, q5.2)
set_option maxRecDepth 100000 in
set_option maxHeartbeats 4000000 in
theorem c_X9_fault (n : Nat) (x1 : Int32) (A : Mem) (q : Int32 × Mem) (h : f_X9_fault n x1 A = some q) : Ct yX9_fault cX9_fault 2 (some .int) 7 [.ref 0, .int x1] A (RI q) := by
  unfold f_X9_fault at h
  refine ct_of (by decide) (Nat.le_of_ble_eq_true rfl) ?_
  show Ev cX9_fault 2 RX9 (some .int) 7 none 0 [(0, .ref 0), (1, .int x1)] [] A (RI q)
  refine ev_iload_n 1 dX9_fault_0 rfl rfl ?_
  refine ev_iconst (v := 2) dX9_fault_1 (by decide) ?_
  obtain ⟨q1, e2, h⟩ := bd_c h
  refine ev_callSi (av := [.int x1, .int ((2 : Int32))]) dX9_fault_2 (c_X9_isBelow n x1 ((2 : Int32))  A q1 e2) mk_X9_isBelow lk_X9_93 is_X9_isBelow rfl (by decide) (by decide) (Nat.le_of_ble_eq_true rfl) rfl ?_
  refine ev_if_ne (tgt := 11) dX9_fault_5 (by decide) (fun c3 => ?_) (fun c3 => ?_)
  · have h := if_f c3 h
    refine ev_aload_n 0 dX9_fault_11 rfl rfl ?_
    refine ev_getR (r := 61) dX9_fault_12 fl_X9_48 (by decide) rfl (by decide) (by decide) rfl ?_
    refine ev_iload_n 1 dX9_fault_15 rfl rfl ?_
    refine ev_if_ne (tgt := 23) dX9_fault_16 (by decide) (fun c4 => ?_) (fun c4 => ?_)
    · have h := if_f c4 h
      refine ev_iconst (v := 0) dX9_fault_23 (by decide) ?_
      obtain ⟨q5, e6, h⟩ := bd_c h
      refine ev_callVi (av := [.int ((0 : Int32))]) dX9_fault_24 (c_X7_firstFault n ((0 : Int32))  q1.2 q5 e6) mk_X7_firstFault lk_X9_130 iv_X7_firstFault (Or.inl ⟨7, _, by decide, rfl, by decide, rfl, rfl⟩) rfl (by decide) (by decide) (Nat.le_of_ble_eq_true rfl) rfl ?_
      cases h
      exact ev_iret dX9_fault_27 rfl rfl ⟨rfl, rfl⟩
    · have h := if_t c4 h
      refine ev_iconst (v := 1) dX9_fault_19 (by decide) ?_
      refine ev_goto (tgt := 24) dX9_fault_20 (by decide) ?_
      obtain ⟨q7, e8, h⟩ := bd_c h
      refine ev_callVi (av := [.int ((1 : Int32))]) dX9_fault_24 (c_X7_firstFault n ((1 : Int32))  q1.2 q7 e8) mk_X7_firstFault lk_X9_130 iv_X7_firstFault (Or.inl ⟨7, _, by decide, rfl, by decide, rfl, rfl⟩) rfl (by decide) (by decide) (Nat.le_of_ble_eq_true rfl) rfl ?_
      cases h
      exact ev_iret dX9_fault_27 rfl rfl ⟨rfl, rfl⟩
  · have h := if_t c3 h
    refine ev_bipush (v := -3) dX9_fault_8 (by decide) ?_
    cases h
    exact ev_iret dX9_fault_10 rfl rfl ⟨rfl, rfl⟩
def g_X0_live_61_10 (n : Nat) (p0 : Nat) : Nat → Int32 → Mem → Option (Int32 × Mem)
  | 0, _, _ => none
  | m + 1, x2, A =>
    if (A p0 4) ≤ x2 then
      some (A p0 4, A)
    else
      if ¬ x2 < 0 ∧ (x2).toNatClampNeg < 8 then
        g_X0_live_61_10 n p0 m (x2 + 1) (st2 (st2 (st2 A (rf p0 0) (x2).toNatClampNeg (A 63 (x2).toNatClampNeg)) (rf p0 1) (x2).toNatClampNeg ((st2 A (rf p0 0) (x2).toNatClampNeg (A 63 (x2).toNatClampNeg)) 64 (x2).toNatClampNeg)) (rf p0 2) (x2).toNatClampNeg ((st2 (st2 A (rf p0 0) (x2).toNatClampNeg (A 63 (x2).toNatClampNeg)) (rf p0 1) (x2).toNatClampNeg ((st2 A (rf p0 0) (x2).toNatClampNeg (A 63 (x2).toNatClampNeg)) 64 (x2).toNatClampNeg)) 65 (x2).toNatClampNeg))
      else
        none
set_option maxRecDepth 100000 in
set_option maxHeartbeats 4000000 in
theorem l_X0_live_61_10 (n : Nat) (p0 : Nat) (hp0 : p0 < NT) (hk0 : kd p0 = 0) : ∀ (m : Nat) (x2 : Int32) (A : Mem) (q : Int32 × Mem), g_X0_live_61_10 n p0 m x2 A = some q → Ev cX0_live 3 RX0 (some .int) 0 none 10 [(0, .ref p0), (1, .ref 61), (2, .int x2)] [] A (RI q) := by
  intro m
  induction m with
  | zero => intro x2 A q h; exact absurd h (by simp [g_X0_live_61_10])
  | succ m ih =>
    intro x2 A q h
    rw [g_X0_live_61_10] at h
    refine ev_iload_n 2 dX0_live_10 rfl rfl ?_
    refine ev_aload_n 0 dX0_live_11 rfl rfl ?_
    refine ev_getI dX0_live_12 fl_X0_25 hp0 hk0 (sl_0_4 p0 hp0 hk0) (by decide) (sn_0_4 p0 hp0 hk0) ?_
    refine ev_icmp_ge (tgt := 60) dX0_live_15 (by decide) (fun c1 => ?_) (fun c1 => ?_)
    · have h := if_t c1 h
      refine ev_aload_n 0 dX0_live_60 rfl rfl ?_
      refine ev_getI dX0_live_61 fl_X0_25 hp0 hk0 (sl_0_4 p0 hp0 hk0) (by decide) (sn_0_4 p0 hp0 hk0) ?_
      cases h
      exact ev_iret dX0_live_64 rfl rfl ⟨rfl, rfl⟩
    · have h := if_f c1 h
      refine ev_aload_n 0 dX0_live_18 rfl rfl ?_
      refine ev_getR (r := rf p0 0) dX0_live_19 fl_X0_9 hp0 hk0 (sl_0_0 p0 hp0 hk0) (by decide) (sr_0_0 p0 hp0 hk0) ?_
      refine ev_iload_n 2 dX0_live_22 rfl rfl ?_
      refine ev_aload_n 1 dX0_live_23 rfl rfl ?_
      refine ev_getR (r := 63) dX0_live_24 fl_X0_31 (by decide) rfl (by decide) (by decide) rfl ?_
      refine ev_iload_n 2 dX0_live_27 rfl rfl ?_
      obtain ⟨c2, h⟩ := if_c h
      refine ev_ialdc 8 dX0_live_28 (by decide) rfl rfl (by decide) c2 ?_
      refine ev_iastc 8 dX0_live_29 (sa_0_0 p0 hp0 hk0).1 (sa_0_0 p0 hp0 hk0).2.1 (sa_0_0 p0 hp0 hk0).2.2 (by decide) c2 ?_
      refine ev_aload_n 0 dX0_live_30 rfl rfl ?_
      refine ev_getR (r := rf p0 1) dX0_live_31 fl_X0_15 hp0 hk0 (sl_0_1 p0 hp0 hk0) (by decide) (sr_0_1 p0 hp0 hk0) ?_
      refine ev_iload_n 2 dX0_live_34 rfl rfl ?_
      refine ev_aload_n 1 dX0_live_35 rfl rfl ?_
      refine ev_getR (r := 64) dX0_live_36 fl_X0_34 (by decide) rfl (by decide) (by decide) rfl ?_
      refine ev_iload_n 2 dX0_live_39 rfl rfl ?_
      refine ev_ialdc 8 dX0_live_40 (by decide) rfl rfl (by decide) c2 ?_
      refine ev_iastc 8 dX0_live_41 (sa_0_1 p0 hp0 hk0).1 (sa_0_1 p0 hp0 hk0).2.1 (sa_0_1 p0 hp0 hk0).2.2 (by decide) c2 ?_
      refine ev_aload_n 0 dX0_live_42 rfl rfl ?_
      refine ev_getR (r := rf p0 2) dX0_live_43 fl_X0_18 hp0 hk0 (sl_0_2 p0 hp0 hk0) (by decide) (sr_0_2 p0 hp0 hk0) ?_
      refine ev_iload_n 2 dX0_live_46 rfl rfl ?_
      refine ev_aload_n 1 dX0_live_47 rfl rfl ?_
      refine ev_getR (r := 65) dX0_live_48 fl_X0_37 (by decide) rfl (by decide) (by decide) rfl ?_
      refine ev_iload_n 2 dX0_live_51 rfl rfl ?_
      refine ev_ialdc 8 dX0_live_52 (by decide) rfl rfl (by decide) c2 ?_
      refine ev_iastc 8 dX0_live_53 (sa_0_2 p0 hp0 hk0).1 (sa_0_2 p0 hp0 hk0).2.1 (sa_0_2 p0 hp0 hk0).2.2 (by decide) c2 ?_
      refine ev_iinc (v := x2 + 1) (ls' := [(2, .int (x2 + 1)), (0, .ref p0), (1, .ref 61)]) 2 dX0_live_54 rfl rfl (by decide) rfl ?_
      refine ev_goto (tgt := 10) dX0_live_57 (by decide) ?_
      refine ev_pick [1, 2, 0] (ls' := [(0, .ref p0), (1, .ref 61), (2, .int (x2 + 1))]) rfl ?_
      exact ih (x2 + 1) _ q h
def f_X0_live_61 (n : Nat) (p0 : Nat) (A : Mem) : Option (Int32 × Mem) :=
  g_X0_live_61_10 n p0 n ((0 : Int32)) (st2 A p0 4 (A 61 5))
set_option maxRecDepth 100000 in
set_option maxHeartbeats 4000000 in
theorem c_X0_live_61 (n : Nat) (p0 : Nat) (hp0 : p0 < NT) (hk0 : kd p0 = 0) (A : Mem) (q : Int32 × Mem) (h : f_X0_live_61 n p0 A = some q) : Ct yX0_live cX0_live 3 (some .int) 0 [.ref p0, .ref 61] A (RI q) := by
  unfold f_X0_live_61 at h
  refine ct_of (by decide) (Nat.le_of_ble_eq_true rfl) ?_
  show Ev cX0_live 3 RX0 (some .int) 0 none 0 [(0, .ref p0), (1, .ref 61)] [] A (RI q)
  refine ev_aload_n 0 dX0_live_0 rfl rfl ?_
  refine ev_aload_n 1 dX0_live_1 rfl rfl ?_
  refine ev_getI dX0_live_2 fl_X0_28 (by decide) rfl (by decide) (by decide) rfl ?_
  refine ev_put2 dX0_live_5 fl_X0_25 pk_0_4 hp0 hk0 (sl_0_4 p0 hp0 hk0) (by decide) (sn_0_4 p0 hp0 hk0) ?_
  refine ev_iconst (v := 0) dX0_live_8 (by decide) ?_
  refine ev_istore_n (ls' := [(2, .int ((0 : Int32))), (0, .ref p0), (1, .ref 61)]) dX0_live_9 rfl (by decide) rfl ?_
  refine ev_pick [1, 2, 0] (ls' := [(0, .ref p0), (1, .ref 61), (2, .int ((0 : Int32)))]) rfl ?_
  exact (l_X0_live_61_10 n p0 hp0 hk0 n) ((0 : Int32)) _ q h
def f_X9_life (n : Nat) (x1 : Int32) (A : Mem) : Option (Int32 × Mem) :=
  (f_X9_isBelow n x1 ((6 : Int32)) A).bind fun q1 =>
  if q1.1 = 0 then
    some ((-2 : Int32), q1.2)
  else
    (f_X7_firstFault n ((1 : Int32)) q1.2).bind fun q4 =>
    if q4.1 = ((-1 : Int32)) then
      (f_X7_empty n  q4.2).bind fun q7 =>
      if ¬ x1 < 0 ∧ (x1).toNatClampNeg < 6 then
        (f_X0_live_61 n (rf 25 (x1).toNatClampNeg) q7.2).bind fun q11 =>
        some (q11.1, q11.2)
      else
        none
    else
      some ((-4 : Int32), q4.2)
set_option maxRecDepth 100000 in
set_option maxHeartbeats 4000000 in
theorem c_X9_life (n : Nat) (x1 : Int32) (A : Mem) (q : Int32 × Mem) (h : f_X9_life n x1 A = some q) : Ct yX9_life cX9_life 2 (some .int) 7 [.ref 0, .int x1] A (RI q) := by
  unfold f_X9_life at h
  refine ct_of (by decide) (Nat.le_of_ble_eq_true rfl) ?_
  show Ev cX9_life 2 RX9 (some .int) 7 none 0 [(0, .ref 0), (1, .int x1)] [] A (RI q)
  refine ev_iload_n 1 dX9_life_0 rfl rfl ?_
  refine ev_bipush (v := 6) dX9_life_1 (by decide) ?_
  obtain ⟨q1, e2, h⟩ := bd_c h
  refine ev_callSi (av := [.int x1, .int ((6 : Int32))]) dX9_life_3 (c_X9_isBelow n x1 ((6 : Int32))  A q1 e2) mk_X9_isBelow lk_X9_93 is_X9_isBelow rfl (by decide) (by decide) (Nat.le_of_ble_eq_true rfl) rfl ?_
  refine ev_if_ne (tgt := 12) dX9_life_6 (by decide) (fun c3 => ?_) (fun c3 => ?_)
  · have h := if_f c3 h
    refine ev_aload_n 0 dX9_life_12 rfl rfl ?_
    refine ev_getR (r := 61) dX9_life_13 fl_X9_48 (by decide) rfl (by decide) (by decide) rfl ?_
    refine ev_iconst (v := 1) dX9_life_16 (by decide) ?_
    obtain ⟨q4, e5, h⟩ := bd_c h
    refine ev_callVi (av := [.int ((1 : Int32))]) dX9_life_17 (c_X7_firstFault n ((1 : Int32))  q1.2 q4 e5) mk_X7_firstFault lk_X9_130 iv_X7_firstFault (Or.inl ⟨7, _, by decide, rfl, by decide, rfl, rfl⟩) rfl (by decide) (by decide) (Nat.le_of_ble_eq_true rfl) rfl ?_
    refine ev_iconst (v := -1) dX9_life_20 (by decide) ?_
    refine ev_icmp_eq (tgt := 27) dX9_life_21 (by decide) (fun c6 => ?_) (fun c6 => ?_)
    · have h := if_t c6 h
      refine ev_aload_n 0 dX9_life_27 rfl rfl ?_
      refine ev_getR (r := 61) dX9_life_28 fl_X9_48 (by decide) rfl (by decide) (by decide) rfl ?_
      obtain ⟨q7, e8, h⟩ := bd_c h
      refine ev_callVi (av := []) dX9_life_31 (c_X7_empty n   q4.2 q7 e8) mk_X7_empty lk_X9_126 iv_X7_empty (Or.inl ⟨7, _, by decide, rfl, by decide, rfl, rfl⟩) rfl (by decide) (by decide) (Nat.le_of_ble_eq_true rfl) rfl ?_
      refine ev_pop dX9_life_34 rfl ?_
      refine ev_aload_n 0 dX9_life_35 rfl rfl ?_
      refine ev_getR (r := 25) dX9_life_36 fl_X9_41 (by decide) rfl (by decide) (by decide) rfl ?_
      refine ev_iload_n 1 dX9_life_39 rfl rfl ?_
      obtain ⟨c9, h⟩ := if_c h
      have e10 := el_25 _ c9.2
      refine ev_aaldc 6 dX9_life_40 (by decide) rfl (Or.inl rfl) rfl (by decide) c9 e10.1 ?_
      refine ev_aload_n 0 dX9_life_41 rfl rfl ?_
      refine ev_getR (r := 61) dX9_life_42 fl_X9_48 (by decide) rfl (by decide) (by decide) rfl ?_
      obtain ⟨q11, e12, h⟩ := bd_c h
      refine ev_callVi (av := [.ref 61]) dX9_life_45 (c_X0_live_61 n (rf 25 (x1).toNatClampNeg) e10.2.1 e10.2.2 q7.2 q11 e12) mk_X0_live lk_X9_134 iv_X0_live (Or.inl ⟨0, _, e10.2.1, e10.2.2, by decide, rfl, rfl⟩) rfl (by decide) (by decide) (Nat.le_of_ble_eq_true rfl) rfl ?_
      cases h
      exact ev_iret dX9_life_48 rfl rfl ⟨rfl, rfl⟩
    · have h := if_f c6 h
      refine ev_bipush (v := -4) dX9_life_24 (by decide) ?_
      cases h
      exact ev_iret dX9_life_26 rfl rfl ⟨rfl, rfl⟩
  · have h := if_t c3 h
    refine ev_bipush (v := -2) dX9_life_9 (by decide) ?_
    cases h
    exact ev_iret dX9_life_11 rfl rfl ⟨rfl, rfl⟩
def g_X3_weighBy_61_16 (n : Nat) (p0 : Nat) : Nat → Int32 → Mem → Option (Int32 × Mem)
  | 0, _, _ => none
  | m + 1, x2, A =>
    if (A 61 5) ≤ x2 then
      some (A 61 5, A)
    else
      if ¬ x2 < 0 ∧ (x2).toNatClampNeg < 8 then
        if ¬ (A 63 (x2).toNatClampNeg) < 0 ∧ (A 63 (x2).toNatClampNeg).toNatClampNeg < 6 then
          g_X3_weighBy_61_16 n p0 m (x2 + 1) (st2 A (rf p0 0) (A 63 (x2).toNatClampNeg).toNatClampNeg (A 64 (x2).toNatClampNeg))
        else
          none
      else
        none
set_option maxRecDepth 100000 in
set_option maxHeartbeats 4000000 in
theorem l_X3_weighBy_61_16 (n : Nat) (p0 : Nat) (hp0 : p0 < NT) (hk0 : kd p0 = 3) : ∀ (m : Nat) (x2 : Int32) (A : Mem) (q : Int32 × Mem), g_X3_weighBy_61_16 n p0 m x2 A = some q → Ev cX3_weighBy 3 RX3 (some .int) 1 none 16 [(0, .ref p0), (1, .ref 61), (2, .int x2)] [] A (RI q) := by
  intro m
  induction m with
  | zero => intro x2 A q h; exact absurd h (by simp [g_X3_weighBy_61_16])
  | succ m ih =>
    intro x2 A q h
    rw [g_X3_weighBy_61_16] at h
    refine ev_iload_n 2 dX3_weighBy_16 rfl rfl ?_
    refine ev_aload_n 1 dX3_weighBy_17 rfl rfl ?_
    refine ev_getI dX3_weighBy_18 fl_X3_42 (by decide) rfl (by decide) (by decide) rfl ?_
    refine ev_icmp_ge (tgt := 47) dX3_weighBy_21 (by decide) (fun c1 => ?_) (fun c1 => ?_)
    · have h := if_t c1 h
      refine ev_aload_n 1 dX3_weighBy_47 rfl rfl ?_
      refine ev_getI dX3_weighBy_48 fl_X3_42 (by decide) rfl (by decide) (by decide) rfl ?_
      cases h
      exact ev_iret dX3_weighBy_51 rfl rfl ⟨rfl, rfl⟩
    · have h := if_f c1 h
      refine ev_aload_n 0 dX3_weighBy_24 rfl rfl ?_
      refine ev_getR (r := rf p0 0) dX3_weighBy_25 fl_X3_18 hp0 hk0 (sl_3_0 p0 hp0 hk0) (by decide) (sr_3_0 p0 hp0 hk0) ?_
      refine ev_aload_n 1 dX3_weighBy_28 rfl rfl ?_
      refine ev_getR (r := 63) dX3_weighBy_29 fl_X3_47 (by decide) rfl (by decide) (by decide) rfl ?_
      refine ev_iload_n 2 dX3_weighBy_32 rfl rfl ?_
      obtain ⟨c2, h⟩ := if_c h
      refine ev_ialdc 8 dX3_weighBy_33 (by decide) rfl rfl (by decide) c2 ?_
      refine ev_aload_n 1 dX3_weighBy_34 rfl rfl ?_
      refine ev_getR (r := 64) dX3_weighBy_35 fl_X3_50 (by decide) rfl (by decide) (by decide) rfl ?_
      refine ev_iload_n 2 dX3_weighBy_38 rfl rfl ?_
      refine ev_ialdc 8 dX3_weighBy_39 (by decide) rfl rfl (by decide) c2 ?_
      obtain ⟨c3, h⟩ := if_c h
      refine ev_iastc 6 dX3_weighBy_40 (sa_3_0 p0 hp0 hk0).1 (sa_3_0 p0 hp0 hk0).2.1 (sa_3_0 p0 hp0 hk0).2.2 (by decide) c3 ?_
      refine ev_iinc (v := x2 + 1) (ls' := [(2, .int (x2 + 1)), (0, .ref p0), (1, .ref 61)]) 2 dX3_weighBy_41 rfl rfl (by decide) rfl ?_
      refine ev_goto (tgt := 16) dX3_weighBy_44 (by decide) ?_
      refine ev_pick [1, 2, 0] (ls' := [(0, .ref p0), (1, .ref 61), (2, .int (x2 + 1))]) rfl ?_
      exact ih (x2 + 1) _ q h
def f_X3_weighBy_61 (n : Nat) (p0 : Nat) (A : Mem) : Option (Int32 × Mem) :=
  g_X3_weighBy_61_16 n p0 n ((0 : Int32)) (updR A (rf p0 0) (va_cpy ptab (A (rf p0 0)) ((0 : Int32)).toNatClampNeg ((0 : Int32)).toNatClampNeg ((6 : Int32)).toNatClampNeg))
set_option maxRecDepth 100000 in
set_option maxHeartbeats 4000000 in
theorem c_X3_weighBy_61 (n : Nat) (p0 : Nat) (hp0 : p0 < NT) (hk0 : kd p0 = 3) (A : Mem) (q : Int32 × Mem) (h : f_X3_weighBy_61 n p0 A = some q) : Ct yX3_weighBy cX3_weighBy 3 (some .int) 1 [.ref p0, .ref 61] A (RI q) := by
  unfold f_X3_weighBy_61 at h
  refine ct_of (by decide) (Nat.le_of_ble_eq_true rfl) ?_
  show Ev cX3_weighBy 3 RX3 (some .int) 1 none 0 [(0, .ref p0), (1, .ref 61)] [] A (RI q)
  refine ev_gpt dX3_weighBy_0 gpt_X3_9 ?_
  refine ev_iconst (v := 0) dX3_weighBy_3 (by decide) ?_
  refine ev_aload_n 0 dX3_weighBy_4 rfl rfl ?_
  refine ev_getR (r := rf p0 0) dX3_weighBy_5 fl_X3_18 hp0 hk0 (sl_3_0 p0 hp0 hk0) (by decide) (sr_3_0 p0 hp0 hk0) ?_
  refine ev_iconst (v := 0) dX3_weighBy_8 (by decide) ?_
  refine ev_bipush (v := 6) dX3_weighBy_9 (by decide) ?_
  refine ev_copyT (k1 := (rf p0 0)) 6 dX3_weighBy_11 lc_X3_36 (sa_3_0 p0 hp0 hk0).1 (sa_3_0 p0 hp0 hk0).2.1 (sa_3_0 p0 hp0 hk0).2.2 (by decide) (by decide) (Nat.le_of_ble_eq_true rfl) ?_
  refine ev_iconst (v := 0) dX3_weighBy_14 (by decide) ?_
  refine ev_istore_n (ls' := [(2, .int ((0 : Int32))), (0, .ref p0), (1, .ref 61)]) dX3_weighBy_15 rfl (by decide) rfl ?_
  refine ev_pick [1, 2, 0] (ls' := [(0, .ref p0), (1, .ref 61), (2, .int ((0 : Int32)))]) rfl ?_
  exact (l_X3_weighBy_61_16 n p0 hp0 hk0 n) ((0 : Int32)) _ q h
def f_X9_table (n : Nat) (x1 : Int32) (A : Mem) : Option (Int32 × Mem) :=
  (f_X9_isBelow n x1 ((2 : Int32)) A).bind fun q1 =>
  if q1.1 = 0 then
    some ((-2 : Int32), q1.2)
  else
    (f_X7_firstFault n ((0 : Int32)) q1.2).bind fun q4 =>
    if q4.1 = ((-1 : Int32)) then
      (f_X7_empty n  q4.2).bind fun q7 =>
      if ¬ x1 < 0 ∧ (x1).toNatClampNeg < 2 then
        (f_X3_weighBy_61 n (rf 50 (x1).toNatClampNeg) q7.2).bind fun q11 =>
        some (q11.1, q11.2)
      else
        none
    else
      some ((-4 : Int32), q4.2)
set_option maxRecDepth 100000 in
set_option maxHeartbeats 4000000 in
theorem c_X9_table (n : Nat) (x1 : Int32) (A : Mem) (q : Int32 × Mem) (h : f_X9_table n x1 A = some q) : Ct yX9_table cX9_table 2 (some .int) 7 [.ref 0, .int x1] A (RI q) := by
  unfold f_X9_table at h
  refine ct_of (by decide) (Nat.le_of_ble_eq_true rfl) ?_
  show Ev cX9_table 2 RX9 (some .int) 7 none 0 [(0, .ref 0), (1, .int x1)] [] A (RI q)
  refine ev_iload_n 1 dX9_table_0 rfl rfl ?_
  refine ev_iconst (v := 2) dX9_table_1 (by decide) ?_
  obtain ⟨q1, e2, h⟩ := bd_c h
  refine ev_callSi (av := [.int x1, .int ((2 : Int32))]) dX9_table_2 (c_X9_isBelow n x1 ((2 : Int32))  A q1 e2) mk_X9_isBelow lk_X9_93 is_X9_isBelow rfl (by decide) (by decide) (Nat.le_of_ble_eq_true rfl) rfl ?_
  refine ev_if_ne (tgt := 11) dX9_table_5 (by decide) (fun c3 => ?_) (fun c3 => ?_)
  · have h := if_f c3 h
    refine ev_aload_n 0 dX9_table_11 rfl rfl ?_
    refine ev_getR (r := 61) dX9_table_12 fl_X9_48 (by decide) rfl (by decide) (by decide) rfl ?_
    refine ev_iconst (v := 0) dX9_table_15 (by decide) ?_
    obtain ⟨q4, e5, h⟩ := bd_c h
    refine ev_callVi (av := [.int ((0 : Int32))]) dX9_table_16 (c_X7_firstFault n ((0 : Int32))  q1.2 q4 e5) mk_X7_firstFault lk_X9_130 iv_X7_firstFault (Or.inl ⟨7, _, by decide, rfl, by decide, rfl, rfl⟩) rfl (by decide) (by decide) (Nat.le_of_ble_eq_true rfl) rfl ?_
    refine ev_iconst (v := -1) dX9_table_19 (by decide) ?_
    refine ev_icmp_eq (tgt := 26) dX9_table_20 (by decide) (fun c6 => ?_) (fun c6 => ?_)
    · have h := if_t c6 h
      refine ev_aload_n 0 dX9_table_26 rfl rfl ?_
      refine ev_getR (r := 61) dX9_table_27 fl_X9_48 (by decide) rfl (by decide) (by decide) rfl ?_
      obtain ⟨q7, e8, h⟩ := bd_c h
      refine ev_callVi (av := []) dX9_table_30 (c_X7_empty n   q4.2 q7 e8) mk_X7_empty lk_X9_126 iv_X7_empty (Or.inl ⟨7, _, by decide, rfl, by decide, rfl, rfl⟩) rfl (by decide) (by decide) (Nat.le_of_ble_eq_true rfl) rfl ?_
      refine ev_pop dX9_table_33 rfl ?_
      refine ev_aload_n 0 dX9_table_34 rfl rfl ?_
      refine ev_getR (r := 50) dX9_table_35 fl_X9_62 (by decide) rfl (by decide) (by decide) rfl ?_
      refine ev_iload_n 1 dX9_table_38 rfl rfl ?_
      obtain ⟨c9, h⟩ := if_c h
      have e10 := el_50 _ c9.2
      refine ev_aaldc 2 dX9_table_39 (by decide) rfl (Or.inr rfl) rfl (by decide) c9 e10.1 ?_
      refine ev_aload_n 0 dX9_table_40 rfl rfl ?_
      refine ev_getR (r := 61) dX9_table_41 fl_X9_48 (by decide) rfl (by decide) (by decide) rfl ?_
      obtain ⟨q11, e12, h⟩ := bd_c h
      refine ev_callVi (av := [.ref 61]) dX9_table_44 (c_X3_weighBy_61 n (rf 50 (x1).toNatClampNeg) e10.2.1 e10.2.2 q7.2 q11 e12) mk_X3_weighBy lk_X9_138 iv_X3_weighBy (Or.inl ⟨3, _, e10.2.1, e10.2.2, by decide, rfl, rfl⟩) rfl (by decide) (by decide) (Nat.le_of_ble_eq_true rfl) rfl ?_
      cases h
      exact ev_iret dX9_table_47 rfl rfl ⟨rfl, rfl⟩
    · have h := if_f c6 h
      refine ev_bipush (v := -4) dX9_table_23 (by decide) ?_
      cases h
      exact ev_iret dX9_table_25 rfl rfl ⟨rfl, rfl⟩
  · have h := if_t c3 h
    refine ev_bipush (v := -2) dX9_table_8 (by decide) ?_
    cases h
    exact ev_iret dX9_table_10 rfl rfl ⟨rfl, rfl⟩
