section LAWR
variable {cc : ByteArray} {nL : Nat} {own : String} {rty : Option FieldType} {d : Nat} {L : Nat} {xs : Nat → Int32} {pc : Nat} {ls : List (Nat × Value)} {st : List Value} {A : Mem} {Q : Option Value → Mem → Prop}
theorem ev_scl {x : Int32} (hd : decode cc pc = .ok (.iaload, 1)) (hx : ¬ x < 0 ∧ x.toNatClampNeg < L) (k : Ev cc nL own rty d (some (L, xs)) (pc + 1) ls (.int (xs x.toNatClampNeg) :: st) A Q) : Ev cc nL own rty d (some (L, xs)) pc ls (.int x :: .ref 1000300 :: st) A Q := by
  intro p l e R s m args below meth c D cy ad B cells slots Qw H locs lsC X hP hS hl hQ
  obtain ⟨h1, h2, h3⟩ := X.2.2.2.2.2.2.2.2.2.2.2 (L, xs) rfl
  exact va_sld X.1 X.2.1 h1 h2 h3 hS (fun z => z.elim hx.1 (fun q => absurd hx.2 (Nat.not_lt.mpr q))) hd (k p l e R s m args below meth c D cy ad B cells slots Qw H locs lsC X hP hS hl hQ)
theorem ev_scn (hd : decode cc pc = .ok (.arraylength, 1)) (k : Ev cc nL own rty d (some (L, xs)) (pc + 1) ls (.int (nI L) :: st) A Q) : Ev cc nL own rty d (some (L, xs)) pc ls (.ref 1000300 :: st) A Q := by
  intro p l e R s m args below meth c D cy ad B cells slots Qw H locs lsC X hP hS hl hQ
  obtain ⟨h1, h2, h3⟩ := X.2.2.2.2.2.2.2.2.2.2.2 (L, xs) rfl
  exact va_slen X.1 X.2.1 h1 h2 h3 hS hd (k p l e R s m args below meth c D cy ad B cells slots Qw H locs lsC X hP hS hl hQ)
end LAWR
def g_law (n : Nat) (L : Nat) (xs : Nat → Int32) : Nat → Int32 → Mem → Option (Int32 × Mem)
  | 0, _, _ => none
  | m + 1, x3, A =>
    if ((nI L) - ((8 : Int32))) < x3 then
      some ((1 : Int32), A)
    else
      if ¬ x3 < 0 ∧ (x3).toNatClampNeg < L then
        if ((xs (x3).toNatClampNeg) &&& ((63 : Int32))) = 0 then
          if ¬ (x3 + ((1 : Int32))) < 0 ∧ (x3 + ((1 : Int32))).toNatClampNeg < L then
            if ¬ (x3 + ((2 : Int32))) < 0 ∧ (x3 + ((2 : Int32))).toNatClampNeg < L then
              (f_X9_view n (xs (x3 + ((1 : Int32))).toNatClampNeg) (xs (x3 + ((2 : Int32))).toNatClampNeg) A).bind fun q6 =>
              (f_X10_view n (xs (x3 + ((1 : Int32))).toNatClampNeg) (xs (x3 + ((2 : Int32))).toNatClampNeg) q6.2).bind fun q8 =>
              if q6.1 = q8.1 then
                g_law n L xs m (x3 + 8) q8.2
              else
                some ((0 : Int32), q8.2)
            else
              none
          else
            none
        else
          if ((xs (x3).toNatClampNeg) &&& ((63 : Int32))) = 1 then
            if ¬ (x3 + ((1 : Int32))) < 0 ∧ (x3 + ((1 : Int32))).toNatClampNeg < L then
              if ¬ (x3 + ((2 : Int32))) < 0 ∧ (x3 + ((2 : Int32))).toNatClampNeg < L then
                if ¬ (x3 + ((3 : Int32))) < 0 ∧ (x3 + ((3 : Int32))).toNatClampNeg < L then
                  if ¬ (x3 + ((4 : Int32))) < 0 ∧ (x3 + ((4 : Int32))).toNatClampNeg < L then
                    if ¬ (x3 + ((5 : Int32))) < 0 ∧ (x3 + ((5 : Int32))).toNatClampNeg < L then
                      if ¬ (x3 + ((6 : Int32))) < 0 ∧ (x3 + ((6 : Int32))).toNatClampNeg < L then
                        if (xs (x3 + ((6 : Int32))).toNatClampNeg) = 0 then
                          (f_X9_fact n (xs (x3 + ((1 : Int32))).toNatClampNeg) (xs (x3 + ((2 : Int32))).toNatClampNeg) (xs (x3 + ((3 : Int32))).toNatClampNeg) (xs (x3 + ((4 : Int32))).toNatClampNeg) (xs (x3 + ((5 : Int32))).toNatClampNeg) ((0 : Int32)) A).bind fun q19 =>
                          (f_X10_fact n (xs (x3 + ((1 : Int32))).toNatClampNeg) (xs (x3 + ((2 : Int32))).toNatClampNeg) (xs (x3 + ((3 : Int32))).toNatClampNeg) (xs (x3 + ((4 : Int32))).toNatClampNeg) (xs (x3 + ((5 : Int32))).toNatClampNeg) ((0 : Int32)) q19.2).bind fun q21 =>
                          if q19.1 = q21.1 then
                            g_law n L xs m (x3 + 8) q21.2
                          else
                            some ((0 : Int32), q21.2)
                        else
                          (f_X9_fact n (xs (x3 + ((1 : Int32))).toNatClampNeg) (xs (x3 + ((2 : Int32))).toNatClampNeg) (xs (x3 + ((3 : Int32))).toNatClampNeg) (xs (x3 + ((4 : Int32))).toNatClampNeg) (xs (x3 + ((5 : Int32))).toNatClampNeg) ((1 : Int32)) A).bind fun q24 =>
                          (f_X10_fact n (xs (x3 + ((1 : Int32))).toNatClampNeg) (xs (x3 + ((2 : Int32))).toNatClampNeg) (xs (x3 + ((3 : Int32))).toNatClampNeg) (xs (x3 + ((4 : Int32))).toNatClampNeg) (xs (x3 + ((5 : Int32))).toNatClampNeg) ((1 : Int32)) q24.2).bind fun q26 =>
                          if q24.1 = q26.1 then
                            g_law n L xs m (x3 + 8) q26.2
                          else
                            some ((0 : Int32), q26.2)
                      else
                        none
                    else
                      none
                  else
                    none
                else
                  none
              else
                none
            else
              none
          else
            if ((xs (x3).toNatClampNeg) &&& ((63 : Int32))) = 2 then
              if ¬ (x3 + ((1 : Int32))) < 0 ∧ (x3 + ((1 : Int32))).toNatClampNeg < L then
                if ¬ (x3 + ((2 : Int32))) < 0 ∧ (x3 + ((2 : Int32))).toNatClampNeg < L then
                  if ¬ (x3 + ((3 : Int32))) < 0 ∧ (x3 + ((3 : Int32))).toNatClampNeg < L then
                    (f_X9_world n (xs (x3 + ((1 : Int32))).toNatClampNeg) (xs (x3 + ((2 : Int32))).toNatClampNeg) (xs (x3 + ((3 : Int32))).toNatClampNeg) A).bind fun q33 =>
                    (f_X10_world n (xs (x3 + ((1 : Int32))).toNatClampNeg) (xs (x3 + ((2 : Int32))).toNatClampNeg) (xs (x3 + ((3 : Int32))).toNatClampNeg) q33.2).bind fun q35 =>
                    if q33.1 = q35.1 then
                      g_law n L xs m (x3 + 8) q35.2
                    else
                      some ((0 : Int32), q35.2)
                  else
                    none
                else
                  none
              else
                none
            else
              if ((xs (x3).toNatClampNeg) &&& ((63 : Int32))) = 3 then
                if ¬ (x3 + ((1 : Int32))) < 0 ∧ (x3 + ((1 : Int32))).toNatClampNeg < L then
                  if ¬ (x3 + ((2 : Int32))) < 0 ∧ (x3 + ((2 : Int32))).toNatClampNeg < L then
                    (f_X9_home n (xs (x3 + ((1 : Int32))).toNatClampNeg) (xs (x3 + ((2 : Int32))).toNatClampNeg) A).bind fun q41 =>
                    (f_X10_home n (xs (x3 + ((1 : Int32))).toNatClampNeg) (xs (x3 + ((2 : Int32))).toNatClampNeg) q41.2).bind fun q43 =>
                    if q41.1 = q43.1 then
                      g_law n L xs m (x3 + 8) q43.2
                    else
                      some ((0 : Int32), q43.2)
                  else
                    none
                else
                  none
              else
                if ((xs (x3).toNatClampNeg) &&& ((63 : Int32))) = 4 then
                  if ¬ (x3 + ((1 : Int32))) < 0 ∧ (x3 + ((1 : Int32))).toNatClampNeg < L then
                    if ¬ (x3 + ((2 : Int32))) < 0 ∧ (x3 + ((2 : Int32))).toNatClampNeg < L then
                      if ¬ (x3 + ((3 : Int32))) < 0 ∧ (x3 + ((3 : Int32))).toNatClampNeg < L then
                        (f_X9_write n ((((xs (x3 + ((1 : Int32))).toNatClampNeg).toInt64) <<< (((32 : Int32)).toInt64 &&& 63)) ||| (((xs (x3 + ((2 : Int32))).toNatClampNeg).toInt64) &&& ((4294967295 : Int64)))) (xs (x3 + ((3 : Int32))).toNatClampNeg) A).bind fun q50 =>
                        (f_X10_write n ((((xs (x3 + ((1 : Int32))).toNatClampNeg).toInt64) <<< (((32 : Int32)).toInt64 &&& 63)) ||| (((xs (x3 + ((2 : Int32))).toNatClampNeg).toInt64) &&& ((4294967295 : Int64)))) (xs (x3 + ((3 : Int32))).toNatClampNeg) q50.2).bind fun q52 =>
                        if q50.1 = q52.1 then
                          g_law n L xs m (x3 + 8) q52.2
                        else
                          some ((0 : Int32), q52.2)
                      else
                        none
                    else
                      none
                  else
                    none
                else
                  if ((xs (x3).toNatClampNeg) &&& ((63 : Int32))) = 5 then
                    (f_X9_erase n  A).bind fun q56 =>
                    (f_X10_erase n  q56.2).bind fun q58 =>
                    if q56.1 = q58.1 then
                      g_law n L xs m (x3 + 8) q58.2
                    else
                      some ((0 : Int32), q58.2)
                  else
                    if ((xs (x3).toNatClampNeg) &&& ((63 : Int32))) = 6 then
                      if ¬ (x3 + ((1 : Int32))) < 0 ∧ (x3 + ((1 : Int32))).toNatClampNeg < L then
                        (f_X9_fault n (xs (x3 + ((1 : Int32))).toNatClampNeg) A).bind fun q63 =>
                        (f_X10_fault n (xs (x3 + ((1 : Int32))).toNatClampNeg) q63.2).bind fun q65 =>
                        if q63.1 = q65.1 then
                          g_law n L xs m (x3 + 8) q65.2
                        else
                          some ((0 : Int32), q65.2)
                      else
                        none
                    else
                      if ((xs (x3).toNatClampNeg) &&& ((63 : Int32))) = 7 then
                        if ¬ (x3 + ((1 : Int32))) < 0 ∧ (x3 + ((1 : Int32))).toNatClampNeg < L then
                          (f_X9_life n (xs (x3 + ((1 : Int32))).toNatClampNeg) A).bind fun q70 =>
                          (f_X10_life n (xs (x3 + ((1 : Int32))).toNatClampNeg) q70.2).bind fun q72 =>
                          if q70.1 = q72.1 then
                            g_law n L xs m (x3 + 8) q72.2
                          else
                            some ((0 : Int32), q72.2)
                        else
                          none
                      else
                        if ((xs (x3).toNatClampNeg) &&& ((63 : Int32))) = 8 then
                          if ¬ (x3 + ((1 : Int32))) < 0 ∧ (x3 + ((1 : Int32))).toNatClampNeg < L then
                            (f_X9_table n (xs (x3 + ((1 : Int32))).toNatClampNeg) A).bind fun q77 =>
                            (f_X10_table n (xs (x3 + ((1 : Int32))).toNatClampNeg) q77.2).bind fun q79 =>
                            if q77.1 = q79.1 then
                              g_law n L xs m (x3 + 8) q79.2
                            else
                              some ((0 : Int32), q79.2)
                          else
                            none
                        else
                          if ((xs (x3).toNatClampNeg) &&& ((63 : Int32))) = 9 then
                            if ¬ (x3 + ((1 : Int32))) < 0 ∧ (x3 + ((1 : Int32))).toNatClampNeg < L then
                              if ¬ (x3 + ((2 : Int32))) < 0 ∧ (x3 + ((2 : Int32))).toNatClampNeg < L then
                                (f_X9_where n (xs (x3 + ((1 : Int32))).toNatClampNeg) (xs (x3 + ((2 : Int32))).toNatClampNeg) A).bind fun q85 =>
                                (f_X10_where n (xs (x3 + ((1 : Int32))).toNatClampNeg) (xs (x3 + ((2 : Int32))).toNatClampNeg) q85.2).bind fun q87 =>
                                if q85.1 = q87.1 then
                                  g_law n L xs m (x3 + 8) q87.2
                                else
                                  some ((0 : Int32), q87.2)
                              else
                                none
                            else
                              none
                          else
                            if ((xs (x3).toNatClampNeg) &&& ((63 : Int32))) = 10 then
                              if ¬ (x3 + ((1 : Int32))) < 0 ∧ (x3 + ((1 : Int32))).toNatClampNeg < L then
                                if ¬ (x3 + ((2 : Int32))) < 0 ∧ (x3 + ((2 : Int32))).toNatClampNeg < L then
                                  (f_X9_saw n (xs (x3 + ((1 : Int32))).toNatClampNeg) (xs (x3 + ((2 : Int32))).toNatClampNeg) A).bind fun q93 =>
                                  (f_X10_saw n (xs (x3 + ((1 : Int32))).toNatClampNeg) (xs (x3 + ((2 : Int32))).toNatClampNeg) q93.2).bind fun q95 =>
                                  if q93.1 = q95.1 then
                                    g_law n L xs m (x3 + 8) q95.2
                                  else
                                    some ((0 : Int32), q95.2)
                                else
                                  none
                              else
                                none
                            else
                              if ((xs (x3).toNatClampNeg) &&& ((63 : Int32))) = 11 then
                                if ¬ (x3 + ((1 : Int32))) < 0 ∧ (x3 + ((1 : Int32))).toNatClampNeg < L then
                                  if ¬ (x3 + ((2 : Int32))) < 0 ∧ (x3 + ((2 : Int32))).toNatClampNeg < L then
                                    (f_X9_post n (xs (x3 + ((1 : Int32))).toNatClampNeg) (xs (x3 + ((2 : Int32))).toNatClampNeg) A).bind fun q101 =>
                                    (f_X10_post n (xs (x3 + ((1 : Int32))).toNatClampNeg) (xs (x3 + ((2 : Int32))).toNatClampNeg) q101.2).bind fun q103 =>
                                    if q101.1 = q103.1 then
                                      g_law n L xs m (x3 + 8) q103.2
                                    else
                                      some ((0 : Int32), q103.2)
                                  else
                                    none
                                else
                                  none
                              else
                                if ((xs (x3).toNatClampNeg) &&& ((63 : Int32))) = 12 then
                                  if ¬ (x3 + ((1 : Int32))) < 0 ∧ (x3 + ((1 : Int32))).toNatClampNeg < L then
                                    if ¬ (x3 + ((2 : Int32))) < 0 ∧ (x3 + ((2 : Int32))).toNatClampNeg < L then
                                      if ¬ (x3 + ((3 : Int32))) < 0 ∧ (x3 + ((3 : Int32))).toNatClampNeg < L then
                                        if ¬ (x3 + ((4 : Int32))) < 0 ∧ (x3 + ((4 : Int32))).toNatClampNeg < L then
                                          if ¬ (x3 + ((5 : Int32))) < 0 ∧ (x3 + ((5 : Int32))).toNatClampNeg < L then
                                            if ¬ (x3 + ((6 : Int32))) < 0 ∧ (x3 + ((6 : Int32))).toNatClampNeg < L then
                                              if ¬ (x3 + ((7 : Int32))) < 0 ∧ (x3 + ((7 : Int32))).toNatClampNeg < L then
                                                (f_X9_send n (xs (x3 + ((1 : Int32))).toNatClampNeg) (xs (x3 + ((2 : Int32))).toNatClampNeg) (xs (x3 + ((3 : Int32))).toNatClampNeg) (xs (x3 + ((4 : Int32))).toNatClampNeg) (xs (x3 + ((5 : Int32))).toNatClampNeg) (xs (x3 + ((6 : Int32))).toNatClampNeg) (xs (x3 + ((7 : Int32))).toNatClampNeg) A).bind fun q114 =>
                                                (f_X10_send n (xs (x3 + ((1 : Int32))).toNatClampNeg) (xs (x3 + ((2 : Int32))).toNatClampNeg) (xs (x3 + ((3 : Int32))).toNatClampNeg) (xs (x3 + ((4 : Int32))).toNatClampNeg) (xs (x3 + ((5 : Int32))).toNatClampNeg) (xs (x3 + ((6 : Int32))).toNatClampNeg) (xs (x3 + ((7 : Int32))).toNatClampNeg) q114.2).bind fun q116 =>
                                                if q114.1 = q116.1 then
                                                  g_law n L xs m (x3 + 8) q116.2
                                                else
                                                  some ((0 : Int32), q116.2)
                                              else
                                                none
                                            else
                                              none
                                          else
                                            none
                                        else
                                          none
                                      else
                                        none
                                    else
                                      none
                                  else
                                    none
                                else
                                  if ((xs (x3).toNatClampNeg) &&& ((63 : Int32))) = 13 then
                                    if ¬ (x3 + ((1 : Int32))) < 0 ∧ (x3 + ((1 : Int32))).toNatClampNeg < L then
                                      (f_X9_right n (xs (x3 + ((1 : Int32))).toNatClampNeg) A).bind fun q121 =>
                                      (f_X10_right n (xs (x3 + ((1 : Int32))).toNatClampNeg) q121.2).bind fun q123 =>
                                      if q121.1 = q123.1 then
                                        g_law n L xs m (x3 + 8) q123.2
                                      else
                                        some ((0 : Int32), q123.2)
                                    else
                                      none
                                  else
                                    if ((xs (x3).toNatClampNeg) &&& ((63 : Int32))) = 14 then
                                      if ¬ (x3 + ((1 : Int32))) < 0 ∧ (x3 + ((1 : Int32))).toNatClampNeg < L then
                                        (f_X9_comes n (xs (x3 + ((1 : Int32))).toNatClampNeg) A).bind fun q128 =>
                                        (f_X10_comes n (xs (x3 + ((1 : Int32))).toNatClampNeg) q128.2).bind fun q130 =>
                                        if q128.1 = q130.1 then
                                          g_law n L xs m (x3 + 8) q130.2
                                        else
                                          some ((0 : Int32), q130.2)
                                      else
                                        none
                                    else
                                      if ((xs (x3).toNatClampNeg) &&& ((63 : Int32))) = 15 then
                                        if ¬ (x3 + ((1 : Int32))) < 0 ∧ (x3 + ((1 : Int32))).toNatClampNeg < L then
                                          (f_X9_slips n (xs (x3 + ((1 : Int32))).toNatClampNeg) A).bind fun q135 =>
                                          (f_X10_slips n (xs (x3 + ((1 : Int32))).toNatClampNeg) q135.2).bind fun q137 =>
                                          if q135.1 = q137.1 then
                                            g_law n L xs m (x3 + 8) q137.2
                                          else
                                            some ((0 : Int32), q137.2)
                                        else
                                          none
                                      else
                                        if ((xs (x3).toNatClampNeg) &&& ((63 : Int32))) = 16 then
                                          if ¬ (x3 + ((1 : Int32))) < 0 ∧ (x3 + ((1 : Int32))).toNatClampNeg < L then
                                            if ¬ (x3 + ((2 : Int32))) < 0 ∧ (x3 + ((2 : Int32))).toNatClampNeg < L then
                                              (f_X9_lacks n (xs (x3 + ((1 : Int32))).toNatClampNeg) (xs (x3 + ((2 : Int32))).toNatClampNeg) A).bind fun q143 =>
                                              (f_X10_lacks n (xs (x3 + ((1 : Int32))).toNatClampNeg) (xs (x3 + ((2 : Int32))).toNatClampNeg) q143.2).bind fun q145 =>
                                              if q143.1 = q145.1 then
                                                g_law n L xs m (x3 + 8) q145.2
                                              else
                                                some ((0 : Int32), q145.2)
                                            else
                                              none
                                          else
                                            none
                                        else
                                          if ((xs (x3).toNatClampNeg) &&& ((63 : Int32))) = 17 then
                                            if ¬ (x3 + ((1 : Int32))) < 0 ∧ (x3 + ((1 : Int32))).toNatClampNeg < L then
                                              (f_X9_ill n (xs (x3 + ((1 : Int32))).toNatClampNeg) A).bind fun q150 =>
                                              (f_X10_ill n (xs (x3 + ((1 : Int32))).toNatClampNeg) q150.2).bind fun q152 =>
                                              if q150.1 = q152.1 then
                                                g_law n L xs m (x3 + 8) q152.2
                                              else
                                                some ((0 : Int32), q152.2)
                                            else
                                              none
                                          else
                                            if ((xs (x3).toNatClampNeg) &&& ((63 : Int32))) = 18 then
                                              if ¬ (x3 + ((1 : Int32))) < 0 ∧ (x3 + ((1 : Int32))).toNatClampNeg < L then
                                                if ¬ (x3 + ((2 : Int32))) < 0 ∧ (x3 + ((2 : Int32))).toNatClampNeg < L then
                                                  if ¬ (x3 + ((3 : Int32))) < 0 ∧ (x3 + ((3 : Int32))).toNatClampNeg < L then
                                                    if ¬ (x3 + ((4 : Int32))) < 0 ∧ (x3 + ((4 : Int32))).toNatClampNeg < L then
                                                      (f_X9_eyes n (xs (x3 + ((1 : Int32))).toNatClampNeg) (xs (x3 + ((2 : Int32))).toNatClampNeg) (xs (x3 + ((3 : Int32))).toNatClampNeg) (xs (x3 + ((4 : Int32))).toNatClampNeg) A).bind fun q160 =>
                                                      (f_X10_eyes n (xs (x3 + ((1 : Int32))).toNatClampNeg) (xs (x3 + ((2 : Int32))).toNatClampNeg) (xs (x3 + ((3 : Int32))).toNatClampNeg) (xs (x3 + ((4 : Int32))).toNatClampNeg) q160.2).bind fun q162 =>
                                                      if q160.1 = q162.1 then
                                                        g_law n L xs m (x3 + 8) q162.2
                                                      else
                                                        some ((0 : Int32), q162.2)
                                                    else
                                                      none
                                                  else
                                                    none
                                                else
                                                  none
                                              else
                                                none
                                            else
                                              if ((xs (x3).toNatClampNeg) &&& ((63 : Int32))) = 19 then
                                                if ¬ (x3 + ((1 : Int32))) < 0 ∧ (x3 + ((1 : Int32))).toNatClampNeg < L then
                                                  if ¬ (x3 + ((2 : Int32))) < 0 ∧ (x3 + ((2 : Int32))).toNatClampNeg < L then
                                                    (f_X9_told n (xs (x3 + ((1 : Int32))).toNatClampNeg) (xs (x3 + ((2 : Int32))).toNatClampNeg) A).bind fun q168 =>
                                                    (f_X10_told n (xs (x3 + ((1 : Int32))).toNatClampNeg) (xs (x3 + ((2 : Int32))).toNatClampNeg) q168.2).bind fun q170 =>
                                                    if q168.1 = q170.1 then
                                                      g_law n L xs m (x3 + 8) q170.2
                                                    else
                                                      some ((0 : Int32), q170.2)
                                                  else
                                                    none
                                                else
                                                  none
                                              else
                                                if ((xs (x3).toNatClampNeg) &&& ((63 : Int32))) = 20 then
                                                  if ¬ (x3 + ((1 : Int32))) < 0 ∧ (x3 + ((1 : Int32))).toNatClampNeg < L then
                                                    if ¬ (x3 + ((2 : Int32))) < 0 ∧ (x3 + ((2 : Int32))).toNatClampNeg < L then
                                                      if ¬ (x3 + ((3 : Int32))) < 0 ∧ (x3 + ((3 : Int32))).toNatClampNeg < L then
                                                        (f_X9_trust n (xs (x3 + ((1 : Int32))).toNatClampNeg) (xs (x3 + ((2 : Int32))).toNatClampNeg) (xs (x3 + ((3 : Int32))).toNatClampNeg) A).bind fun q177 =>
                                                        (f_X10_trust n (xs (x3 + ((1 : Int32))).toNatClampNeg) (xs (x3 + ((2 : Int32))).toNatClampNeg) (xs (x3 + ((3 : Int32))).toNatClampNeg) q177.2).bind fun q179 =>
                                                        if q177.1 = q179.1 then
                                                          g_law n L xs m (x3 + 8) q179.2
                                                        else
                                                          some ((0 : Int32), q179.2)
                                                      else
                                                        none
                                                    else
                                                      none
                                                  else
                                                    none
                                                else
                                                  if ((xs (x3).toNatClampNeg) &&& ((63 : Int32))) = 21 then
                                                    if ¬ (x3 + ((1 : Int32))) < 0 ∧ (x3 + ((1 : Int32))).toNatClampNeg < L then
                                                      if ¬ (x3 + ((2 : Int32))) < 0 ∧ (x3 + ((2 : Int32))).toNatClampNeg < L then
                                                        if ¬ (x3 + ((3 : Int32))) < 0 ∧ (x3 + ((3 : Int32))).toNatClampNeg < L then
                                                          if ¬ (x3 + ((4 : Int32))) < 0 ∧ (x3 + ((4 : Int32))).toNatClampNeg < L then
                                                            if ¬ (x3 + ((5 : Int32))) < 0 ∧ (x3 + ((5 : Int32))).toNatClampNeg < L then
                                                              (f_X9_concluded n (xs (x3 + ((1 : Int32))).toNatClampNeg) (xs (x3 + ((2 : Int32))).toNatClampNeg) (xs (x3 + ((3 : Int32))).toNatClampNeg) (xs (x3 + ((4 : Int32))).toNatClampNeg) (xs (x3 + ((5 : Int32))).toNatClampNeg) A).bind fun q188 =>
                                                              (f_X10_concluded n (xs (x3 + ((1 : Int32))).toNatClampNeg) (xs (x3 + ((2 : Int32))).toNatClampNeg) (xs (x3 + ((3 : Int32))).toNatClampNeg) (xs (x3 + ((4 : Int32))).toNatClampNeg) (xs (x3 + ((5 : Int32))).toNatClampNeg) q188.2).bind fun q190 =>
                                                              if q188.1 = q190.1 then
                                                                g_law n L xs m (x3 + 8) q190.2
                                                              else
                                                                some ((0 : Int32), q190.2)
                                                            else
                                                              none
                                                          else
                                                            none
                                                        else
                                                          none
                                                      else
                                                        none
                                                    else
                                                      none
                                                  else
                                                    if ((xs (x3).toNatClampNeg) &&& ((63 : Int32))) = 22 then
                                                      if ¬ (x3 + ((1 : Int32))) < 0 ∧ (x3 + ((1 : Int32))).toNatClampNeg < L then
                                                        if ¬ (x3 + ((2 : Int32))) < 0 ∧ (x3 + ((2 : Int32))).toNatClampNeg < L then
                                                          if ¬ (x3 + ((3 : Int32))) < 0 ∧ (x3 + ((3 : Int32))).toNatClampNeg < L then
                                                            if ¬ (x3 + ((4 : Int32))) < 0 ∧ (x3 + ((4 : Int32))).toNatClampNeg < L then
                                                              if ¬ (x3 + ((5 : Int32))) < 0 ∧ (x3 + ((5 : Int32))).toNatClampNeg < L then
                                                                if ¬ (x3 + ((6 : Int32))) < 0 ∧ (x3 + ((6 : Int32))).toNatClampNeg < L then
                                                                  (f_X9_weight n (xs (x3 + ((1 : Int32))).toNatClampNeg) (xs (x3 + ((2 : Int32))).toNatClampNeg) (xs (x3 + ((3 : Int32))).toNatClampNeg) (xs (x3 + ((4 : Int32))).toNatClampNeg) (xs (x3 + ((5 : Int32))).toNatClampNeg) (xs (x3 + ((6 : Int32))).toNatClampNeg) A).bind fun q200 =>
                                                                  (f_X10_weight n (xs (x3 + ((1 : Int32))).toNatClampNeg) (xs (x3 + ((2 : Int32))).toNatClampNeg) (xs (x3 + ((3 : Int32))).toNatClampNeg) (xs (x3 + ((4 : Int32))).toNatClampNeg) (xs (x3 + ((5 : Int32))).toNatClampNeg) (xs (x3 + ((6 : Int32))).toNatClampNeg) q200.2).bind fun q202 =>
                                                                  if q200.1 = q202.1 then
                                                                    g_law n L xs m (x3 + 8) q202.2
                                                                  else
                                                                    some ((0 : Int32), q202.2)
                                                                else
                                                                  none
                                                              else
                                                                none
                                                            else
                                                              none
                                                          else
                                                            none
                                                        else
                                                          none
                                                      else
                                                        none
                                                    else
                                                      if ((xs (x3).toNatClampNeg) &&& ((63 : Int32))) = 23 then
                                                        if ¬ (x3 + ((1 : Int32))) < 0 ∧ (x3 + ((1 : Int32))).toNatClampNeg < L then
                                                          if ¬ (x3 + ((2 : Int32))) < 0 ∧ (x3 + ((2 : Int32))).toNatClampNeg < L then
                                                            if ¬ (x3 + ((3 : Int32))) < 0 ∧ (x3 + ((3 : Int32))).toNatClampNeg < L then
                                                              if ¬ (x3 + ((4 : Int32))) < 0 ∧ (x3 + ((4 : Int32))).toNatClampNeg < L then
                                                                (f_X9_story n (xs (x3 + ((1 : Int32))).toNatClampNeg) (xs (x3 + ((2 : Int32))).toNatClampNeg) (xs (x3 + ((3 : Int32))).toNatClampNeg) (xs (x3 + ((4 : Int32))).toNatClampNeg) A).bind fun q210 =>
                                                                (f_X10_story n (xs (x3 + ((1 : Int32))).toNatClampNeg) (xs (x3 + ((2 : Int32))).toNatClampNeg) (xs (x3 + ((3 : Int32))).toNatClampNeg) (xs (x3 + ((4 : Int32))).toNatClampNeg) q210.2).bind fun q212 =>
                                                                if q210.1 = q212.1 then
                                                                  g_law n L xs m (x3 + 8) q212.2
                                                                else
                                                                  some ((0 : Int32), q212.2)
                                                              else
                                                                none
                                                            else
                                                              none
                                                          else
                                                            none
                                                        else
                                                          none
                                                      else
                                                        if ((xs (x3).toNatClampNeg) &&& ((63 : Int32))) = 24 then
                                                          if ¬ (x3 + ((1 : Int32))) < 0 ∧ (x3 + ((1 : Int32))).toNatClampNeg < L then
                                                            if ¬ (x3 + ((2 : Int32))) < 0 ∧ (x3 + ((2 : Int32))).toNatClampNeg < L then
                                                              (f_X9_holds n (xs (x3 + ((1 : Int32))).toNatClampNeg) (xs (x3 + ((2 : Int32))).toNatClampNeg) A).bind fun q218 =>
                                                              (f_X10_holds n (xs (x3 + ((1 : Int32))).toNatClampNeg) (xs (x3 + ((2 : Int32))).toNatClampNeg) q218.2).bind fun q220 =>
                                                              if q218.1 = q220.1 then
                                                                g_law n L xs m (x3 + 8) q220.2
                                                              else
                                                                some ((0 : Int32), q220.2)
                                                            else
                                                              none
                                                          else
                                                            none
                                                        else
                                                          if ((xs (x3).toNatClampNeg) &&& ((63 : Int32))) = 25 then
                                                            if ¬ (x3 + ((1 : Int32))) < 0 ∧ (x3 + ((1 : Int32))).toNatClampNeg < L then
                                                              if ¬ (x3 + ((2 : Int32))) < 0 ∧ (x3 + ((2 : Int32))).toNatClampNeg < L then
                                                                (f_X9_keeps n (xs (x3 + ((1 : Int32))).toNatClampNeg) (xs (x3 + ((2 : Int32))).toNatClampNeg) A).bind fun q226 =>
                                                                (f_X10_keeps n (xs (x3 + ((1 : Int32))).toNatClampNeg) (xs (x3 + ((2 : Int32))).toNatClampNeg) q226.2).bind fun q228 =>
                                                                if q226.1 = q228.1 then
                                                                  g_law n L xs m (x3 + 8) q228.2
                                                                else
                                                                  some ((0 : Int32), q228.2)
                                                              else
                                                                none
                                                            else
                                                              none
                                                          else
                                                            if ((xs (x3).toNatClampNeg) &&& ((63 : Int32))) = 26 then
                                                              if ¬ (x3 + ((1 : Int32))) < 0 ∧ (x3 + ((1 : Int32))).toNatClampNeg < L then
                                                                if ¬ (x3 + ((2 : Int32))) < 0 ∧ (x3 + ((2 : Int32))).toNatClampNeg < L then
                                                                  if ¬ (x3 + ((3 : Int32))) < 0 ∧ (x3 + ((3 : Int32))).toNatClampNeg < L then
                                                                    if ¬ (x3 + ((4 : Int32))) < 0 ∧ (x3 + ((4 : Int32))).toNatClampNeg < L then
                                                                      if ¬ (x3 + ((5 : Int32))) < 0 ∧ (x3 + ((5 : Int32))).toNatClampNeg < L then
                                                                        if ¬ (x3 + ((6 : Int32))) < 0 ∧ (x3 + ((6 : Int32))).toNatClampNeg < L then
                                                                          if ¬ (x3 + ((7 : Int32))) < 0 ∧ (x3 + ((7 : Int32))).toNatClampNeg < L then
                                                                            (f_X9_draft n (xs (x3 + ((1 : Int32))).toNatClampNeg) (xs (x3 + ((2 : Int32))).toNatClampNeg) (xs (x3 + ((3 : Int32))).toNatClampNeg) (xs (x3 + ((4 : Int32))).toNatClampNeg) (xs (x3 + ((5 : Int32))).toNatClampNeg) (xs (x3 + ((6 : Int32))).toNatClampNeg) (xs (x3 + ((7 : Int32))).toNatClampNeg) A).bind fun q239 =>
                                                                            (f_X10_draft n (xs (x3 + ((1 : Int32))).toNatClampNeg) (xs (x3 + ((2 : Int32))).toNatClampNeg) (xs (x3 + ((3 : Int32))).toNatClampNeg) (xs (x3 + ((4 : Int32))).toNatClampNeg) (xs (x3 + ((5 : Int32))).toNatClampNeg) (xs (x3 + ((6 : Int32))).toNatClampNeg) (xs (x3 + ((7 : Int32))).toNatClampNeg) q239.2).bind fun q241 =>
                                                                            if q239.1 = q241.1 then
                                                                              g_law n L xs m (x3 + 8) q241.2
                                                                            else
                                                                              some ((0 : Int32), q241.2)
                                                                          else
                                                                            none
                                                                        else
                                                                          none
                                                                      else
                                                                        none
                                                                    else
                                                                      none
                                                                  else
                                                                    none
                                                                else
                                                                  none
                                                              else
                                                                none
                                                            else
                                                              if ((xs (x3).toNatClampNeg) &&& ((63 : Int32))) = 27 then
                                                                if ¬ (x3 + ((1 : Int32))) < 0 ∧ (x3 + ((1 : Int32))).toNatClampNeg < L then
                                                                  if ¬ (x3 + ((2 : Int32))) < 0 ∧ (x3 + ((2 : Int32))).toNatClampNeg < L then
                                                                    if ¬ (x3 + ((3 : Int32))) < 0 ∧ (x3 + ((3 : Int32))).toNatClampNeg < L then
                                                                      (f_X9_mark n (xs (x3 + ((1 : Int32))).toNatClampNeg) (xs (x3 + ((2 : Int32))).toNatClampNeg) (xs (x3 + ((3 : Int32))).toNatClampNeg) A).bind fun q248 =>
                                                                      (f_X10_mark n (xs (x3 + ((1 : Int32))).toNatClampNeg) (xs (x3 + ((2 : Int32))).toNatClampNeg) (xs (x3 + ((3 : Int32))).toNatClampNeg) q248.2).bind fun q250 =>
                                                                      if q248.1 = q250.1 then
                                                                        g_law n L xs m (x3 + 8) q250.2
                                                                      else
                                                                        some ((0 : Int32), q250.2)
                                                                    else
                                                                      none
                                                                  else
                                                                    none
                                                                else
                                                                  none
                                                              else
                                                                if ((xs (x3).toNatClampNeg) &&& ((63 : Int32))) = 28 then
                                                                  if ¬ (x3 + ((1 : Int32))) < 0 ∧ (x3 + ((1 : Int32))).toNatClampNeg < L then
                                                                    (f_X9_make n (xs (x3 + ((1 : Int32))).toNatClampNeg) A).bind fun q255 =>
                                                                    (f_X10_make n (xs (x3 + ((1 : Int32))).toNatClampNeg) q255.2).bind fun q257 =>
                                                                    if q255.1 = q257.1 then
                                                                      g_law n L xs m (x3 + 8) q257.2
                                                                    else
                                                                      some ((0 : Int32), q257.2)
                                                                  else
                                                                    none
                                                                else
                                                                  if ((xs (x3).toNatClampNeg) &&& ((63 : Int32))) = 29 then
                                                                    if ¬ (x3 + ((1 : Int32))) < 0 ∧ (x3 + ((1 : Int32))).toNatClampNeg < L then
                                                                      if ¬ (x3 + ((2 : Int32))) < 0 ∧ (x3 + ((2 : Int32))).toNatClampNeg < L then
                                                                        if ¬ (x3 + ((3 : Int32))) < 0 ∧ (x3 + ((3 : Int32))).toNatClampNeg < L then
                                                                          (f_X9_buy n (xs (x3 + ((1 : Int32))).toNatClampNeg) (xs (x3 + ((2 : Int32))).toNatClampNeg) (xs (x3 + ((3 : Int32))).toNatClampNeg) A).bind fun q264 =>
                                                                          (f_X10_buy n (xs (x3 + ((1 : Int32))).toNatClampNeg) (xs (x3 + ((2 : Int32))).toNatClampNeg) (xs (x3 + ((3 : Int32))).toNatClampNeg) q264.2).bind fun q266 =>
                                                                          if q264.1 = q266.1 then
                                                                            g_law n L xs m (x3 + 8) q266.2
                                                                          else
                                                                            some ((0 : Int32), q266.2)
                                                                        else
                                                                          none
                                                                      else
                                                                        none
                                                                    else
                                                                      none
                                                                  else
                                                                    if ((xs (x3).toNatClampNeg) &&& ((63 : Int32))) = 30 then
                                                                      if ¬ (x3 + ((1 : Int32))) < 0 ∧ (x3 + ((1 : Int32))).toNatClampNeg < L then
                                                                        if ¬ (x3 + ((2 : Int32))) < 0 ∧ (x3 + ((2 : Int32))).toNatClampNeg < L then
                                                                          if ¬ (x3 + ((3 : Int32))) < 0 ∧ (x3 + ((3 : Int32))).toNatClampNeg < L then
                                                                            if ¬ (x3 + ((4 : Int32))) < 0 ∧ (x3 + ((4 : Int32))).toNatClampNeg < L then
                                                                              (f_X9_question n (xs (x3 + ((1 : Int32))).toNatClampNeg) (xs (x3 + ((2 : Int32))).toNatClampNeg) (xs (x3 + ((3 : Int32))).toNatClampNeg) (xs (x3 + ((4 : Int32))).toNatClampNeg) A).bind fun q274 =>
                                                                              (f_X10_question n (xs (x3 + ((1 : Int32))).toNatClampNeg) (xs (x3 + ((2 : Int32))).toNatClampNeg) (xs (x3 + ((3 : Int32))).toNatClampNeg) (xs (x3 + ((4 : Int32))).toNatClampNeg) q274.2).bind fun q276 =>
                                                                              if q274.1 = q276.1 then
                                                                                g_law n L xs m (x3 + 8) q276.2
                                                                              else
                                                                                some ((0 : Int32), q276.2)
                                                                            else
                                                                              none
                                                                          else
                                                                            none
                                                                        else
                                                                          none
                                                                      else
                                                                        none
                                                                    else
                                                                      if ((xs (x3).toNatClampNeg) &&& ((63 : Int32))) = 31 then
                                                                        if ¬ (x3 + ((1 : Int32))) < 0 ∧ (x3 + ((1 : Int32))).toNatClampNeg < L then
                                                                          if ¬ (x3 + ((2 : Int32))) < 0 ∧ (x3 + ((2 : Int32))).toNatClampNeg < L then
                                                                            (f_X9_pay n (xs (x3 + ((1 : Int32))).toNatClampNeg) (xs (x3 + ((2 : Int32))).toNatClampNeg) A).bind fun q282 =>
                                                                            (f_X10_pay n (xs (x3 + ((1 : Int32))).toNatClampNeg) (xs (x3 + ((2 : Int32))).toNatClampNeg) q282.2).bind fun q284 =>
                                                                            if q282.1 = q284.1 then
                                                                              g_law n L xs m (x3 + 8) q284.2
                                                                            else
                                                                              some ((0 : Int32), q284.2)
                                                                          else
                                                                            none
                                                                        else
                                                                          none
                                                                      else
                                                                        if ((xs (x3).toNatClampNeg) &&& ((63 : Int32))) = 32 then
                                                                          (f_X9_which n  A).bind fun q288 =>
                                                                          (f_X10_which n  q288.2).bind fun q290 =>
                                                                          if q288.1 = q290.1 then
                                                                            g_law n L xs m (x3 + 8) q290.2
                                                                          else
                                                                            some ((0 : Int32), q290.2)
                                                                        else
                                                                          if ((xs (x3).toNatClampNeg) &&& ((63 : Int32))) = 33 then
                                                                            if ¬ (x3 + ((1 : Int32))) < 0 ∧ (x3 + ((1 : Int32))).toNatClampNeg < L then
                                                                              if ¬ (x3 + ((2 : Int32))) < 0 ∧ (x3 + ((2 : Int32))).toNatClampNeg < L then
                                                                                if ¬ (x3 + ((3 : Int32))) < 0 ∧ (x3 + ((3 : Int32))).toNatClampNeg < L then
                                                                                  (f_X9_warning n (xs (x3 + ((1 : Int32))).toNatClampNeg) (xs (x3 + ((2 : Int32))).toNatClampNeg) (xs (x3 + ((3 : Int32))).toNatClampNeg) A).bind fun q297 =>
                                                                                  (f_X10_warning n (xs (x3 + ((1 : Int32))).toNatClampNeg) (xs (x3 + ((2 : Int32))).toNatClampNeg) (xs (x3 + ((3 : Int32))).toNatClampNeg) q297.2).bind fun q299 =>
                                                                                  if q297.1 = q299.1 then
                                                                                    g_law n L xs m (x3 + 8) q299.2
                                                                                  else
                                                                                    some ((0 : Int32), q299.2)
                                                                                else
                                                                                  none
                                                                              else
                                                                                none
                                                                            else
                                                                              none
                                                                          else
                                                                            if ((xs (x3).toNatClampNeg) &&& ((63 : Int32))) = 34 then
                                                                              if ¬ (x3 + ((1 : Int32))) < 0 ∧ (x3 + ((1 : Int32))).toNatClampNeg < L then
                                                                                (f_X9_count n (xs (x3 + ((1 : Int32))).toNatClampNeg) A).bind fun q304 =>
                                                                                (f_X10_count n (xs (x3 + ((1 : Int32))).toNatClampNeg) q304.2).bind fun q306 =>
                                                                                if q304.1 = q306.1 then
                                                                                  g_law n L xs m (x3 + 8) q306.2
                                                                                else
                                                                                  some ((0 : Int32), q306.2)
                                                                              else
                                                                                none
                                                                            else
                                                                              g_law n L xs m (x3 + 8) A
      else
        none
set_option maxRecDepth 100000 in
set_option maxHeartbeats 8000000 in
theorem l_law (n : Nat) (L : Nat) (xs : Nat → Int32) : ∀ (m : Nat) (x3 : Int32) (A : Mem) (q : Int32 × Mem), g_law n L xs m x3 A = some q → Ev cL_law 4 RL (some .boolean) 11 (some (L, xs)) 18 [(0, .ref 1000300), (1, .ref 0), (2, .ref 80), (3, .int x3)] [] A (RI q) := by
  intro m
  induction m with
  | zero => intro x3 A q h; exact absurd h (by simp [g_law])
  | succ m ih =>
    intro x3 A q h
    rw [g_law] at h
    refine ev_iload_n 3 dL_law_18 rfl rfl ?_
    refine ev_aload_n 0 dL_law_19 rfl rfl ?_
    refine ev_scn dL_law_20 ?_
    refine ev_bipush (v := 8) dL_law_21 (by decide) ?_
    refine ev_isub dL_law_23 ?_
    refine ev_icmp_gt (tgt := 1597) dL_law_24 (by decide) (fun c1 => ?_) (fun c1 => ?_)
    · have h := if_t c1 h
      refine ev_iconst (v := 1) dL_law_1597 (by decide) ?_
      cases h
      exact ev_iret dL_law_1598 rfl rfl ⟨rfl, rfl⟩
    · have h := if_f c1 h
      refine ev_aload_n 0 dL_law_27 rfl rfl ?_
      refine ev_iload_n 3 dL_law_28 rfl rfl ?_
      obtain ⟨c2, h⟩ := if_c h
      refine ev_scl dL_law_29 c2 ?_
      refine ev_bipush (v := 63) dL_law_30 (by decide) ?_
      refine ev_iand dL_law_32 ?_
      by_cases c3 : ((xs (x3).toNatClampNeg) &&& ((63 : Int32))) = 0
      · have h := if_t c3 h
        refine ev_tin 0 (off := 155) (tgt := 188) dL_law_33 c3 (by decide) (by decide) (by decide) (by decide) ?_
        refine ev_aload_n 1 dL_law_188 rfl rfl ?_
        refine ev_aload_n 0 dL_law_189 rfl rfl ?_
        refine ev_iload_n 3 dL_law_190 rfl rfl ?_
        refine ev_iconst (v := 1) dL_law_191 (by decide) ?_
        refine ev_iadd dL_law_192 ?_
        obtain ⟨c4, h⟩ := if_c h
        refine ev_scl dL_law_193 c4 ?_
        refine ev_aload_n 0 dL_law_194 rfl rfl ?_
        refine ev_iload_n 3 dL_law_195 rfl rfl ?_
        refine ev_iconst (v := 2) dL_law_196 (by decide) ?_
        refine ev_iadd dL_law_197 ?_
        obtain ⟨c5, h⟩ := if_c h
        refine ev_scl dL_law_198 c5 ?_
        obtain ⟨q6, e7, h⟩ := bd_c h
        refine ev_callVi (av := [.int (xs (x3 + ((1 : Int32))).toNatClampNeg), .int (xs (x3 + ((2 : Int32))).toNatClampNeg)]) dL_law_199 (c_X9_view n (xs (x3 + ((1 : Int32))).toNatClampNeg) (xs (x3 + ((2 : Int32))).toNatClampNeg)  A q6 e7) mk_X9_view lk_L_13 iv_X9_view (Or.inl ⟨9, _, by decide, rfl, by decide, rfl, rfl⟩) rfl (by decide) (by decide) (Nat.le_of_ble_eq_true rfl) rfl ?_
        refine ev_aload_n 2 dL_law_202 rfl rfl ?_
        refine ev_aload_n 0 dL_law_203 rfl rfl ?_
        refine ev_iload_n 3 dL_law_204 rfl rfl ?_
        refine ev_iconst (v := 1) dL_law_205 (by decide) ?_
        refine ev_iadd dL_law_206 ?_
        refine ev_scl dL_law_207 c4 ?_
        refine ev_aload_n 0 dL_law_208 rfl rfl ?_
        refine ev_iload_n 3 dL_law_209 rfl rfl ?_
        refine ev_iconst (v := 2) dL_law_210 (by decide) ?_
        refine ev_iadd dL_law_211 ?_
        refine ev_scl dL_law_212 c5 ?_
        obtain ⟨q8, e9, h⟩ := bd_c h
        refine ev_callVi (av := [.int (xs (x3 + ((1 : Int32))).toNatClampNeg), .int (xs (x3 + ((2 : Int32))).toNatClampNeg)]) dL_law_213 (c_X10_view n (xs (x3 + ((1 : Int32))).toNatClampNeg) (xs (x3 + ((2 : Int32))).toNatClampNeg)  q6.2 q8 e9) mk_X10_view lk_L_17 iv_X10_view (Or.inl ⟨10, _, by decide, rfl, by decide, rfl, rfl⟩) rfl (by decide) (by decide) (Nat.le_of_ble_eq_true rfl) rfl ?_
        refine ev_icmp_eq (tgt := 1591) dL_law_216 (by decide) (fun c10 => ?_) (fun c10 => ?_)
        · have h := if_t c10 h
          refine ev_iinc (v := x3 + 8) (ls' := [(3, .int (x3 + 8)), (0, .ref 1000300), (1, .ref 0), (2, .ref 80)]) 3 dL_law_1591 rfl rfl (by decide) rfl ?_
          refine ev_goto (tgt := 18) dL_law_1594 (by decide) ?_
          refine ev_pick [1, 2, 3, 0] (ls' := [(0, .ref 1000300), (1, .ref 0), (2, .ref 80), (3, .int (x3 + 8))]) rfl ?_
          exact ih (x3 + 8) _ q h
        · have h := if_f c10 h
          refine ev_iconst (v := 0) dL_law_219 (by decide) ?_
          cases h
          exact ev_iret dL_law_220 rfl rfl ⟨rfl, rfl⟩
      · have h := if_f c3 h
        by_cases c11 : ((xs (x3).toNatClampNeg) &&& ((63 : Int32))) = 1
        · have h := if_t c11 h
          refine ev_tin 1 (off := 188) (tgt := 221) dL_law_33 c11 (by decide) (by decide) (by decide) (by decide) ?_
          refine ev_aload_n 1 dL_law_221 rfl rfl ?_
          refine ev_aload_n 0 dL_law_222 rfl rfl ?_
          refine ev_iload_n 3 dL_law_223 rfl rfl ?_
          refine ev_iconst (v := 1) dL_law_224 (by decide) ?_
          refine ev_iadd dL_law_225 ?_
          obtain ⟨c12, h⟩ := if_c h
          refine ev_scl dL_law_226 c12 ?_
          refine ev_aload_n 0 dL_law_227 rfl rfl ?_
          refine ev_iload_n 3 dL_law_228 rfl rfl ?_
          refine ev_iconst (v := 2) dL_law_229 (by decide) ?_
          refine ev_iadd dL_law_230 ?_
          obtain ⟨c13, h⟩ := if_c h
          refine ev_scl dL_law_231 c13 ?_
          refine ev_aload_n 0 dL_law_232 rfl rfl ?_
          refine ev_iload_n 3 dL_law_233 rfl rfl ?_
          refine ev_iconst (v := 3) dL_law_234 (by decide) ?_
          refine ev_iadd dL_law_235 ?_
          obtain ⟨c14, h⟩ := if_c h
          refine ev_scl dL_law_236 c14 ?_
          refine ev_aload_n 0 dL_law_237 rfl rfl ?_
          refine ev_iload_n 3 dL_law_238 rfl rfl ?_
          refine ev_iconst (v := 4) dL_law_239 (by decide) ?_
          refine ev_iadd dL_law_240 ?_
          obtain ⟨c15, h⟩ := if_c h
          refine ev_scl dL_law_241 c15 ?_
          refine ev_aload_n 0 dL_law_242 rfl rfl ?_
          refine ev_iload_n 3 dL_law_243 rfl rfl ?_
          refine ev_iconst (v := 5) dL_law_244 (by decide) ?_
          refine ev_iadd dL_law_245 ?_
          obtain ⟨c16, h⟩ := if_c h
          refine ev_scl dL_law_246 c16 ?_
          refine ev_aload_n 0 dL_law_247 rfl rfl ?_
          refine ev_iload_n 3 dL_law_248 rfl rfl ?_
          refine ev_bipush (v := 6) dL_law_249 (by decide) ?_
          refine ev_iadd dL_law_251 ?_
          obtain ⟨c17, h⟩ := if_c h
          refine ev_scl dL_law_252 c17 ?_
          refine ev_if_eq (tgt := 260) dL_law_253 (by decide) (fun c18 => ?_) (fun c18 => ?_)
          · have h := if_t c18 h
            refine ev_iconst (v := 0) dL_law_260 (by decide) ?_
            obtain ⟨q19, e20, h⟩ := bd_c h
            refine ev_callVi (av := [.int (xs (x3 + ((1 : Int32))).toNatClampNeg), .int (xs (x3 + ((2 : Int32))).toNatClampNeg), .int (xs (x3 + ((3 : Int32))).toNatClampNeg), .int (xs (x3 + ((4 : Int32))).toNatClampNeg), .int (xs (x3 + ((5 : Int32))).toNatClampNeg), .int ((0 : Int32))]) dL_law_261 (c_X9_fact n (xs (x3 + ((1 : Int32))).toNatClampNeg) (xs (x3 + ((2 : Int32))).toNatClampNeg) (xs (x3 + ((3 : Int32))).toNatClampNeg) (xs (x3 + ((4 : Int32))).toNatClampNeg) (xs (x3 + ((5 : Int32))).toNatClampNeg) ((0 : Int32))  A q19 e20) mk_X9_fact lk_L_18 iv_X9_fact (Or.inl ⟨9, _, by decide, rfl, by decide, rfl, rfl⟩) rfl (by decide) (by decide) (Nat.le_of_ble_eq_true rfl) rfl ?_
            refine ev_aload_n 2 dL_law_264 rfl rfl ?_
            refine ev_aload_n 0 dL_law_265 rfl rfl ?_
            refine ev_iload_n 3 dL_law_266 rfl rfl ?_
            refine ev_iconst (v := 1) dL_law_267 (by decide) ?_
            refine ev_iadd dL_law_268 ?_
            refine ev_scl dL_law_269 c12 ?_
            refine ev_aload_n 0 dL_law_270 rfl rfl ?_
            refine ev_iload_n 3 dL_law_271 rfl rfl ?_
            refine ev_iconst (v := 2) dL_law_272 (by decide) ?_
            refine ev_iadd dL_law_273 ?_
            refine ev_scl dL_law_274 c13 ?_
            refine ev_aload_n 0 dL_law_275 rfl rfl ?_
            refine ev_iload_n 3 dL_law_276 rfl rfl ?_
            refine ev_iconst (v := 3) dL_law_277 (by decide) ?_
            refine ev_iadd dL_law_278 ?_
            refine ev_scl dL_law_279 c14 ?_
            refine ev_aload_n 0 dL_law_280 rfl rfl ?_
            refine ev_iload_n 3 dL_law_281 rfl rfl ?_
            refine ev_iconst (v := 4) dL_law_282 (by decide) ?_
            refine ev_iadd dL_law_283 ?_
            refine ev_scl dL_law_284 c15 ?_
            refine ev_aload_n 0 dL_law_285 rfl rfl ?_
            refine ev_iload_n 3 dL_law_286 rfl rfl ?_
            refine ev_iconst (v := 5) dL_law_287 (by decide) ?_
            refine ev_iadd dL_law_288 ?_
            refine ev_scl dL_law_289 c16 ?_
            refine ev_aload_n 0 dL_law_290 rfl rfl ?_
            refine ev_iload_n 3 dL_law_291 rfl rfl ?_
            refine ev_bipush (v := 6) dL_law_292 (by decide) ?_
            refine ev_iadd dL_law_294 ?_
            refine ev_scl dL_law_295 c17 ?_
            refine ev_if_eq (tgt := 303) dL_law_296 (by decide) (fun _ => ?_) (fun hh => absurd c18 hh)
            refine ev_iconst (v := 0) dL_law_303 (by decide) ?_
            obtain ⟨q21, e22, h⟩ := bd_c h
            refine ev_callVi (av := [.int (xs (x3 + ((1 : Int32))).toNatClampNeg), .int (xs (x3 + ((2 : Int32))).toNatClampNeg), .int (xs (x3 + ((3 : Int32))).toNatClampNeg), .int (xs (x3 + ((4 : Int32))).toNatClampNeg), .int (xs (x3 + ((5 : Int32))).toNatClampNeg), .int ((0 : Int32))]) dL_law_304 (c_X10_fact n (xs (x3 + ((1 : Int32))).toNatClampNeg) (xs (x3 + ((2 : Int32))).toNatClampNeg) (xs (x3 + ((3 : Int32))).toNatClampNeg) (xs (x3 + ((4 : Int32))).toNatClampNeg) (xs (x3 + ((5 : Int32))).toNatClampNeg) ((0 : Int32))  q19.2 q21 e22) mk_X10_fact lk_L_22 iv_X10_fact (Or.inl ⟨10, _, by decide, rfl, by decide, rfl, rfl⟩) rfl (by decide) (by decide) (Nat.le_of_ble_eq_true rfl) rfl ?_
            refine ev_icmp_eq (tgt := 1591) dL_law_307 (by decide) (fun c23 => ?_) (fun c23 => ?_)
            · have h := if_t c23 h
              refine ev_iinc (v := x3 + 8) (ls' := [(3, .int (x3 + 8)), (0, .ref 1000300), (1, .ref 0), (2, .ref 80)]) 3 dL_law_1591 rfl rfl (by decide) rfl ?_
              refine ev_goto (tgt := 18) dL_law_1594 (by decide) ?_
              refine ev_pick [1, 2, 3, 0] (ls' := [(0, .ref 1000300), (1, .ref 0), (2, .ref 80), (3, .int (x3 + 8))]) rfl ?_
              exact ih (x3 + 8) _ q h
            · have h := if_f c23 h
              refine ev_iconst (v := 0) dL_law_310 (by decide) ?_
              cases h
              exact ev_iret dL_law_311 rfl rfl ⟨rfl, rfl⟩
          · have h := if_f c18 h
            refine ev_iconst (v := 1) dL_law_256 (by decide) ?_
            refine ev_goto (tgt := 261) dL_law_257 (by decide) ?_
            obtain ⟨q24, e25, h⟩ := bd_c h
            refine ev_callVi (av := [.int (xs (x3 + ((1 : Int32))).toNatClampNeg), .int (xs (x3 + ((2 : Int32))).toNatClampNeg), .int (xs (x3 + ((3 : Int32))).toNatClampNeg), .int (xs (x3 + ((4 : Int32))).toNatClampNeg), .int (xs (x3 + ((5 : Int32))).toNatClampNeg), .int ((1 : Int32))]) dL_law_261 (c_X9_fact n (xs (x3 + ((1 : Int32))).toNatClampNeg) (xs (x3 + ((2 : Int32))).toNatClampNeg) (xs (x3 + ((3 : Int32))).toNatClampNeg) (xs (x3 + ((4 : Int32))).toNatClampNeg) (xs (x3 + ((5 : Int32))).toNatClampNeg) ((1 : Int32))  A q24 e25) mk_X9_fact lk_L_18 iv_X9_fact (Or.inl ⟨9, _, by decide, rfl, by decide, rfl, rfl⟩) rfl (by decide) (by decide) (Nat.le_of_ble_eq_true rfl) rfl ?_
            refine ev_aload_n 2 dL_law_264 rfl rfl ?_
            refine ev_aload_n 0 dL_law_265 rfl rfl ?_
            refine ev_iload_n 3 dL_law_266 rfl rfl ?_
            refine ev_iconst (v := 1) dL_law_267 (by decide) ?_
            refine ev_iadd dL_law_268 ?_
            refine ev_scl dL_law_269 c12 ?_
            refine ev_aload_n 0 dL_law_270 rfl rfl ?_
            refine ev_iload_n 3 dL_law_271 rfl rfl ?_
            refine ev_iconst (v := 2) dL_law_272 (by decide) ?_
            refine ev_iadd dL_law_273 ?_
            refine ev_scl dL_law_274 c13 ?_
            refine ev_aload_n 0 dL_law_275 rfl rfl ?_
            refine ev_iload_n 3 dL_law_276 rfl rfl ?_
            refine ev_iconst (v := 3) dL_law_277 (by decide) ?_
            refine ev_iadd dL_law_278 ?_
            refine ev_scl dL_law_279 c14 ?_
            refine ev_aload_n 0 dL_law_280 rfl rfl ?_
            refine ev_iload_n 3 dL_law_281 rfl rfl ?_
            refine ev_iconst (v := 4) dL_law_282 (by decide) ?_
            refine ev_iadd dL_law_283 ?_
            refine ev_scl dL_law_284 c15 ?_
            refine ev_aload_n 0 dL_law_285 rfl rfl ?_
            refine ev_iload_n 3 dL_law_286 rfl rfl ?_
            refine ev_iconst (v := 5) dL_law_287 (by decide) ?_
            refine ev_iadd dL_law_288 ?_
            refine ev_scl dL_law_289 c16 ?_
            refine ev_aload_n 0 dL_law_290 rfl rfl ?_
            refine ev_iload_n 3 dL_law_291 rfl rfl ?_
            refine ev_bipush (v := 6) dL_law_292 (by decide) ?_
            refine ev_iadd dL_law_294 ?_
            refine ev_scl dL_law_295 c17 ?_
            refine ev_if_eq (tgt := 303) dL_law_296 (by decide) (fun hh => absurd hh c18) (fun _ => ?_)
            refine ev_iconst (v := 1) dL_law_299 (by decide) ?_
            refine ev_goto (tgt := 304) dL_law_300 (by decide) ?_
            obtain ⟨q26, e27, h⟩ := bd_c h
            refine ev_callVi (av := [.int (xs (x3 + ((1 : Int32))).toNatClampNeg), .int (xs (x3 + ((2 : Int32))).toNatClampNeg), .int (xs (x3 + ((3 : Int32))).toNatClampNeg), .int (xs (x3 + ((4 : Int32))).toNatClampNeg), .int (xs (x3 + ((5 : Int32))).toNatClampNeg), .int ((1 : Int32))]) dL_law_304 (c_X10_fact n (xs (x3 + ((1 : Int32))).toNatClampNeg) (xs (x3 + ((2 : Int32))).toNatClampNeg) (xs (x3 + ((3 : Int32))).toNatClampNeg) (xs (x3 + ((4 : Int32))).toNatClampNeg) (xs (x3 + ((5 : Int32))).toNatClampNeg) ((1 : Int32))  q24.2 q26 e27) mk_X10_fact lk_L_22 iv_X10_fact (Or.inl ⟨10, _, by decide, rfl, by decide, rfl, rfl⟩) rfl (by decide) (by decide) (Nat.le_of_ble_eq_true rfl) rfl ?_
            refine ev_icmp_eq (tgt := 1591) dL_law_307 (by decide) (fun c28 => ?_) (fun c28 => ?_)
            · have h := if_t c28 h
              refine ev_iinc (v := x3 + 8) (ls' := [(3, .int (x3 + 8)), (0, .ref 1000300), (1, .ref 0), (2, .ref 80)]) 3 dL_law_1591 rfl rfl (by decide) rfl ?_
              refine ev_goto (tgt := 18) dL_law_1594 (by decide) ?_
              refine ev_pick [1, 2, 3, 0] (ls' := [(0, .ref 1000300), (1, .ref 0), (2, .ref 80), (3, .int (x3 + 8))]) rfl ?_
              exact ih (x3 + 8) _ q h
            · have h := if_f c28 h
              refine ev_iconst (v := 0) dL_law_310 (by decide) ?_
              cases h
              exact ev_iret dL_law_311 rfl rfl ⟨rfl, rfl⟩
        · have h := if_f c11 h
          by_cases c29 : ((xs (x3).toNatClampNeg) &&& ((63 : Int32))) = 2
          · have h := if_t c29 h
            refine ev_tin 2 (off := 279) (tgt := 312) dL_law_33 c29 (by decide) (by decide) (by decide) (by decide) ?_
            refine ev_aload_n 1 dL_law_312 rfl rfl ?_
            refine ev_aload_n 0 dL_law_313 rfl rfl ?_
            refine ev_iload_n 3 dL_law_314 rfl rfl ?_
            refine ev_iconst (v := 1) dL_law_315 (by decide) ?_
            refine ev_iadd dL_law_316 ?_
            obtain ⟨c30, h⟩ := if_c h
            refine ev_scl dL_law_317 c30 ?_
            refine ev_aload_n 0 dL_law_318 rfl rfl ?_
            refine ev_iload_n 3 dL_law_319 rfl rfl ?_
            refine ev_iconst (v := 2) dL_law_320 (by decide) ?_
            refine ev_iadd dL_law_321 ?_
            obtain ⟨c31, h⟩ := if_c h
            refine ev_scl dL_law_322 c31 ?_
            refine ev_aload_n 0 dL_law_323 rfl rfl ?_
            refine ev_iload_n 3 dL_law_324 rfl rfl ?_
            refine ev_iconst (v := 3) dL_law_325 (by decide) ?_
            refine ev_iadd dL_law_326 ?_
            obtain ⟨c32, h⟩ := if_c h
            refine ev_scl dL_law_327 c32 ?_
            obtain ⟨q33, e34, h⟩ := bd_c h
            refine ev_callVi (av := [.int (xs (x3 + ((1 : Int32))).toNatClampNeg), .int (xs (x3 + ((2 : Int32))).toNatClampNeg), .int (xs (x3 + ((3 : Int32))).toNatClampNeg)]) dL_law_328 (c_X9_world n (xs (x3 + ((1 : Int32))).toNatClampNeg) (xs (x3 + ((2 : Int32))).toNatClampNeg) (xs (x3 + ((3 : Int32))).toNatClampNeg)  A q33 e34) mk_X9_world lk_L_23 iv_X9_world (Or.inl ⟨9, _, by decide, rfl, by decide, rfl, rfl⟩) rfl (by decide) (by decide) (Nat.le_of_ble_eq_true rfl) rfl ?_
            refine ev_aload_n 2 dL_law_331 rfl rfl ?_
            refine ev_aload_n 0 dL_law_332 rfl rfl ?_
            refine ev_iload_n 3 dL_law_333 rfl rfl ?_
            refine ev_iconst (v := 1) dL_law_334 (by decide) ?_
            refine ev_iadd dL_law_335 ?_
            refine ev_scl dL_law_336 c30 ?_
            refine ev_aload_n 0 dL_law_337 rfl rfl ?_
            refine ev_iload_n 3 dL_law_338 rfl rfl ?_
            refine ev_iconst (v := 2) dL_law_339 (by decide) ?_
            refine ev_iadd dL_law_340 ?_
            refine ev_scl dL_law_341 c31 ?_
            refine ev_aload_n 0 dL_law_342 rfl rfl ?_
            refine ev_iload_n 3 dL_law_343 rfl rfl ?_
            refine ev_iconst (v := 3) dL_law_344 (by decide) ?_
            refine ev_iadd dL_law_345 ?_
            refine ev_scl dL_law_346 c32 ?_
            obtain ⟨q35, e36, h⟩ := bd_c h
            refine ev_callVi (av := [.int (xs (x3 + ((1 : Int32))).toNatClampNeg), .int (xs (x3 + ((2 : Int32))).toNatClampNeg), .int (xs (x3 + ((3 : Int32))).toNatClampNeg)]) dL_law_347 (c_X10_world n (xs (x3 + ((1 : Int32))).toNatClampNeg) (xs (x3 + ((2 : Int32))).toNatClampNeg) (xs (x3 + ((3 : Int32))).toNatClampNeg)  q33.2 q35 e36) mk_X10_world lk_L_27 iv_X10_world (Or.inl ⟨10, _, by decide, rfl, by decide, rfl, rfl⟩) rfl (by decide) (by decide) (Nat.le_of_ble_eq_true rfl) rfl ?_
            refine ev_icmp_eq (tgt := 1591) dL_law_350 (by decide) (fun c37 => ?_) (fun c37 => ?_)
            · have h := if_t c37 h
              refine ev_iinc (v := x3 + 8) (ls' := [(3, .int (x3 + 8)), (0, .ref 1000300), (1, .ref 0), (2, .ref 80)]) 3 dL_law_1591 rfl rfl (by decide) rfl ?_
              refine ev_goto (tgt := 18) dL_law_1594 (by decide) ?_
              refine ev_pick [1, 2, 3, 0] (ls' := [(0, .ref 1000300), (1, .ref 0), (2, .ref 80), (3, .int (x3 + 8))]) rfl ?_
              exact ih (x3 + 8) _ q h
            · have h := if_f c37 h
              refine ev_iconst (v := 0) dL_law_353 (by decide) ?_
              cases h
              exact ev_iret dL_law_354 rfl rfl ⟨rfl, rfl⟩
          · have h := if_f c29 h
            by_cases c38 : ((xs (x3).toNatClampNeg) &&& ((63 : Int32))) = 3
            · have h := if_t c38 h
              refine ev_tin 3 (off := 322) (tgt := 355) dL_law_33 c38 (by decide) (by decide) (by decide) (by decide) ?_
              refine ev_aload_n 1 dL_law_355 rfl rfl ?_
              refine ev_aload_n 0 dL_law_356 rfl rfl ?_
              refine ev_iload_n 3 dL_law_357 rfl rfl ?_
              refine ev_iconst (v := 1) dL_law_358 (by decide) ?_
              refine ev_iadd dL_law_359 ?_
              obtain ⟨c39, h⟩ := if_c h
              refine ev_scl dL_law_360 c39 ?_
              refine ev_aload_n 0 dL_law_361 rfl rfl ?_
              refine ev_iload_n 3 dL_law_362 rfl rfl ?_
              refine ev_iconst (v := 2) dL_law_363 (by decide) ?_
              refine ev_iadd dL_law_364 ?_
              obtain ⟨c40, h⟩ := if_c h
              refine ev_scl dL_law_365 c40 ?_
              obtain ⟨q41, e42, h⟩ := bd_c h
              refine ev_callVi (av := [.int (xs (x3 + ((1 : Int32))).toNatClampNeg), .int (xs (x3 + ((2 : Int32))).toNatClampNeg)]) dL_law_366 (c_X9_home n (xs (x3 + ((1 : Int32))).toNatClampNeg) (xs (x3 + ((2 : Int32))).toNatClampNeg)  A q41 e42) mk_X9_home lk_L_28 iv_X9_home (Or.inl ⟨9, _, by decide, rfl, by decide, rfl, rfl⟩) rfl (by decide) (by decide) (Nat.le_of_ble_eq_true rfl) rfl ?_
              refine ev_aload_n 2 dL_law_369 rfl rfl ?_
              refine ev_aload_n 0 dL_law_370 rfl rfl ?_
              refine ev_iload_n 3 dL_law_371 rfl rfl ?_
              refine ev_iconst (v := 1) dL_law_372 (by decide) ?_
              refine ev_iadd dL_law_373 ?_
              refine ev_scl dL_law_374 c39 ?_
              refine ev_aload_n 0 dL_law_375 rfl rfl ?_
              refine ev_iload_n 3 dL_law_376 rfl rfl ?_
              refine ev_iconst (v := 2) dL_law_377 (by decide) ?_
              refine ev_iadd dL_law_378 ?_
              refine ev_scl dL_law_379 c40 ?_
              obtain ⟨q43, e44, h⟩ := bd_c h
              refine ev_callVi (av := [.int (xs (x3 + ((1 : Int32))).toNatClampNeg), .int (xs (x3 + ((2 : Int32))).toNatClampNeg)]) dL_law_380 (c_X10_home n (xs (x3 + ((1 : Int32))).toNatClampNeg) (xs (x3 + ((2 : Int32))).toNatClampNeg)  q41.2 q43 e44) mk_X10_home lk_L_31 iv_X10_home (Or.inl ⟨10, _, by decide, rfl, by decide, rfl, rfl⟩) rfl (by decide) (by decide) (Nat.le_of_ble_eq_true rfl) rfl ?_
              refine ev_icmp_eq (tgt := 1591) dL_law_383 (by decide) (fun c45 => ?_) (fun c45 => ?_)
              · have h := if_t c45 h
                refine ev_iinc (v := x3 + 8) (ls' := [(3, .int (x3 + 8)), (0, .ref 1000300), (1, .ref 0), (2, .ref 80)]) 3 dL_law_1591 rfl rfl (by decide) rfl ?_
                refine ev_goto (tgt := 18) dL_law_1594 (by decide) ?_
                refine ev_pick [1, 2, 3, 0] (ls' := [(0, .ref 1000300), (1, .ref 0), (2, .ref 80), (3, .int (x3 + 8))]) rfl ?_
                exact ih (x3 + 8) _ q h
              · have h := if_f c45 h
                refine ev_iconst (v := 0) dL_law_386 (by decide) ?_
                cases h
                exact ev_iret dL_law_387 rfl rfl ⟨rfl, rfl⟩
            · have h := if_f c38 h
              by_cases c46 : ((xs (x3).toNatClampNeg) &&& ((63 : Int32))) = 4
              · have h := if_t c46 h
                refine ev_tin 4 (off := 355) (tgt := 388) dL_law_33 c46 (by decide) (by decide) (by decide) (by decide) ?_
                refine ev_aload_n 1 dL_law_388 rfl rfl ?_
                refine ev_aload_n 0 dL_law_389 rfl rfl ?_
                refine ev_iload_n 3 dL_law_390 rfl rfl ?_
                refine ev_iconst (v := 1) dL_law_391 (by decide) ?_
                refine ev_iadd dL_law_392 ?_
                obtain ⟨c47, h⟩ := if_c h
                refine ev_scl dL_law_393 c47 ?_
                refine ev_i2l dL_law_394 ?_
                refine ev_bipush (v := 32) dL_law_395 (by decide) ?_
                refine ev_lshl dL_law_397 ?_
                refine ev_aload_n 0 dL_law_398 rfl rfl ?_
                refine ev_iload_n 3 dL_law_399 rfl rfl ?_
                refine ev_iconst (v := 2) dL_law_400 (by decide) ?_
                refine ev_iadd dL_law_401 ?_
                obtain ⟨c48, h⟩ := if_c h
                refine ev_scl dL_law_402 c48 ?_
                refine ev_i2l dL_law_403 ?_
                refine ev_ldc2 dL_law_404 kc_L_32 ?_
                refine ev_land dL_law_407 ?_
                refine ev_lor dL_law_408 ?_
                refine ev_aload_n 0 dL_law_409 rfl rfl ?_
                refine ev_iload_n 3 dL_law_410 rfl rfl ?_
                refine ev_iconst (v := 3) dL_law_411 (by decide) ?_
                refine ev_iadd dL_law_412 ?_
                obtain ⟨c49, h⟩ := if_c h
                refine ev_scl dL_law_413 c49 ?_
                obtain ⟨q50, e51, h⟩ := bd_c h
                refine ev_callVi (av := [.long ((((xs (x3 + ((1 : Int32))).toNatClampNeg).toInt64) <<< (((32 : Int32)).toInt64 &&& 63)) ||| (((xs (x3 + ((2 : Int32))).toNatClampNeg).toInt64) &&& ((4294967295 : Int64)))), .int (xs (x3 + ((3 : Int32))).toNatClampNeg)]) dL_law_414 (c_X9_write n ((((xs (x3 + ((1 : Int32))).toNatClampNeg).toInt64) <<< (((32 : Int32)).toInt64 &&& 63)) ||| (((xs (x3 + ((2 : Int32))).toNatClampNeg).toInt64) &&& ((4294967295 : Int64)))) (xs (x3 + ((3 : Int32))).toNatClampNeg)  A q50 e51) mk_X9_write lk_L_34 iv_X9_write (Or.inl ⟨9, _, by decide, rfl, by decide, rfl, rfl⟩) rfl (by decide) (by decide) (Nat.le_of_ble_eq_true rfl) rfl ?_
                refine ev_aload_n 2 dL_law_417 rfl rfl ?_
                refine ev_aload_n 0 dL_law_418 rfl rfl ?_
                refine ev_iload_n 3 dL_law_419 rfl rfl ?_
                refine ev_iconst (v := 1) dL_law_420 (by decide) ?_
                refine ev_iadd dL_law_421 ?_
                refine ev_scl dL_law_422 c47 ?_
                refine ev_i2l dL_law_423 ?_
                refine ev_bipush (v := 32) dL_law_424 (by decide) ?_
                refine ev_lshl dL_law_426 ?_
                refine ev_aload_n 0 dL_law_427 rfl rfl ?_
                refine ev_iload_n 3 dL_law_428 rfl rfl ?_
                refine ev_iconst (v := 2) dL_law_429 (by decide) ?_
                refine ev_iadd dL_law_430 ?_
                refine ev_scl dL_law_431 c48 ?_
                refine ev_i2l dL_law_432 ?_
                refine ev_ldc2 dL_law_433 kc_L_32 ?_
                refine ev_land dL_law_436 ?_
                refine ev_lor dL_law_437 ?_
                refine ev_aload_n 0 dL_law_438 rfl rfl ?_
                refine ev_iload_n 3 dL_law_439 rfl rfl ?_
                refine ev_iconst (v := 3) dL_law_440 (by decide) ?_
                refine ev_iadd dL_law_441 ?_
                refine ev_scl dL_law_442 c49 ?_
                obtain ⟨q52, e53, h⟩ := bd_c h
                refine ev_callVi (av := [.long ((((xs (x3 + ((1 : Int32))).toNatClampNeg).toInt64) <<< (((32 : Int32)).toInt64 &&& 63)) ||| (((xs (x3 + ((2 : Int32))).toNatClampNeg).toInt64) &&& ((4294967295 : Int64)))), .int (xs (x3 + ((3 : Int32))).toNatClampNeg)]) dL_law_443 (c_X10_write n ((((xs (x3 + ((1 : Int32))).toNatClampNeg).toInt64) <<< (((32 : Int32)).toInt64 &&& 63)) ||| (((xs (x3 + ((2 : Int32))).toNatClampNeg).toInt64) &&& ((4294967295 : Int64)))) (xs (x3 + ((3 : Int32))).toNatClampNeg)  q50.2 q52 e53) mk_X10_write lk_L_38 iv_X10_write (Or.inl ⟨10, _, by decide, rfl, by decide, rfl, rfl⟩) rfl (by decide) (by decide) (Nat.le_of_ble_eq_true rfl) rfl ?_
                refine ev_icmp_eq (tgt := 1591) dL_law_446 (by decide) (fun c54 => ?_) (fun c54 => ?_)
                · have h := if_t c54 h
                  refine ev_iinc (v := x3 + 8) (ls' := [(3, .int (x3 + 8)), (0, .ref 1000300), (1, .ref 0), (2, .ref 80)]) 3 dL_law_1591 rfl rfl (by decide) rfl ?_
                  refine ev_goto (tgt := 18) dL_law_1594 (by decide) ?_
                  refine ev_pick [1, 2, 3, 0] (ls' := [(0, .ref 1000300), (1, .ref 0), (2, .ref 80), (3, .int (x3 + 8))]) rfl ?_
                  exact ih (x3 + 8) _ q h
                · have h := if_f c54 h
                  refine ev_iconst (v := 0) dL_law_449 (by decide) ?_
                  cases h
                  exact ev_iret dL_law_450 rfl rfl ⟨rfl, rfl⟩
              · have h := if_f c46 h
                by_cases c55 : ((xs (x3).toNatClampNeg) &&& ((63 : Int32))) = 5
                · have h := if_t c55 h
                  refine ev_tin 5 (off := 418) (tgt := 451) dL_law_33 c55 (by decide) (by decide) (by decide) (by decide) ?_
                  refine ev_aload_n 1 dL_law_451 rfl rfl ?_
                  obtain ⟨q56, e57, h⟩ := bd_c h
                  refine ev_callVi (av := []) dL_law_452 (c_X9_erase n   A q56 e57) mk_X9_erase lk_L_39 iv_X9_erase (Or.inl ⟨9, _, by decide, rfl, by decide, rfl, rfl⟩) rfl (by decide) (by decide) (Nat.le_of_ble_eq_true rfl) rfl ?_
                  refine ev_aload_n 2 dL_law_455 rfl rfl ?_
                  obtain ⟨q58, e59, h⟩ := bd_c h
                  refine ev_callVi (av := []) dL_law_456 (c_X10_erase n   q56.2 q58 e59) mk_X10_erase lk_L_43 iv_X10_erase (Or.inl ⟨10, _, by decide, rfl, by decide, rfl, rfl⟩) rfl (by decide) (by decide) (Nat.le_of_ble_eq_true rfl) rfl ?_
                  refine ev_icmp_eq (tgt := 1591) dL_law_459 (by decide) (fun c60 => ?_) (fun c60 => ?_)
                  · have h := if_t c60 h
                    refine ev_iinc (v := x3 + 8) (ls' := [(3, .int (x3 + 8)), (0, .ref 1000300), (1, .ref 0), (2, .ref 80)]) 3 dL_law_1591 rfl rfl (by decide) rfl ?_
                    refine ev_goto (tgt := 18) dL_law_1594 (by decide) ?_
                    refine ev_pick [1, 2, 3, 0] (ls' := [(0, .ref 1000300), (1, .ref 0), (2, .ref 80), (3, .int (x3 + 8))]) rfl ?_
                    exact ih (x3 + 8) _ q h
                  · have h := if_f c60 h
                    refine ev_iconst (v := 0) dL_law_462 (by decide) ?_
                    cases h
                    exact ev_iret dL_law_463 rfl rfl ⟨rfl, rfl⟩
                · have h := if_f c55 h
                  by_cases c61 : ((xs (x3).toNatClampNeg) &&& ((63 : Int32))) = 6
                  · have h := if_t c61 h
                    refine ev_tin 6 (off := 431) (tgt := 464) dL_law_33 c61 (by decide) (by decide) (by decide) (by decide) ?_
                    refine ev_aload_n 1 dL_law_464 rfl rfl ?_
                    refine ev_aload_n 0 dL_law_465 rfl rfl ?_
                    refine ev_iload_n 3 dL_law_466 rfl rfl ?_
                    refine ev_iconst (v := 1) dL_law_467 (by decide) ?_
                    refine ev_iadd dL_law_468 ?_
                    obtain ⟨c62, h⟩ := if_c h
                    refine ev_scl dL_law_469 c62 ?_
                    obtain ⟨q63, e64, h⟩ := bd_c h
                    refine ev_callVi (av := [.int (xs (x3 + ((1 : Int32))).toNatClampNeg)]) dL_law_470 (c_X9_fault n (xs (x3 + ((1 : Int32))).toNatClampNeg)  A q63 e64) mk_X9_fault lk_L_44 iv_X9_fault (Or.inl ⟨9, _, by decide, rfl, by decide, rfl, rfl⟩) rfl (by decide) (by decide) (Nat.le_of_ble_eq_true rfl) rfl ?_
                    refine ev_aload_n 2 dL_law_473 rfl rfl ?_
                    refine ev_aload_n 0 dL_law_474 rfl rfl ?_
                    refine ev_iload_n 3 dL_law_475 rfl rfl ?_
                    refine ev_iconst (v := 1) dL_law_476 (by decide) ?_
                    refine ev_iadd dL_law_477 ?_
                    refine ev_scl dL_law_478 c62 ?_
                    obtain ⟨q65, e66, h⟩ := bd_c h
                    refine ev_callVi (av := [.int (xs (x3 + ((1 : Int32))).toNatClampNeg)]) dL_law_479 (c_X10_fault n (xs (x3 + ((1 : Int32))).toNatClampNeg)  q63.2 q65 e66) mk_X10_fault lk_L_48 iv_X10_fault (Or.inl ⟨10, _, by decide, rfl, by decide, rfl, rfl⟩) rfl (by decide) (by decide) (Nat.le_of_ble_eq_true rfl) rfl ?_
                    refine ev_icmp_eq (tgt := 1591) dL_law_482 (by decide) (fun c67 => ?_) (fun c67 => ?_)
                    · have h := if_t c67 h
                      refine ev_iinc (v := x3 + 8) (ls' := [(3, .int (x3 + 8)), (0, .ref 1000300), (1, .ref 0), (2, .ref 80)]) 3 dL_law_1591 rfl rfl (by decide) rfl ?_
                      refine ev_goto (tgt := 18) dL_law_1594 (by decide) ?_
                      refine ev_pick [1, 2, 3, 0] (ls' := [(0, .ref 1000300), (1, .ref 0), (2, .ref 80), (3, .int (x3 + 8))]) rfl ?_
                      exact ih (x3 + 8) _ q h
                    · have h := if_f c67 h
                      refine ev_iconst (v := 0) dL_law_485 (by decide) ?_
                      cases h
                      exact ev_iret dL_law_486 rfl rfl ⟨rfl, rfl⟩
                  · have h := if_f c61 h
                    by_cases c68 : ((xs (x3).toNatClampNeg) &&& ((63 : Int32))) = 7
                    · have h := if_t c68 h
                      refine ev_tin 7 (off := 454) (tgt := 487) dL_law_33 c68 (by decide) (by decide) (by decide) (by decide) ?_
                      refine ev_aload_n 1 dL_law_487 rfl rfl ?_
                      refine ev_aload_n 0 dL_law_488 rfl rfl ?_
                      refine ev_iload_n 3 dL_law_489 rfl rfl ?_
                      refine ev_iconst (v := 1) dL_law_490 (by decide) ?_
                      refine ev_iadd dL_law_491 ?_
                      obtain ⟨c69, h⟩ := if_c h
                      refine ev_scl dL_law_492 c69 ?_
                      obtain ⟨q70, e71, h⟩ := bd_c h
                      refine ev_callVi (av := [.int (xs (x3 + ((1 : Int32))).toNatClampNeg)]) dL_law_493 (c_X9_life n (xs (x3 + ((1 : Int32))).toNatClampNeg)  A q70 e71) mk_X9_life lk_L_49 iv_X9_life (Or.inl ⟨9, _, by decide, rfl, by decide, rfl, rfl⟩) rfl (by decide) (by decide) (Nat.le_of_ble_eq_true rfl) rfl ?_
                      refine ev_aload_n 2 dL_law_496 rfl rfl ?_
                      refine ev_aload_n 0 dL_law_497 rfl rfl ?_
                      refine ev_iload_n 3 dL_law_498 rfl rfl ?_
                      refine ev_iconst (v := 1) dL_law_499 (by decide) ?_
                      refine ev_iadd dL_law_500 ?_
                      refine ev_scl dL_law_501 c69 ?_
                      obtain ⟨q72, e73, h⟩ := bd_c h
                      refine ev_callVi (av := [.int (xs (x3 + ((1 : Int32))).toNatClampNeg)]) dL_law_502 (c_X10_life n (xs (x3 + ((1 : Int32))).toNatClampNeg)  q70.2 q72 e73) mk_X10_life lk_L_52 iv_X10_life (Or.inl ⟨10, _, by decide, rfl, by decide, rfl, rfl⟩) rfl (by decide) (by decide) (Nat.le_of_ble_eq_true rfl) rfl ?_
                      refine ev_icmp_eq (tgt := 1591) dL_law_505 (by decide) (fun c74 => ?_) (fun c74 => ?_)
                      · have h := if_t c74 h
                        refine ev_iinc (v := x3 + 8) (ls' := [(3, .int (x3 + 8)), (0, .ref 1000300), (1, .ref 0), (2, .ref 80)]) 3 dL_law_1591 rfl rfl (by decide) rfl ?_
                        refine ev_goto (tgt := 18) dL_law_1594 (by decide) ?_
                        refine ev_pick [1, 2, 3, 0] (ls' := [(0, .ref 1000300), (1, .ref 0), (2, .ref 80), (3, .int (x3 + 8))]) rfl ?_
                        exact ih (x3 + 8) _ q h
                      · have h := if_f c74 h
                        refine ev_iconst (v := 0) dL_law_508 (by decide) ?_
                        cases h
                        exact ev_iret dL_law_509 rfl rfl ⟨rfl, rfl⟩
                    · have h := if_f c68 h
                      by_cases c75 : ((xs (x3).toNatClampNeg) &&& ((63 : Int32))) = 8
                      · have h := if_t c75 h
                        refine ev_tin 8 (off := 477) (tgt := 510) dL_law_33 c75 (by decide) (by decide) (by decide) (by decide) ?_
                        refine ev_aload_n 1 dL_law_510 rfl rfl ?_
                        refine ev_aload_n 0 dL_law_511 rfl rfl ?_
                        refine ev_iload_n 3 dL_law_512 rfl rfl ?_
                        refine ev_iconst (v := 1) dL_law_513 (by decide) ?_
                        refine ev_iadd dL_law_514 ?_
                        obtain ⟨c76, h⟩ := if_c h
                        refine ev_scl dL_law_515 c76 ?_
                        obtain ⟨q77, e78, h⟩ := bd_c h
                        refine ev_callVi (av := [.int (xs (x3 + ((1 : Int32))).toNatClampNeg)]) dL_law_516 (c_X9_table n (xs (x3 + ((1 : Int32))).toNatClampNeg)  A q77 e78) mk_X9_table lk_L_53 iv_X9_table (Or.inl ⟨9, _, by decide, rfl, by decide, rfl, rfl⟩) rfl (by decide) (by decide) (Nat.le_of_ble_eq_true rfl) rfl ?_
                        refine ev_aload_n 2 dL_law_519 rfl rfl ?_
                        refine ev_aload_n 0 dL_law_520 rfl rfl ?_
                        refine ev_iload_n 3 dL_law_521 rfl rfl ?_
                        refine ev_iconst (v := 1) dL_law_522 (by decide) ?_
                        refine ev_iadd dL_law_523 ?_
                        refine ev_scl dL_law_524 c76 ?_
                        obtain ⟨q79, e80, h⟩ := bd_c h
                        refine ev_callVi (av := [.int (xs (x3 + ((1 : Int32))).toNatClampNeg)]) dL_law_525 (c_X10_table n (xs (x3 + ((1 : Int32))).toNatClampNeg)  q77.2 q79 e80) mk_X10_table lk_L_56 iv_X10_table (Or.inl ⟨10, _, by decide, rfl, by decide, rfl, rfl⟩) rfl (by decide) (by decide) (Nat.le_of_ble_eq_true rfl) rfl ?_
                        refine ev_icmp_eq (tgt := 1591) dL_law_528 (by decide) (fun c81 => ?_) (fun c81 => ?_)
                        · have h := if_t c81 h
                          refine ev_iinc (v := x3 + 8) (ls' := [(3, .int (x3 + 8)), (0, .ref 1000300), (1, .ref 0), (2, .ref 80)]) 3 dL_law_1591 rfl rfl (by decide) rfl ?_
                          refine ev_goto (tgt := 18) dL_law_1594 (by decide) ?_
                          refine ev_pick [1, 2, 3, 0] (ls' := [(0, .ref 1000300), (1, .ref 0), (2, .ref 80), (3, .int (x3 + 8))]) rfl ?_
                          exact ih (x3 + 8) _ q h
                        · have h := if_f c81 h
                          refine ev_iconst (v := 0) dL_law_531 (by decide) ?_
                          cases h
                          exact ev_iret dL_law_532 rfl rfl ⟨rfl, rfl⟩
                      · have h := if_f c75 h
                        by_cases c82 : ((xs (x3).toNatClampNeg) &&& ((63 : Int32))) = 9
                        · have h := if_t c82 h
                          refine ev_tin 9 (off := 500) (tgt := 533) dL_law_33 c82 (by decide) (by decide) (by decide) (by decide) ?_
                          refine ev_aload_n 1 dL_law_533 rfl rfl ?_
                          refine ev_aload_n 0 dL_law_534 rfl rfl ?_
                          refine ev_iload_n 3 dL_law_535 rfl rfl ?_
                          refine ev_iconst (v := 1) dL_law_536 (by decide) ?_
                          refine ev_iadd dL_law_537 ?_
                          obtain ⟨c83, h⟩ := if_c h
                          refine ev_scl dL_law_538 c83 ?_
                          refine ev_aload_n 0 dL_law_539 rfl rfl ?_
                          refine ev_iload_n 3 dL_law_540 rfl rfl ?_
                          refine ev_iconst (v := 2) dL_law_541 (by decide) ?_
                          refine ev_iadd dL_law_542 ?_
                          obtain ⟨c84, h⟩ := if_c h
                          refine ev_scl dL_law_543 c84 ?_
                          obtain ⟨q85, e86, h⟩ := bd_c h
                          refine ev_callVi (av := [.int (xs (x3 + ((1 : Int32))).toNatClampNeg), .int (xs (x3 + ((2 : Int32))).toNatClampNeg)]) dL_law_544 (c_X9_where n (xs (x3 + ((1 : Int32))).toNatClampNeg) (xs (x3 + ((2 : Int32))).toNatClampNeg)  A q85 e86) mk_X9_where lk_L_57 iv_X9_where (Or.inl ⟨9, _, by decide, rfl, by decide, rfl, rfl⟩) rfl (by decide) (by decide) (Nat.le_of_ble_eq_true rfl) rfl ?_
                          refine ev_aload_n 2 dL_law_547 rfl rfl ?_
                          refine ev_aload_n 0 dL_law_548 rfl rfl ?_
                          refine ev_iload_n 3 dL_law_549 rfl rfl ?_
                          refine ev_iconst (v := 1) dL_law_550 (by decide) ?_
                          refine ev_iadd dL_law_551 ?_
                          refine ev_scl dL_law_552 c83 ?_
                          refine ev_aload_n 0 dL_law_553 rfl rfl ?_
                          refine ev_iload_n 3 dL_law_554 rfl rfl ?_
                          refine ev_iconst (v := 2) dL_law_555 (by decide) ?_
                          refine ev_iadd dL_law_556 ?_
                          refine ev_scl dL_law_557 c84 ?_
                          obtain ⟨q87, e88, h⟩ := bd_c h
                          refine ev_callVi (av := [.int (xs (x3 + ((1 : Int32))).toNatClampNeg), .int (xs (x3 + ((2 : Int32))).toNatClampNeg)]) dL_law_558 (c_X10_where n (xs (x3 + ((1 : Int32))).toNatClampNeg) (xs (x3 + ((2 : Int32))).toNatClampNeg)  q85.2 q87 e88) mk_X10_where lk_L_60 iv_X10_where (Or.inl ⟨10, _, by decide, rfl, by decide, rfl, rfl⟩) rfl (by decide) (by decide) (Nat.le_of_ble_eq_true rfl) rfl ?_
                          refine ev_icmp_eq (tgt := 1591) dL_law_561 (by decide) (fun c89 => ?_) (fun c89 => ?_)
                          · have h := if_t c89 h
                            refine ev_iinc (v := x3 + 8) (ls' := [(3, .int (x3 + 8)), (0, .ref 1000300), (1, .ref 0), (2, .ref 80)]) 3 dL_law_1591 rfl rfl (by decide) rfl ?_
                            refine ev_goto (tgt := 18) dL_law_1594 (by decide) ?_
                            refine ev_pick [1, 2, 3, 0] (ls' := [(0, .ref 1000300), (1, .ref 0), (2, .ref 80), (3, .int (x3 + 8))]) rfl ?_
                            exact ih (x3 + 8) _ q h
                          · have h := if_f c89 h
                            refine ev_iconst (v := 0) dL_law_564 (by decide) ?_
                            cases h
                            exact ev_iret dL_law_565 rfl rfl ⟨rfl, rfl⟩
                        · have h := if_f c82 h
                          by_cases c90 : ((xs (x3).toNatClampNeg) &&& ((63 : Int32))) = 10
                          · have h := if_t c90 h
                            refine ev_tin 10 (off := 533) (tgt := 566) dL_law_33 c90 (by decide) (by decide) (by decide) (by decide) ?_
                            refine ev_aload_n 1 dL_law_566 rfl rfl ?_
                            refine ev_aload_n 0 dL_law_567 rfl rfl ?_
                            refine ev_iload_n 3 dL_law_568 rfl rfl ?_
                            refine ev_iconst (v := 1) dL_law_569 (by decide) ?_
                            refine ev_iadd dL_law_570 ?_
                            obtain ⟨c91, h⟩ := if_c h
                            refine ev_scl dL_law_571 c91 ?_
                            refine ev_aload_n 0 dL_law_572 rfl rfl ?_
                            refine ev_iload_n 3 dL_law_573 rfl rfl ?_
                            refine ev_iconst (v := 2) dL_law_574 (by decide) ?_
                            refine ev_iadd dL_law_575 ?_
                            obtain ⟨c92, h⟩ := if_c h
                            refine ev_scl dL_law_576 c92 ?_
                            obtain ⟨q93, e94, h⟩ := bd_c h
                            refine ev_callVi (av := [.int (xs (x3 + ((1 : Int32))).toNatClampNeg), .int (xs (x3 + ((2 : Int32))).toNatClampNeg)]) dL_law_577 (c_X9_saw n (xs (x3 + ((1 : Int32))).toNatClampNeg) (xs (x3 + ((2 : Int32))).toNatClampNeg)  A q93 e94) mk_X9_saw lk_L_61 iv_X9_saw (Or.inl ⟨9, _, by decide, rfl, by decide, rfl, rfl⟩) rfl (by decide) (by decide) (Nat.le_of_ble_eq_true rfl) rfl ?_
                            refine ev_aload_n 2 dL_law_580 rfl rfl ?_
                            refine ev_aload_n 0 dL_law_581 rfl rfl ?_
                            refine ev_iload_n 3 dL_law_582 rfl rfl ?_
                            refine ev_iconst (v := 1) dL_law_583 (by decide) ?_
                            refine ev_iadd dL_law_584 ?_
                            refine ev_scl dL_law_585 c91 ?_
                            refine ev_aload_n 0 dL_law_586 rfl rfl ?_
                            refine ev_iload_n 3 dL_law_587 rfl rfl ?_
                            refine ev_iconst (v := 2) dL_law_588 (by decide) ?_
                            refine ev_iadd dL_law_589 ?_
                            refine ev_scl dL_law_590 c92 ?_
                            obtain ⟨q95, e96, h⟩ := bd_c h
                            refine ev_callVi (av := [.int (xs (x3 + ((1 : Int32))).toNatClampNeg), .int (xs (x3 + ((2 : Int32))).toNatClampNeg)]) dL_law_591 (c_X10_saw n (xs (x3 + ((1 : Int32))).toNatClampNeg) (xs (x3 + ((2 : Int32))).toNatClampNeg)  q93.2 q95 e96) mk_X10_saw lk_L_64 iv_X10_saw (Or.inl ⟨10, _, by decide, rfl, by decide, rfl, rfl⟩) rfl (by decide) (by decide) (Nat.le_of_ble_eq_true rfl) rfl ?_
                            refine ev_icmp_eq (tgt := 1591) dL_law_594 (by decide) (fun c97 => ?_) (fun c97 => ?_)
                            · have h := if_t c97 h
                              refine ev_iinc (v := x3 + 8) (ls' := [(3, .int (x3 + 8)), (0, .ref 1000300), (1, .ref 0), (2, .ref 80)]) 3 dL_law_1591 rfl rfl (by decide) rfl ?_
                              refine ev_goto (tgt := 18) dL_law_1594 (by decide) ?_
                              refine ev_pick [1, 2, 3, 0] (ls' := [(0, .ref 1000300), (1, .ref 0), (2, .ref 80), (3, .int (x3 + 8))]) rfl ?_
                              exact ih (x3 + 8) _ q h
                            · have h := if_f c97 h
                              refine ev_iconst (v := 0) dL_law_597 (by decide) ?_
                              cases h
                              exact ev_iret dL_law_598 rfl rfl ⟨rfl, rfl⟩
                          · have h := if_f c90 h
                            by_cases c98 : ((xs (x3).toNatClampNeg) &&& ((63 : Int32))) = 11
                            · have h := if_t c98 h
                              refine ev_tin 11 (off := 566) (tgt := 599) dL_law_33 c98 (by decide) (by decide) (by decide) (by decide) ?_
                              refine ev_aload_n 1 dL_law_599 rfl rfl ?_
                              refine ev_aload_n 0 dL_law_600 rfl rfl ?_
                              refine ev_iload_n 3 dL_law_601 rfl rfl ?_
                              refine ev_iconst (v := 1) dL_law_602 (by decide) ?_
                              refine ev_iadd dL_law_603 ?_
                              obtain ⟨c99, h⟩ := if_c h
                              refine ev_scl dL_law_604 c99 ?_
                              refine ev_aload_n 0 dL_law_605 rfl rfl ?_
                              refine ev_iload_n 3 dL_law_606 rfl rfl ?_
                              refine ev_iconst (v := 2) dL_law_607 (by decide) ?_
                              refine ev_iadd dL_law_608 ?_
                              obtain ⟨c100, h⟩ := if_c h
                              refine ev_scl dL_law_609 c100 ?_
                              obtain ⟨q101, e102, h⟩ := bd_c h
                              refine ev_callVi (av := [.int (xs (x3 + ((1 : Int32))).toNatClampNeg), .int (xs (x3 + ((2 : Int32))).toNatClampNeg)]) dL_law_610 (c_X9_post n (xs (x3 + ((1 : Int32))).toNatClampNeg) (xs (x3 + ((2 : Int32))).toNatClampNeg)  A q101 e102) mk_X9_post lk_L_65 iv_X9_post (Or.inl ⟨9, _, by decide, rfl, by decide, rfl, rfl⟩) rfl (by decide) (by decide) (Nat.le_of_ble_eq_true rfl) rfl ?_
                              refine ev_aload_n 2 dL_law_613 rfl rfl ?_
                              refine ev_aload_n 0 dL_law_614 rfl rfl ?_
                              refine ev_iload_n 3 dL_law_615 rfl rfl ?_
                              refine ev_iconst (v := 1) dL_law_616 (by decide) ?_
                              refine ev_iadd dL_law_617 ?_
                              refine ev_scl dL_law_618 c99 ?_
                              refine ev_aload_n 0 dL_law_619 rfl rfl ?_
                              refine ev_iload_n 3 dL_law_620 rfl rfl ?_
                              refine ev_iconst (v := 2) dL_law_621 (by decide) ?_
                              refine ev_iadd dL_law_622 ?_
                              refine ev_scl dL_law_623 c100 ?_
                              obtain ⟨q103, e104, h⟩ := bd_c h
                              refine ev_callVi (av := [.int (xs (x3 + ((1 : Int32))).toNatClampNeg), .int (xs (x3 + ((2 : Int32))).toNatClampNeg)]) dL_law_624 (c_X10_post n (xs (x3 + ((1 : Int32))).toNatClampNeg) (xs (x3 + ((2 : Int32))).toNatClampNeg)  q101.2 q103 e104) mk_X10_post lk_L_68 iv_X10_post (Or.inl ⟨10, _, by decide, rfl, by decide, rfl, rfl⟩) rfl (by decide) (by decide) (Nat.le_of_ble_eq_true rfl) rfl ?_
                              refine ev_icmp_eq (tgt := 1591) dL_law_627 (by decide) (fun c105 => ?_) (fun c105 => ?_)
                              · have h := if_t c105 h
                                refine ev_iinc (v := x3 + 8) (ls' := [(3, .int (x3 + 8)), (0, .ref 1000300), (1, .ref 0), (2, .ref 80)]) 3 dL_law_1591 rfl rfl (by decide) rfl ?_
                                refine ev_goto (tgt := 18) dL_law_1594 (by decide) ?_
                                refine ev_pick [1, 2, 3, 0] (ls' := [(0, .ref 1000300), (1, .ref 0), (2, .ref 80), (3, .int (x3 + 8))]) rfl ?_
                                exact ih (x3 + 8) _ q h
                              · have h := if_f c105 h
                                refine ev_iconst (v := 0) dL_law_630 (by decide) ?_
                                cases h
                                exact ev_iret dL_law_631 rfl rfl ⟨rfl, rfl⟩
                            · have h := if_f c98 h
                              by_cases c106 : ((xs (x3).toNatClampNeg) &&& ((63 : Int32))) = 12
                              · have h := if_t c106 h
                                refine ev_tin 12 (off := 599) (tgt := 632) dL_law_33 c106 (by decide) (by decide) (by decide) (by decide) ?_
                                refine ev_aload_n 1 dL_law_632 rfl rfl ?_
                                refine ev_aload_n 0 dL_law_633 rfl rfl ?_
                                refine ev_iload_n 3 dL_law_634 rfl rfl ?_
                                refine ev_iconst (v := 1) dL_law_635 (by decide) ?_
                                refine ev_iadd dL_law_636 ?_
                                obtain ⟨c107, h⟩ := if_c h
                                refine ev_scl dL_law_637 c107 ?_
                                refine ev_aload_n 0 dL_law_638 rfl rfl ?_
                                refine ev_iload_n 3 dL_law_639 rfl rfl ?_
                                refine ev_iconst (v := 2) dL_law_640 (by decide) ?_
                                refine ev_iadd dL_law_641 ?_
                                obtain ⟨c108, h⟩ := if_c h
                                refine ev_scl dL_law_642 c108 ?_
                                refine ev_aload_n 0 dL_law_643 rfl rfl ?_
                                refine ev_iload_n 3 dL_law_644 rfl rfl ?_
                                refine ev_iconst (v := 3) dL_law_645 (by decide) ?_
                                refine ev_iadd dL_law_646 ?_
                                obtain ⟨c109, h⟩ := if_c h
                                refine ev_scl dL_law_647 c109 ?_
                                refine ev_aload_n 0 dL_law_648 rfl rfl ?_
                                refine ev_iload_n 3 dL_law_649 rfl rfl ?_
                                refine ev_iconst (v := 4) dL_law_650 (by decide) ?_
                                refine ev_iadd dL_law_651 ?_
                                obtain ⟨c110, h⟩ := if_c h
                                refine ev_scl dL_law_652 c110 ?_
                                refine ev_aload_n 0 dL_law_653 rfl rfl ?_
                                refine ev_iload_n 3 dL_law_654 rfl rfl ?_
                                refine ev_iconst (v := 5) dL_law_655 (by decide) ?_
                                refine ev_iadd dL_law_656 ?_
                                obtain ⟨c111, h⟩ := if_c h
                                refine ev_scl dL_law_657 c111 ?_
                                refine ev_aload_n 0 dL_law_658 rfl rfl ?_
                                refine ev_iload_n 3 dL_law_659 rfl rfl ?_
                                refine ev_bipush (v := 6) dL_law_660 (by decide) ?_
                                refine ev_iadd dL_law_662 ?_
                                obtain ⟨c112, h⟩ := if_c h
                                refine ev_scl dL_law_663 c112 ?_
                                refine ev_aload_n 0 dL_law_664 rfl rfl ?_
                                refine ev_iload_n 3 dL_law_665 rfl rfl ?_
                                refine ev_bipush (v := 7) dL_law_666 (by decide) ?_
                                refine ev_iadd dL_law_668 ?_
                                obtain ⟨c113, h⟩ := if_c h
                                refine ev_scl dL_law_669 c113 ?_
                                obtain ⟨q114, e115, h⟩ := bd_c h
                                refine ev_callVi (av := [.int (xs (x3 + ((1 : Int32))).toNatClampNeg), .int (xs (x3 + ((2 : Int32))).toNatClampNeg), .int (xs (x3 + ((3 : Int32))).toNatClampNeg), .int (xs (x3 + ((4 : Int32))).toNatClampNeg), .int (xs (x3 + ((5 : Int32))).toNatClampNeg), .int (xs (x3 + ((6 : Int32))).toNatClampNeg), .int (xs (x3 + ((7 : Int32))).toNatClampNeg)]) dL_law_670 (c_X9_send n (xs (x3 + ((1 : Int32))).toNatClampNeg) (xs (x3 + ((2 : Int32))).toNatClampNeg) (xs (x3 + ((3 : Int32))).toNatClampNeg) (xs (x3 + ((4 : Int32))).toNatClampNeg) (xs (x3 + ((5 : Int32))).toNatClampNeg) (xs (x3 + ((6 : Int32))).toNatClampNeg) (xs (x3 + ((7 : Int32))).toNatClampNeg)  A q114 e115) mk_X9_send lk_L_69 iv_X9_send (Or.inl ⟨9, _, by decide, rfl, by decide, rfl, rfl⟩) rfl (by decide) (by decide) (Nat.le_of_ble_eq_true rfl) rfl ?_
                                refine ev_aload_n 2 dL_law_673 rfl rfl ?_
                                refine ev_aload_n 0 dL_law_674 rfl rfl ?_
                                refine ev_iload_n 3 dL_law_675 rfl rfl ?_
                                refine ev_iconst (v := 1) dL_law_676 (by decide) ?_
                                refine ev_iadd dL_law_677 ?_
                                refine ev_scl dL_law_678 c107 ?_
                                refine ev_aload_n 0 dL_law_679 rfl rfl ?_
                                refine ev_iload_n 3 dL_law_680 rfl rfl ?_
                                refine ev_iconst (v := 2) dL_law_681 (by decide) ?_
                                refine ev_iadd dL_law_682 ?_
                                refine ev_scl dL_law_683 c108 ?_
                                refine ev_aload_n 0 dL_law_684 rfl rfl ?_
                                refine ev_iload_n 3 dL_law_685 rfl rfl ?_
                                refine ev_iconst (v := 3) dL_law_686 (by decide) ?_
                                refine ev_iadd dL_law_687 ?_
                                refine ev_scl dL_law_688 c109 ?_
                                refine ev_aload_n 0 dL_law_689 rfl rfl ?_
                                refine ev_iload_n 3 dL_law_690 rfl rfl ?_
                                refine ev_iconst (v := 4) dL_law_691 (by decide) ?_
                                refine ev_iadd dL_law_692 ?_
                                refine ev_scl dL_law_693 c110 ?_
                                refine ev_aload_n 0 dL_law_694 rfl rfl ?_
                                refine ev_iload_n 3 dL_law_695 rfl rfl ?_
                                refine ev_iconst (v := 5) dL_law_696 (by decide) ?_
                                refine ev_iadd dL_law_697 ?_
                                refine ev_scl dL_law_698 c111 ?_
                                refine ev_aload_n 0 dL_law_699 rfl rfl ?_
                                refine ev_iload_n 3 dL_law_700 rfl rfl ?_
                                refine ev_bipush (v := 6) dL_law_701 (by decide) ?_
                                refine ev_iadd dL_law_703 ?_
                                refine ev_scl dL_law_704 c112 ?_
                                refine ev_aload_n 0 dL_law_705 rfl rfl ?_
                                refine ev_iload_n 3 dL_law_706 rfl rfl ?_
                                refine ev_bipush (v := 7) dL_law_707 (by decide) ?_
                                refine ev_iadd dL_law_709 ?_
                                refine ev_scl dL_law_710 c113 ?_
                                obtain ⟨q116, e117, h⟩ := bd_c h
                                refine ev_callVi (av := [.int (xs (x3 + ((1 : Int32))).toNatClampNeg), .int (xs (x3 + ((2 : Int32))).toNatClampNeg), .int (xs (x3 + ((3 : Int32))).toNatClampNeg), .int (xs (x3 + ((4 : Int32))).toNatClampNeg), .int (xs (x3 + ((5 : Int32))).toNatClampNeg), .int (xs (x3 + ((6 : Int32))).toNatClampNeg), .int (xs (x3 + ((7 : Int32))).toNatClampNeg)]) dL_law_711 (c_X10_send n (xs (x3 + ((1 : Int32))).toNatClampNeg) (xs (x3 + ((2 : Int32))).toNatClampNeg) (xs (x3 + ((3 : Int32))).toNatClampNeg) (xs (x3 + ((4 : Int32))).toNatClampNeg) (xs (x3 + ((5 : Int32))).toNatClampNeg) (xs (x3 + ((6 : Int32))).toNatClampNeg) (xs (x3 + ((7 : Int32))).toNatClampNeg)  q114.2 q116 e117) mk_X10_send lk_L_73 iv_X10_send (Or.inl ⟨10, _, by decide, rfl, by decide, rfl, rfl⟩) rfl (by decide) (by decide) (Nat.le_of_ble_eq_true rfl) rfl ?_
                                refine ev_icmp_eq (tgt := 1591) dL_law_714 (by decide) (fun c118 => ?_) (fun c118 => ?_)
                                · have h := if_t c118 h
                                  refine ev_iinc (v := x3 + 8) (ls' := [(3, .int (x3 + 8)), (0, .ref 1000300), (1, .ref 0), (2, .ref 80)]) 3 dL_law_1591 rfl rfl (by decide) rfl ?_
                                  refine ev_goto (tgt := 18) dL_law_1594 (by decide) ?_
                                  refine ev_pick [1, 2, 3, 0] (ls' := [(0, .ref 1000300), (1, .ref 0), (2, .ref 80), (3, .int (x3 + 8))]) rfl ?_
                                  exact ih (x3 + 8) _ q h
                                · have h := if_f c118 h
                                  refine ev_iconst (v := 0) dL_law_717 (by decide) ?_
                                  cases h
                                  exact ev_iret dL_law_718 rfl rfl ⟨rfl, rfl⟩
                              · have h := if_f c106 h
                                by_cases c119 : ((xs (x3).toNatClampNeg) &&& ((63 : Int32))) = 13
                                · have h := if_t c119 h
                                  refine ev_tin 13 (off := 686) (tgt := 719) dL_law_33 c119 (by decide) (by decide) (by decide) (by decide) ?_
                                  refine ev_aload_n 1 dL_law_719 rfl rfl ?_
                                  refine ev_aload_n 0 dL_law_720 rfl rfl ?_
                                  refine ev_iload_n 3 dL_law_721 rfl rfl ?_
                                  refine ev_iconst (v := 1) dL_law_722 (by decide) ?_
                                  refine ev_iadd dL_law_723 ?_
                                  obtain ⟨c120, h⟩ := if_c h
                                  refine ev_scl dL_law_724 c120 ?_
                                  obtain ⟨q121, e122, h⟩ := bd_c h
                                  refine ev_callVi (av := [.int (xs (x3 + ((1 : Int32))).toNatClampNeg)]) dL_law_725 (c_X9_right n (xs (x3 + ((1 : Int32))).toNatClampNeg)  A q121 e122) mk_X9_right lk_L_74 iv_X9_right (Or.inl ⟨9, _, by decide, rfl, by decide, rfl, rfl⟩) rfl (by decide) (by decide) (Nat.le_of_ble_eq_true rfl) rfl ?_
                                  refine ev_aload_n 2 dL_law_728 rfl rfl ?_
                                  refine ev_aload_n 0 dL_law_729 rfl rfl ?_
                                  refine ev_iload_n 3 dL_law_730 rfl rfl ?_
                                  refine ev_iconst (v := 1) dL_law_731 (by decide) ?_
                                  refine ev_iadd dL_law_732 ?_
                                  refine ev_scl dL_law_733 c120 ?_
                                  obtain ⟨q123, e124, h⟩ := bd_c h
                                  refine ev_callVi (av := [.int (xs (x3 + ((1 : Int32))).toNatClampNeg)]) dL_law_734 (c_X10_right n (xs (x3 + ((1 : Int32))).toNatClampNeg)  q121.2 q123 e124) mk_X10_right lk_L_77 iv_X10_right (Or.inl ⟨10, _, by decide, rfl, by decide, rfl, rfl⟩) rfl (by decide) (by decide) (Nat.le_of_ble_eq_true rfl) rfl ?_
                                  refine ev_icmp_eq (tgt := 1591) dL_law_737 (by decide) (fun c125 => ?_) (fun c125 => ?_)
                                  · have h := if_t c125 h
                                    refine ev_iinc (v := x3 + 8) (ls' := [(3, .int (x3 + 8)), (0, .ref 1000300), (1, .ref 0), (2, .ref 80)]) 3 dL_law_1591 rfl rfl (by decide) rfl ?_
                                    refine ev_goto (tgt := 18) dL_law_1594 (by decide) ?_
                                    refine ev_pick [1, 2, 3, 0] (ls' := [(0, .ref 1000300), (1, .ref 0), (2, .ref 80), (3, .int (x3 + 8))]) rfl ?_
                                    exact ih (x3 + 8) _ q h
                                  · have h := if_f c125 h
                                    refine ev_iconst (v := 0) dL_law_740 (by decide) ?_
                                    cases h
                                    exact ev_iret dL_law_741 rfl rfl ⟨rfl, rfl⟩
                                · have h := if_f c119 h
                                  by_cases c126 : ((xs (x3).toNatClampNeg) &&& ((63 : Int32))) = 14
                                  · have h := if_t c126 h
                                    refine ev_tin 14 (off := 709) (tgt := 742) dL_law_33 c126 (by decide) (by decide) (by decide) (by decide) ?_
                                    refine ev_aload_n 1 dL_law_742 rfl rfl ?_
                                    refine ev_aload_n 0 dL_law_743 rfl rfl ?_
                                    refine ev_iload_n 3 dL_law_744 rfl rfl ?_
                                    refine ev_iconst (v := 1) dL_law_745 (by decide) ?_
                                    refine ev_iadd dL_law_746 ?_
                                    obtain ⟨c127, h⟩ := if_c h
                                    refine ev_scl dL_law_747 c127 ?_
                                    obtain ⟨q128, e129, h⟩ := bd_c h
                                    refine ev_callVi (av := [.int (xs (x3 + ((1 : Int32))).toNatClampNeg)]) dL_law_748 (c_X9_comes n (xs (x3 + ((1 : Int32))).toNatClampNeg)  A q128 e129) mk_X9_comes lk_L_78 iv_X9_comes (Or.inl ⟨9, _, by decide, rfl, by decide, rfl, rfl⟩) rfl (by decide) (by decide) (Nat.le_of_ble_eq_true rfl) rfl ?_
                                    refine ev_aload_n 2 dL_law_751 rfl rfl ?_
                                    refine ev_aload_n 0 dL_law_752 rfl rfl ?_
                                    refine ev_iload_n 3 dL_law_753 rfl rfl ?_
                                    refine ev_iconst (v := 1) dL_law_754 (by decide) ?_
                                    refine ev_iadd dL_law_755 ?_
                                    refine ev_scl dL_law_756 c127 ?_
                                    obtain ⟨q130, e131, h⟩ := bd_c h
                                    refine ev_callVi (av := [.int (xs (x3 + ((1 : Int32))).toNatClampNeg)]) dL_law_757 (c_X10_comes n (xs (x3 + ((1 : Int32))).toNatClampNeg)  q128.2 q130 e131) mk_X10_comes lk_L_81 iv_X10_comes (Or.inl ⟨10, _, by decide, rfl, by decide, rfl, rfl⟩) rfl (by decide) (by decide) (Nat.le_of_ble_eq_true rfl) rfl ?_
                                    refine ev_icmp_eq (tgt := 1591) dL_law_760 (by decide) (fun c132 => ?_) (fun c132 => ?_)
                                    · have h := if_t c132 h
                                      refine ev_iinc (v := x3 + 8) (ls' := [(3, .int (x3 + 8)), (0, .ref 1000300), (1, .ref 0), (2, .ref 80)]) 3 dL_law_1591 rfl rfl (by decide) rfl ?_
                                      refine ev_goto (tgt := 18) dL_law_1594 (by decide) ?_
                                      refine ev_pick [1, 2, 3, 0] (ls' := [(0, .ref 1000300), (1, .ref 0), (2, .ref 80), (3, .int (x3 + 8))]) rfl ?_
                                      exact ih (x3 + 8) _ q h
                                    · have h := if_f c132 h
                                      refine ev_iconst (v := 0) dL_law_763 (by decide) ?_
                                      cases h
                                      exact ev_iret dL_law_764 rfl rfl ⟨rfl, rfl⟩
                                  · have h := if_f c126 h
                                    by_cases c133 : ((xs (x3).toNatClampNeg) &&& ((63 : Int32))) = 15
                                    · have h := if_t c133 h
                                      refine ev_tin 15 (off := 732) (tgt := 765) dL_law_33 c133 (by decide) (by decide) (by decide) (by decide) ?_
                                      refine ev_aload_n 1 dL_law_765 rfl rfl ?_
                                      refine ev_aload_n 0 dL_law_766 rfl rfl ?_
                                      refine ev_iload_n 3 dL_law_767 rfl rfl ?_
                                      refine ev_iconst (v := 1) dL_law_768 (by decide) ?_
                                      refine ev_iadd dL_law_769 ?_
                                      obtain ⟨c134, h⟩ := if_c h
                                      refine ev_scl dL_law_770 c134 ?_
                                      obtain ⟨q135, e136, h⟩ := bd_c h
                                      refine ev_callVi (av := [.int (xs (x3 + ((1 : Int32))).toNatClampNeg)]) dL_law_771 (c_X9_slips n (xs (x3 + ((1 : Int32))).toNatClampNeg)  A q135 e136) mk_X9_slips lk_L_82 iv_X9_slips (Or.inl ⟨9, _, by decide, rfl, by decide, rfl, rfl⟩) rfl (by decide) (by decide) (Nat.le_of_ble_eq_true rfl) rfl ?_
                                      refine ev_aload_n 2 dL_law_774 rfl rfl ?_
                                      refine ev_aload_n 0 dL_law_775 rfl rfl ?_
                                      refine ev_iload_n 3 dL_law_776 rfl rfl ?_
                                      refine ev_iconst (v := 1) dL_law_777 (by decide) ?_
                                      refine ev_iadd dL_law_778 ?_
                                      refine ev_scl dL_law_779 c134 ?_
                                      obtain ⟨q137, e138, h⟩ := bd_c h
                                      refine ev_callVi (av := [.int (xs (x3 + ((1 : Int32))).toNatClampNeg)]) dL_law_780 (c_X10_slips n (xs (x3 + ((1 : Int32))).toNatClampNeg)  q135.2 q137 e138) mk_X10_slips lk_L_85 iv_X10_slips (Or.inl ⟨10, _, by decide, rfl, by decide, rfl, rfl⟩) rfl (by decide) (by decide) (Nat.le_of_ble_eq_true rfl) rfl ?_
                                      refine ev_icmp_eq (tgt := 1591) dL_law_783 (by decide) (fun c139 => ?_) (fun c139 => ?_)
                                      · have h := if_t c139 h
                                        refine ev_iinc (v := x3 + 8) (ls' := [(3, .int (x3 + 8)), (0, .ref 1000300), (1, .ref 0), (2, .ref 80)]) 3 dL_law_1591 rfl rfl (by decide) rfl ?_
                                        refine ev_goto (tgt := 18) dL_law_1594 (by decide) ?_
                                        refine ev_pick [1, 2, 3, 0] (ls' := [(0, .ref 1000300), (1, .ref 0), (2, .ref 80), (3, .int (x3 + 8))]) rfl ?_
                                        exact ih (x3 + 8) _ q h
                                      · have h := if_f c139 h
                                        refine ev_iconst (v := 0) dL_law_786 (by decide) ?_
                                        cases h
                                        exact ev_iret dL_law_787 rfl rfl ⟨rfl, rfl⟩
                                    · have h := if_f c133 h
                                      by_cases c140 : ((xs (x3).toNatClampNeg) &&& ((63 : Int32))) = 16
                                      · have h := if_t c140 h
                                        refine ev_tin 16 (off := 755) (tgt := 788) dL_law_33 c140 (by decide) (by decide) (by decide) (by decide) ?_
                                        refine ev_aload_n 1 dL_law_788 rfl rfl ?_
                                        refine ev_aload_n 0 dL_law_789 rfl rfl ?_
                                        refine ev_iload_n 3 dL_law_790 rfl rfl ?_
                                        refine ev_iconst (v := 1) dL_law_791 (by decide) ?_
                                        refine ev_iadd dL_law_792 ?_
                                        obtain ⟨c141, h⟩ := if_c h
                                        refine ev_scl dL_law_793 c141 ?_
                                        refine ev_aload_n 0 dL_law_794 rfl rfl ?_
                                        refine ev_iload_n 3 dL_law_795 rfl rfl ?_
                                        refine ev_iconst (v := 2) dL_law_796 (by decide) ?_
                                        refine ev_iadd dL_law_797 ?_
                                        obtain ⟨c142, h⟩ := if_c h
                                        refine ev_scl dL_law_798 c142 ?_
                                        obtain ⟨q143, e144, h⟩ := bd_c h
                                        refine ev_callVi (av := [.int (xs (x3 + ((1 : Int32))).toNatClampNeg), .int (xs (x3 + ((2 : Int32))).toNatClampNeg)]) dL_law_799 (c_X9_lacks n (xs (x3 + ((1 : Int32))).toNatClampNeg) (xs (x3 + ((2 : Int32))).toNatClampNeg)  A q143 e144) mk_X9_lacks lk_L_86 iv_X9_lacks (Or.inl ⟨9, _, by decide, rfl, by decide, rfl, rfl⟩) rfl (by decide) (by decide) (Nat.le_of_ble_eq_true rfl) rfl ?_
                                        refine ev_aload_n 2 dL_law_802 rfl rfl ?_
                                        refine ev_aload_n 0 dL_law_803 rfl rfl ?_
                                        refine ev_iload_n 3 dL_law_804 rfl rfl ?_
                                        refine ev_iconst (v := 1) dL_law_805 (by decide) ?_
                                        refine ev_iadd dL_law_806 ?_
                                        refine ev_scl dL_law_807 c141 ?_
                                        refine ev_aload_n 0 dL_law_808 rfl rfl ?_
                                        refine ev_iload_n 3 dL_law_809 rfl rfl ?_
                                        refine ev_iconst (v := 2) dL_law_810 (by decide) ?_
                                        refine ev_iadd dL_law_811 ?_
                                        refine ev_scl dL_law_812 c142 ?_
                                        obtain ⟨q145, e146, h⟩ := bd_c h
                                        refine ev_callVi (av := [.int (xs (x3 + ((1 : Int32))).toNatClampNeg), .int (xs (x3 + ((2 : Int32))).toNatClampNeg)]) dL_law_813 (c_X10_lacks n (xs (x3 + ((1 : Int32))).toNatClampNeg) (xs (x3 + ((2 : Int32))).toNatClampNeg)  q143.2 q145 e146) mk_X10_lacks lk_L_89 iv_X10_lacks (Or.inl ⟨10, _, by decide, rfl, by decide, rfl, rfl⟩) rfl (by decide) (by decide) (Nat.le_of_ble_eq_true rfl) rfl ?_
                                        refine ev_icmp_eq (tgt := 1591) dL_law_816 (by decide) (fun c147 => ?_) (fun c147 => ?_)
                                        · have h := if_t c147 h
                                          refine ev_iinc (v := x3 + 8) (ls' := [(3, .int (x3 + 8)), (0, .ref 1000300), (1, .ref 0), (2, .ref 80)]) 3 dL_law_1591 rfl rfl (by decide) rfl ?_
                                          refine ev_goto (tgt := 18) dL_law_1594 (by decide) ?_
                                          refine ev_pick [1, 2, 3, 0] (ls' := [(0, .ref 1000300), (1, .ref 0), (2, .ref 80), (3, .int (x3 + 8))]) rfl ?_
                                          exact ih (x3 + 8) _ q h
                                        · have h := if_f c147 h
                                          refine ev_iconst (v := 0) dL_law_819 (by decide) ?_
                                          cases h
                                          exact ev_iret dL_law_820 rfl rfl ⟨rfl, rfl⟩
                                      · have h := if_f c140 h
                                        by_cases c148 : ((xs (x3).toNatClampNeg) &&& ((63 : Int32))) = 17
                                        · have h := if_t c148 h
                                          refine ev_tin 17 (off := 788) (tgt := 821) dL_law_33 c148 (by decide) (by decide) (by decide) (by decide) ?_
                                          refine ev_aload_n 1 dL_law_821 rfl rfl ?_
                                          refine ev_aload_n 0 dL_law_822 rfl rfl ?_
                                          refine ev_iload_n 3 dL_law_823 rfl rfl ?_
                                          refine ev_iconst (v := 1) dL_law_824 (by decide) ?_
                                          refine ev_iadd dL_law_825 ?_
                                          obtain ⟨c149, h⟩ := if_c h
                                          refine ev_scl dL_law_826 c149 ?_
                                          obtain ⟨q150, e151, h⟩ := bd_c h
                                          refine ev_callVi (av := [.int (xs (x3 + ((1 : Int32))).toNatClampNeg)]) dL_law_827 (c_X9_ill n (xs (x3 + ((1 : Int32))).toNatClampNeg)  A q150 e151) mk_X9_ill lk_L_90 iv_X9_ill (Or.inl ⟨9, _, by decide, rfl, by decide, rfl, rfl⟩) rfl (by decide) (by decide) (Nat.le_of_ble_eq_true rfl) rfl ?_
                                          refine ev_aload_n 2 dL_law_830 rfl rfl ?_
                                          refine ev_aload_n 0 dL_law_831 rfl rfl ?_
                                          refine ev_iload_n 3 dL_law_832 rfl rfl ?_
                                          refine ev_iconst (v := 1) dL_law_833 (by decide) ?_
                                          refine ev_iadd dL_law_834 ?_
                                          refine ev_scl dL_law_835 c149 ?_
                                          obtain ⟨q152, e153, h⟩ := bd_c h
                                          refine ev_callVi (av := [.int (xs (x3 + ((1 : Int32))).toNatClampNeg)]) dL_law_836 (c_X10_ill n (xs (x3 + ((1 : Int32))).toNatClampNeg)  q150.2 q152 e153) mk_X10_ill lk_L_93 iv_X10_ill (Or.inl ⟨10, _, by decide, rfl, by decide, rfl, rfl⟩) rfl (by decide) (by decide) (Nat.le_of_ble_eq_true rfl) rfl ?_
                                          refine ev_icmp_eq (tgt := 1591) dL_law_839 (by decide) (fun c154 => ?_) (fun c154 => ?_)
                                          · have h := if_t c154 h
                                            refine ev_iinc (v := x3 + 8) (ls' := [(3, .int (x3 + 8)), (0, .ref 1000300), (1, .ref 0), (2, .ref 80)]) 3 dL_law_1591 rfl rfl (by decide) rfl ?_
                                            refine ev_goto (tgt := 18) dL_law_1594 (by decide) ?_
                                            refine ev_pick [1, 2, 3, 0] (ls' := [(0, .ref 1000300), (1, .ref 0), (2, .ref 80), (3, .int (x3 + 8))]) rfl ?_
                                            exact ih (x3 + 8) _ q h
                                          · have h := if_f c154 h
                                            refine ev_iconst (v := 0) dL_law_842 (by decide) ?_
                                            cases h
                                            exact ev_iret dL_law_843 rfl rfl ⟨rfl, rfl⟩
                                        · have h := if_f c148 h
                                          by_cases c155 : ((xs (x3).toNatClampNeg) &&& ((63 : Int32))) = 18
                                          · have h := if_t c155 h
                                            refine ev_tin 18 (off := 811) (tgt := 844) dL_law_33 c155 (by decide) (by decide) (by decide) (by decide) ?_
                                            refine ev_aload_n 1 dL_law_844 rfl rfl ?_
                                            refine ev_aload_n 0 dL_law_845 rfl rfl ?_
                                            refine ev_iload_n 3 dL_law_846 rfl rfl ?_
                                            refine ev_iconst (v := 1) dL_law_847 (by decide) ?_
                                            refine ev_iadd dL_law_848 ?_
                                            obtain ⟨c156, h⟩ := if_c h
                                            refine ev_scl dL_law_849 c156 ?_
                                            refine ev_aload_n 0 dL_law_850 rfl rfl ?_
                                            refine ev_iload_n 3 dL_law_851 rfl rfl ?_
                                            refine ev_iconst (v := 2) dL_law_852 (by decide) ?_
                                            refine ev_iadd dL_law_853 ?_
                                            obtain ⟨c157, h⟩ := if_c h
                                            refine ev_scl dL_law_854 c157 ?_
                                            refine ev_aload_n 0 dL_law_855 rfl rfl ?_
                                            refine ev_iload_n 3 dL_law_856 rfl rfl ?_
                                            refine ev_iconst (v := 3) dL_law_857 (by decide) ?_
                                            refine ev_iadd dL_law_858 ?_
                                            obtain ⟨c158, h⟩ := if_c h
                                            refine ev_scl dL_law_859 c158 ?_
                                            refine ev_aload_n 0 dL_law_860 rfl rfl ?_
                                            refine ev_iload_n 3 dL_law_861 rfl rfl ?_
                                            refine ev_iconst (v := 4) dL_law_862 (by decide) ?_
                                            refine ev_iadd dL_law_863 ?_
                                            obtain ⟨c159, h⟩ := if_c h
                                            refine ev_scl dL_law_864 c159 ?_
                                            obtain ⟨q160, e161, h⟩ := bd_c h
                                            refine ev_callVi (av := [.int (xs (x3 + ((1 : Int32))).toNatClampNeg), .int (xs (x3 + ((2 : Int32))).toNatClampNeg), .int (xs (x3 + ((3 : Int32))).toNatClampNeg), .int (xs (x3 + ((4 : Int32))).toNatClampNeg)]) dL_law_865 (c_X9_eyes n (xs (x3 + ((1 : Int32))).toNatClampNeg) (xs (x3 + ((2 : Int32))).toNatClampNeg) (xs (x3 + ((3 : Int32))).toNatClampNeg) (xs (x3 + ((4 : Int32))).toNatClampNeg)  A q160 e161) mk_X9_eyes lk_L_94 iv_X9_eyes (Or.inl ⟨9, _, by decide, rfl, by decide, rfl, rfl⟩) rfl (by decide) (by decide) (Nat.le_of_ble_eq_true rfl) rfl ?_
                                            refine ev_aload_n 2 dL_law_868 rfl rfl ?_
                                            refine ev_aload_n 0 dL_law_869 rfl rfl ?_
                                            refine ev_iload_n 3 dL_law_870 rfl rfl ?_
                                            refine ev_iconst (v := 1) dL_law_871 (by decide) ?_
                                            refine ev_iadd dL_law_872 ?_
                                            refine ev_scl dL_law_873 c156 ?_
                                            refine ev_aload_n 0 dL_law_874 rfl rfl ?_
                                            refine ev_iload_n 3 dL_law_875 rfl rfl ?_
                                            refine ev_iconst (v := 2) dL_law_876 (by decide) ?_
                                            refine ev_iadd dL_law_877 ?_
                                            refine ev_scl dL_law_878 c157 ?_
                                            refine ev_aload_n 0 dL_law_879 rfl rfl ?_
                                            refine ev_iload_n 3 dL_law_880 rfl rfl ?_
                                            refine ev_iconst (v := 3) dL_law_881 (by decide) ?_
                                            refine ev_iadd dL_law_882 ?_
                                            refine ev_scl dL_law_883 c158 ?_
                                            refine ev_aload_n 0 dL_law_884 rfl rfl ?_
                                            refine ev_iload_n 3 dL_law_885 rfl rfl ?_
                                            refine ev_iconst (v := 4) dL_law_886 (by decide) ?_
                                            refine ev_iadd dL_law_887 ?_
                                            refine ev_scl dL_law_888 c159 ?_
                                            obtain ⟨q162, e163, h⟩ := bd_c h
                                            refine ev_callVi (av := [.int (xs (x3 + ((1 : Int32))).toNatClampNeg), .int (xs (x3 + ((2 : Int32))).toNatClampNeg), .int (xs (x3 + ((3 : Int32))).toNatClampNeg), .int (xs (x3 + ((4 : Int32))).toNatClampNeg)]) dL_law_889 (c_X10_eyes n (xs (x3 + ((1 : Int32))).toNatClampNeg) (xs (x3 + ((2 : Int32))).toNatClampNeg) (xs (x3 + ((3 : Int32))).toNatClampNeg) (xs (x3 + ((4 : Int32))).toNatClampNeg)  q160.2 q162 e163) mk_X10_eyes lk_L_98 iv_X10_eyes (Or.inl ⟨10, _, by decide, rfl, by decide, rfl, rfl⟩) rfl (by decide) (by decide) (Nat.le_of_ble_eq_true rfl) rfl ?_
                                            refine ev_icmp_eq (tgt := 1591) dL_law_892 (by decide) (fun c164 => ?_) (fun c164 => ?_)
                                            · have h := if_t c164 h
                                              refine ev_iinc (v := x3 + 8) (ls' := [(3, .int (x3 + 8)), (0, .ref 1000300), (1, .ref 0), (2, .ref 80)]) 3 dL_law_1591 rfl rfl (by decide) rfl ?_
                                              refine ev_goto (tgt := 18) dL_law_1594 (by decide) ?_
                                              refine ev_pick [1, 2, 3, 0] (ls' := [(0, .ref 1000300), (1, .ref 0), (2, .ref 80), (3, .int (x3 + 8))]) rfl ?_
                                              exact ih (x3 + 8) _ q h
                                            · have h := if_f c164 h
                                              refine ev_iconst (v := 0) dL_law_895 (by decide) ?_
                                              cases h
                                              exact ev_iret dL_law_896 rfl rfl ⟨rfl, rfl⟩
                                          · have h := if_f c155 h
                                            by_cases c165 : ((xs (x3).toNatClampNeg) &&& ((63 : Int32))) = 19
                                            · have h := if_t c165 h
                                              refine ev_tin 19 (off := 864) (tgt := 897) dL_law_33 c165 (by decide) (by decide) (by decide) (by decide) ?_
                                              refine ev_aload_n 1 dL_law_897 rfl rfl ?_
                                              refine ev_aload_n 0 dL_law_898 rfl rfl ?_
                                              refine ev_iload_n 3 dL_law_899 rfl rfl ?_
                                              refine ev_iconst (v := 1) dL_law_900 (by decide) ?_
                                              refine ev_iadd dL_law_901 ?_
                                              obtain ⟨c166, h⟩ := if_c h
                                              refine ev_scl dL_law_902 c166 ?_
                                              refine ev_aload_n 0 dL_law_903 rfl rfl ?_
                                              refine ev_iload_n 3 dL_law_904 rfl rfl ?_
                                              refine ev_iconst (v := 2) dL_law_905 (by decide) ?_
                                              refine ev_iadd dL_law_906 ?_
                                              obtain ⟨c167, h⟩ := if_c h
                                              refine ev_scl dL_law_907 c167 ?_
                                              obtain ⟨q168, e169, h⟩ := bd_c h
                                              refine ev_callVi (av := [.int (xs (x3 + ((1 : Int32))).toNatClampNeg), .int (xs (x3 + ((2 : Int32))).toNatClampNeg)]) dL_law_908 (c_X9_told n (xs (x3 + ((1 : Int32))).toNatClampNeg) (xs (x3 + ((2 : Int32))).toNatClampNeg)  A q168 e169) mk_X9_told lk_L_99 iv_X9_told (Or.inl ⟨9, _, by decide, rfl, by decide, rfl, rfl⟩) rfl (by decide) (by decide) (Nat.le_of_ble_eq_true rfl) rfl ?_
                                              refine ev_aload_n 2 dL_law_911 rfl rfl ?_
                                              refine ev_aload_n 0 dL_law_912 rfl rfl ?_
                                              refine ev_iload_n 3 dL_law_913 rfl rfl ?_
                                              refine ev_iconst (v := 1) dL_law_914 (by decide) ?_
                                              refine ev_iadd dL_law_915 ?_
                                              refine ev_scl dL_law_916 c166 ?_
                                              refine ev_aload_n 0 dL_law_917 rfl rfl ?_
                                              refine ev_iload_n 3 dL_law_918 rfl rfl ?_
                                              refine ev_iconst (v := 2) dL_law_919 (by decide) ?_
                                              refine ev_iadd dL_law_920 ?_
                                              refine ev_scl dL_law_921 c167 ?_
                                              obtain ⟨q170, e171, h⟩ := bd_c h
                                              refine ev_callVi (av := [.int (xs (x3 + ((1 : Int32))).toNatClampNeg), .int (xs (x3 + ((2 : Int32))).toNatClampNeg)]) dL_law_922 (c_X10_told n (xs (x3 + ((1 : Int32))).toNatClampNeg) (xs (x3 + ((2 : Int32))).toNatClampNeg)  q168.2 q170 e171) mk_X10_told lk_L_102 iv_X10_told (Or.inl ⟨10, _, by decide, rfl, by decide, rfl, rfl⟩) rfl (by decide) (by decide) (Nat.le_of_ble_eq_true rfl) rfl ?_
                                              refine ev_icmp_eq (tgt := 1591) dL_law_925 (by decide) (fun c172 => ?_) (fun c172 => ?_)
                                              · have h := if_t c172 h
                                                refine ev_iinc (v := x3 + 8) (ls' := [(3, .int (x3 + 8)), (0, .ref 1000300), (1, .ref 0), (2, .ref 80)]) 3 dL_law_1591 rfl rfl (by decide) rfl ?_
                                                refine ev_goto (tgt := 18) dL_law_1594 (by decide) ?_
                                                refine ev_pick [1, 2, 3, 0] (ls' := [(0, .ref 1000300), (1, .ref 0), (2, .ref 80), (3, .int (x3 + 8))]) rfl ?_
                                                exact ih (x3 + 8) _ q h
                                              · have h := if_f c172 h
                                                refine ev_iconst (v := 0) dL_law_928 (by decide) ?_
                                                cases h
                                                exact ev_iret dL_law_929 rfl rfl ⟨rfl, rfl⟩
                                            · have h := if_f c165 h
                                              by_cases c173 : ((xs (x3).toNatClampNeg) &&& ((63 : Int32))) = 20
                                              · have h := if_t c173 h
                                                refine ev_tin 20 (off := 897) (tgt := 930) dL_law_33 c173 (by decide) (by decide) (by decide) (by decide) ?_
                                                refine ev_aload_n 1 dL_law_930 rfl rfl ?_
                                                refine ev_aload_n 0 dL_law_931 rfl rfl ?_
                                                refine ev_iload_n 3 dL_law_932 rfl rfl ?_
                                                refine ev_iconst (v := 1) dL_law_933 (by decide) ?_
                                                refine ev_iadd dL_law_934 ?_
                                                obtain ⟨c174, h⟩ := if_c h
                                                refine ev_scl dL_law_935 c174 ?_
                                                refine ev_aload_n 0 dL_law_936 rfl rfl ?_
                                                refine ev_iload_n 3 dL_law_937 rfl rfl ?_
                                                refine ev_iconst (v := 2) dL_law_938 (by decide) ?_
                                                refine ev_iadd dL_law_939 ?_
                                                obtain ⟨c175, h⟩ := if_c h
                                                refine ev_scl dL_law_940 c175 ?_
                                                refine ev_aload_n 0 dL_law_941 rfl rfl ?_
                                                refine ev_iload_n 3 dL_law_942 rfl rfl ?_
                                                refine ev_iconst (v := 3) dL_law_943 (by decide) ?_
                                                refine ev_iadd dL_law_944 ?_
                                                obtain ⟨c176, h⟩ := if_c h
                                                refine ev_scl dL_law_945 c176 ?_
                                                obtain ⟨q177, e178, h⟩ := bd_c h
                                                refine ev_callVi (av := [.int (xs (x3 + ((1 : Int32))).toNatClampNeg), .int (xs (x3 + ((2 : Int32))).toNatClampNeg), .int (xs (x3 + ((3 : Int32))).toNatClampNeg)]) dL_law_946 (c_X9_trust n (xs (x3 + ((1 : Int32))).toNatClampNeg) (xs (x3 + ((2 : Int32))).toNatClampNeg) (xs (x3 + ((3 : Int32))).toNatClampNeg)  A q177 e178) mk_X9_trust lk_L_103 iv_X9_trust (Or.inl ⟨9, _, by decide, rfl, by decide, rfl, rfl⟩) rfl (by decide) (by decide) (Nat.le_of_ble_eq_true rfl) rfl ?_
                                                refine ev_aload_n 2 dL_law_949 rfl rfl ?_
                                                refine ev_aload_n 0 dL_law_950 rfl rfl ?_
                                                refine ev_iload_n 3 dL_law_951 rfl rfl ?_
                                                refine ev_iconst (v := 1) dL_law_952 (by decide) ?_
                                                refine ev_iadd dL_law_953 ?_
                                                refine ev_scl dL_law_954 c174 ?_
                                                refine ev_aload_n 0 dL_law_955 rfl rfl ?_
                                                refine ev_iload_n 3 dL_law_956 rfl rfl ?_
                                                refine ev_iconst (v := 2) dL_law_957 (by decide) ?_
                                                refine ev_iadd dL_law_958 ?_
                                                refine ev_scl dL_law_959 c175 ?_
                                                refine ev_aload_n 0 dL_law_960 rfl rfl ?_
                                                refine ev_iload_n 3 dL_law_961 rfl rfl ?_
                                                refine ev_iconst (v := 3) dL_law_962 (by decide) ?_
                                                refine ev_iadd dL_law_963 ?_
                                                refine ev_scl dL_law_964 c176 ?_
                                                obtain ⟨q179, e180, h⟩ := bd_c h
                                                refine ev_callVi (av := [.int (xs (x3 + ((1 : Int32))).toNatClampNeg), .int (xs (x3 + ((2 : Int32))).toNatClampNeg), .int (xs (x3 + ((3 : Int32))).toNatClampNeg)]) dL_law_965 (c_X10_trust n (xs (x3 + ((1 : Int32))).toNatClampNeg) (xs (x3 + ((2 : Int32))).toNatClampNeg) (xs (x3 + ((3 : Int32))).toNatClampNeg)  q177.2 q179 e180) mk_X10_trust lk_L_106 iv_X10_trust (Or.inl ⟨10, _, by decide, rfl, by decide, rfl, rfl⟩) rfl (by decide) (by decide) (Nat.le_of_ble_eq_true rfl) rfl ?_
                                                refine ev_icmp_eq (tgt := 1591) dL_law_968 (by decide) (fun c181 => ?_) (fun c181 => ?_)
                                                · have h := if_t c181 h
                                                  refine ev_iinc (v := x3 + 8) (ls' := [(3, .int (x3 + 8)), (0, .ref 1000300), (1, .ref 0), (2, .ref 80)]) 3 dL_law_1591 rfl rfl (by decide) rfl ?_
                                                  refine ev_goto (tgt := 18) dL_law_1594 (by decide) ?_
                                                  refine ev_pick [1, 2, 3, 0] (ls' := [(0, .ref 1000300), (1, .ref 0), (2, .ref 80), (3, .int (x3 + 8))]) rfl ?_
                                                  exact ih (x3 + 8) _ q h
                                                · have h := if_f c181 h
                                                  refine ev_iconst (v := 0) dL_law_971 (by decide) ?_
                                                  cases h
                                                  exact ev_iret dL_law_972 rfl rfl ⟨rfl, rfl⟩
                                              · have h := if_f c173 h
                                                by_cases c182 : ((xs (x3).toNatClampNeg) &&& ((63 : Int32))) = 21
                                                · have h := if_t c182 h
                                                  refine ev_tin 21 (off := 940) (tgt := 973) dL_law_33 c182 (by decide) (by decide) (by decide) (by decide) ?_
                                                  refine ev_aload_n 1 dL_law_973 rfl rfl ?_
                                                  refine ev_aload_n 0 dL_law_974 rfl rfl ?_
                                                  refine ev_iload_n 3 dL_law_975 rfl rfl ?_
                                                  refine ev_iconst (v := 1) dL_law_976 (by decide) ?_
                                                  refine ev_iadd dL_law_977 ?_
                                                  obtain ⟨c183, h⟩ := if_c h
                                                  refine ev_scl dL_law_978 c183 ?_
                                                  refine ev_aload_n 0 dL_law_979 rfl rfl ?_
                                                  refine ev_iload_n 3 dL_law_980 rfl rfl ?_
                                                  refine ev_iconst (v := 2) dL_law_981 (by decide) ?_
                                                  refine ev_iadd dL_law_982 ?_
                                                  obtain ⟨c184, h⟩ := if_c h
                                                  refine ev_scl dL_law_983 c184 ?_
                                                  refine ev_aload_n 0 dL_law_984 rfl rfl ?_
                                                  refine ev_iload_n 3 dL_law_985 rfl rfl ?_
                                                  refine ev_iconst (v := 3) dL_law_986 (by decide) ?_
                                                  refine ev_iadd dL_law_987 ?_
                                                  obtain ⟨c185, h⟩ := if_c h
                                                  refine ev_scl dL_law_988 c185 ?_
                                                  refine ev_aload_n 0 dL_law_989 rfl rfl ?_
                                                  refine ev_iload_n 3 dL_law_990 rfl rfl ?_
                                                  refine ev_iconst (v := 4) dL_law_991 (by decide) ?_
                                                  refine ev_iadd dL_law_992 ?_
                                                  obtain ⟨c186, h⟩ := if_c h
                                                  refine ev_scl dL_law_993 c186 ?_
                                                  refine ev_aload_n 0 dL_law_994 rfl rfl ?_
                                                  refine ev_iload_n 3 dL_law_995 rfl rfl ?_
                                                  refine ev_iconst (v := 5) dL_law_996 (by decide) ?_
                                                  refine ev_iadd dL_law_997 ?_
                                                  obtain ⟨c187, h⟩ := if_c h
                                                  refine ev_scl dL_law_998 c187 ?_
                                                  obtain ⟨q188, e189, h⟩ := bd_c h
                                                  refine ev_callVi (av := [.int (xs (x3 + ((1 : Int32))).toNatClampNeg), .int (xs (x3 + ((2 : Int32))).toNatClampNeg), .int (xs (x3 + ((3 : Int32))).toNatClampNeg), .int (xs (x3 + ((4 : Int32))).toNatClampNeg), .int (xs (x3 + ((5 : Int32))).toNatClampNeg)]) dL_law_999 (c_X9_concluded n (xs (x3 + ((1 : Int32))).toNatClampNeg) (xs (x3 + ((2 : Int32))).toNatClampNeg) (xs (x3 + ((3 : Int32))).toNatClampNeg) (xs (x3 + ((4 : Int32))).toNatClampNeg) (xs (x3 + ((5 : Int32))).toNatClampNeg)  A q188 e189) mk_X9_concluded lk_L_107 iv_X9_concluded (Or.inl ⟨9, _, by decide, rfl, by decide, rfl, rfl⟩) rfl (by decide) (by decide) (Nat.le_of_ble_eq_true rfl) rfl ?_
                                                  refine ev_aload_n 2 dL_law_1002 rfl rfl ?_
                                                  refine ev_aload_n 0 dL_law_1003 rfl rfl ?_
                                                  refine ev_iload_n 3 dL_law_1004 rfl rfl ?_
                                                  refine ev_iconst (v := 1) dL_law_1005 (by decide) ?_
                                                  refine ev_iadd dL_law_1006 ?_
                                                  refine ev_scl dL_law_1007 c183 ?_
                                                  refine ev_aload_n 0 dL_law_1008 rfl rfl ?_
                                                  refine ev_iload_n 3 dL_law_1009 rfl rfl ?_
                                                  refine ev_iconst (v := 2) dL_law_1010 (by decide) ?_
                                                  refine ev_iadd dL_law_1011 ?_
                                                  refine ev_scl dL_law_1012 c184 ?_
                                                  refine ev_aload_n 0 dL_law_1013 rfl rfl ?_
                                                  refine ev_iload_n 3 dL_law_1014 rfl rfl ?_
                                                  refine ev_iconst (v := 3) dL_law_1015 (by decide) ?_
                                                  refine ev_iadd dL_law_1016 ?_
                                                  refine ev_scl dL_law_1017 c185 ?_
                                                  refine ev_aload_n 0 dL_law_1018 rfl rfl ?_
                                                  refine ev_iload_n 3 dL_law_1019 rfl rfl ?_
                                                  refine ev_iconst (v := 4) dL_law_1020 (by decide) ?_
                                                  refine ev_iadd dL_law_1021 ?_
                                                  refine ev_scl dL_law_1022 c186 ?_
                                                  refine ev_aload_n 0 dL_law_1023 rfl rfl ?_
                                                  refine ev_iload_n 3 dL_law_1024 rfl rfl ?_
                                                  refine ev_iconst (v := 5) dL_law_1025 (by decide) ?_
                                                  refine ev_iadd dL_law_1026 ?_
                                                  refine ev_scl dL_law_1027 c187 ?_
                                                  obtain ⟨q190, e191, h⟩ := bd_c h
                                                  refine ev_callVi (av := [.int (xs (x3 + ((1 : Int32))).toNatClampNeg), .int (xs (x3 + ((2 : Int32))).toNatClampNeg), .int (xs (x3 + ((3 : Int32))).toNatClampNeg), .int (xs (x3 + ((4 : Int32))).toNatClampNeg), .int (xs (x3 + ((5 : Int32))).toNatClampNeg)]) dL_law_1028 (c_X10_concluded n (xs (x3 + ((1 : Int32))).toNatClampNeg) (xs (x3 + ((2 : Int32))).toNatClampNeg) (xs (x3 + ((3 : Int32))).toNatClampNeg) (xs (x3 + ((4 : Int32))).toNatClampNeg) (xs (x3 + ((5 : Int32))).toNatClampNeg)  q188.2 q190 e191) mk_X10_concluded lk_L_111 iv_X10_concluded (Or.inl ⟨10, _, by decide, rfl, by decide, rfl, rfl⟩) rfl (by decide) (by decide) (Nat.le_of_ble_eq_true rfl) rfl ?_
                                                  refine ev_icmp_eq (tgt := 1591) dL_law_1031 (by decide) (fun c192 => ?_) (fun c192 => ?_)
                                                  · have h := if_t c192 h
                                                    refine ev_iinc (v := x3 + 8) (ls' := [(3, .int (x3 + 8)), (0, .ref 1000300), (1, .ref 0), (2, .ref 80)]) 3 dL_law_1591 rfl rfl (by decide) rfl ?_
                                                    refine ev_goto (tgt := 18) dL_law_1594 (by decide) ?_
                                                    refine ev_pick [1, 2, 3, 0] (ls' := [(0, .ref 1000300), (1, .ref 0), (2, .ref 80), (3, .int (x3 + 8))]) rfl ?_
                                                    exact ih (x3 + 8) _ q h
                                                  · have h := if_f c192 h
                                                    refine ev_iconst (v := 0) dL_law_1034 (by decide) ?_
                                                    cases h
                                                    exact ev_iret dL_law_1035 rfl rfl ⟨rfl, rfl⟩
                                                · have h := if_f c182 h
                                                  by_cases c193 : ((xs (x3).toNatClampNeg) &&& ((63 : Int32))) = 22
                                                  · have h := if_t c193 h
                                                    refine ev_tin 22 (off := 1003) (tgt := 1036) dL_law_33 c193 (by decide) (by decide) (by decide) (by decide) ?_
                                                    refine ev_aload_n 1 dL_law_1036 rfl rfl ?_
                                                    refine ev_aload_n 0 dL_law_1037 rfl rfl ?_
                                                    refine ev_iload_n 3 dL_law_1038 rfl rfl ?_
                                                    refine ev_iconst (v := 1) dL_law_1039 (by decide) ?_
                                                    refine ev_iadd dL_law_1040 ?_
                                                    obtain ⟨c194, h⟩ := if_c h
                                                    refine ev_scl dL_law_1041 c194 ?_
                                                    refine ev_aload_n 0 dL_law_1042 rfl rfl ?_
                                                    refine ev_iload_n 3 dL_law_1043 rfl rfl ?_
                                                    refine ev_iconst (v := 2) dL_law_1044 (by decide) ?_
                                                    refine ev_iadd dL_law_1045 ?_
                                                    obtain ⟨c195, h⟩ := if_c h
                                                    refine ev_scl dL_law_1046 c195 ?_
                                                    refine ev_aload_n 0 dL_law_1047 rfl rfl ?_
                                                    refine ev_iload_n 3 dL_law_1048 rfl rfl ?_
                                                    refine ev_iconst (v := 3) dL_law_1049 (by decide) ?_
                                                    refine ev_iadd dL_law_1050 ?_
                                                    obtain ⟨c196, h⟩ := if_c h
                                                    refine ev_scl dL_law_1051 c196 ?_
                                                    refine ev_aload_n 0 dL_law_1052 rfl rfl ?_
                                                    refine ev_iload_n 3 dL_law_1053 rfl rfl ?_
                                                    refine ev_iconst (v := 4) dL_law_1054 (by decide) ?_
                                                    refine ev_iadd dL_law_1055 ?_
                                                    obtain ⟨c197, h⟩ := if_c h
                                                    refine ev_scl dL_law_1056 c197 ?_
                                                    refine ev_aload_n 0 dL_law_1057 rfl rfl ?_
                                                    refine ev_iload_n 3 dL_law_1058 rfl rfl ?_
                                                    refine ev_iconst (v := 5) dL_law_1059 (by decide) ?_
                                                    refine ev_iadd dL_law_1060 ?_
                                                    obtain ⟨c198, h⟩ := if_c h
                                                    refine ev_scl dL_law_1061 c198 ?_
                                                    refine ev_aload_n 0 dL_law_1062 rfl rfl ?_
                                                    refine ev_iload_n 3 dL_law_1063 rfl rfl ?_
                                                    refine ev_bipush (v := 6) dL_law_1064 (by decide) ?_
                                                    refine ev_iadd dL_law_1066 ?_
                                                    obtain ⟨c199, h⟩ := if_c h
                                                    refine ev_scl dL_law_1067 c199 ?_
                                                    obtain ⟨q200, e201, h⟩ := bd_c h
                                                    refine ev_callVi (av := [.int (xs (x3 + ((1 : Int32))).toNatClampNeg), .int (xs (x3 + ((2 : Int32))).toNatClampNeg), .int (xs (x3 + ((3 : Int32))).toNatClampNeg), .int (xs (x3 + ((4 : Int32))).toNatClampNeg), .int (xs (x3 + ((5 : Int32))).toNatClampNeg), .int (xs (x3 + ((6 : Int32))).toNatClampNeg)]) dL_law_1068 (c_X9_weight n (xs (x3 + ((1 : Int32))).toNatClampNeg) (xs (x3 + ((2 : Int32))).toNatClampNeg) (xs (x3 + ((3 : Int32))).toNatClampNeg) (xs (x3 + ((4 : Int32))).toNatClampNeg) (xs (x3 + ((5 : Int32))).toNatClampNeg) (xs (x3 + ((6 : Int32))).toNatClampNeg)  A q200 e201) mk_X9_weight lk_L_112 iv_X9_weight (Or.inl ⟨9, _, by decide, rfl, by decide, rfl, rfl⟩) rfl (by decide) (by decide) (Nat.le_of_ble_eq_true rfl) rfl ?_
                                                    refine ev_aload_n 2 dL_law_1071 rfl rfl ?_
                                                    refine ev_aload_n 0 dL_law_1072 rfl rfl ?_
                                                    refine ev_iload_n 3 dL_law_1073 rfl rfl ?_
                                                    refine ev_iconst (v := 1) dL_law_1074 (by decide) ?_
                                                    refine ev_iadd dL_law_1075 ?_
                                                    refine ev_scl dL_law_1076 c194 ?_
                                                    refine ev_aload_n 0 dL_law_1077 rfl rfl ?_
                                                    refine ev_iload_n 3 dL_law_1078 rfl rfl ?_
                                                    refine ev_iconst (v := 2) dL_law_1079 (by decide) ?_
                                                    refine ev_iadd dL_law_1080 ?_
                                                    refine ev_scl dL_law_1081 c195 ?_
                                                    refine ev_aload_n 0 dL_law_1082 rfl rfl ?_
                                                    refine ev_iload_n 3 dL_law_1083 rfl rfl ?_
                                                    refine ev_iconst (v := 3) dL_law_1084 (by decide) ?_
                                                    refine ev_iadd dL_law_1085 ?_
                                                    refine ev_scl dL_law_1086 c196 ?_
                                                    refine ev_aload_n 0 dL_law_1087 rfl rfl ?_
                                                    refine ev_iload_n 3 dL_law_1088 rfl rfl ?_
                                                    refine ev_iconst (v := 4) dL_law_1089 (by decide) ?_
                                                    refine ev_iadd dL_law_1090 ?_
                                                    refine ev_scl dL_law_1091 c197 ?_
                                                    refine ev_aload_n 0 dL_law_1092 rfl rfl ?_
                                                    refine ev_iload_n 3 dL_law_1093 rfl rfl ?_
                                                    refine ev_iconst (v := 5) dL_law_1094 (by decide) ?_
                                                    refine ev_iadd dL_law_1095 ?_
                                                    refine ev_scl dL_law_1096 c198 ?_
                                                    refine ev_aload_n 0 dL_law_1097 rfl rfl ?_
                                                    refine ev_iload_n 3 dL_law_1098 rfl rfl ?_
                                                    refine ev_bipush (v := 6) dL_law_1099 (by decide) ?_
                                                    refine ev_iadd dL_law_1101 ?_
                                                    refine ev_scl dL_law_1102 c199 ?_
                                                    obtain ⟨q202, e203, h⟩ := bd_c h
                                                    refine ev_callVi (av := [.int (xs (x3 + ((1 : Int32))).toNatClampNeg), .int (xs (x3 + ((2 : Int32))).toNatClampNeg), .int (xs (x3 + ((3 : Int32))).toNatClampNeg), .int (xs (x3 + ((4 : Int32))).toNatClampNeg), .int (xs (x3 + ((5 : Int32))).toNatClampNeg), .int (xs (x3 + ((6 : Int32))).toNatClampNeg)]) dL_law_1103 (c_X10_weight n (xs (x3 + ((1 : Int32))).toNatClampNeg) (xs (x3 + ((2 : Int32))).toNatClampNeg) (xs (x3 + ((3 : Int32))).toNatClampNeg) (xs (x3 + ((4 : Int32))).toNatClampNeg) (xs (x3 + ((5 : Int32))).toNatClampNeg) (xs (x3 + ((6 : Int32))).toNatClampNeg)  q200.2 q202 e203) mk_X10_weight lk_L_116 iv_X10_weight (Or.inl ⟨10, _, by decide, rfl, by decide, rfl, rfl⟩) rfl (by decide) (by decide) (Nat.le_of_ble_eq_true rfl) rfl ?_
                                                    refine ev_icmp_eq (tgt := 1591) dL_law_1106 (by decide) (fun c204 => ?_) (fun c204 => ?_)
                                                    · have h := if_t c204 h
                                                      refine ev_iinc (v := x3 + 8) (ls' := [(3, .int (x3 + 8)), (0, .ref 1000300), (1, .ref 0), (2, .ref 80)]) 3 dL_law_1591 rfl rfl (by decide) rfl ?_
                                                      refine ev_goto (tgt := 18) dL_law_1594 (by decide) ?_
                                                      refine ev_pick [1, 2, 3, 0] (ls' := [(0, .ref 1000300), (1, .ref 0), (2, .ref 80), (3, .int (x3 + 8))]) rfl ?_
                                                      exact ih (x3 + 8) _ q h
                                                    · have h := if_f c204 h
                                                      refine ev_iconst (v := 0) dL_law_1109 (by decide) ?_
                                                      cases h
                                                      exact ev_iret dL_law_1110 rfl rfl ⟨rfl, rfl⟩
                                                  · have h := if_f c193 h
                                                    by_cases c205 : ((xs (x3).toNatClampNeg) &&& ((63 : Int32))) = 23
                                                    · have h := if_t c205 h
                                                      refine ev_tin 23 (off := 1078) (tgt := 1111) dL_law_33 c205 (by decide) (by decide) (by decide) (by decide) ?_
                                                      refine ev_aload_n 1 dL_law_1111 rfl rfl ?_
                                                      refine ev_aload_n 0 dL_law_1112 rfl rfl ?_
                                                      refine ev_iload_n 3 dL_law_1113 rfl rfl ?_
                                                      refine ev_iconst (v := 1) dL_law_1114 (by decide) ?_
                                                      refine ev_iadd dL_law_1115 ?_
                                                      obtain ⟨c206, h⟩ := if_c h
                                                      refine ev_scl dL_law_1116 c206 ?_
                                                      refine ev_aload_n 0 dL_law_1117 rfl rfl ?_
                                                      refine ev_iload_n 3 dL_law_1118 rfl rfl ?_
                                                      refine ev_iconst (v := 2) dL_law_1119 (by decide) ?_
                                                      refine ev_iadd dL_law_1120 ?_
                                                      obtain ⟨c207, h⟩ := if_c h
                                                      refine ev_scl dL_law_1121 c207 ?_
                                                      refine ev_aload_n 0 dL_law_1122 rfl rfl ?_
                                                      refine ev_iload_n 3 dL_law_1123 rfl rfl ?_
                                                      refine ev_iconst (v := 3) dL_law_1124 (by decide) ?_
                                                      refine ev_iadd dL_law_1125 ?_
                                                      obtain ⟨c208, h⟩ := if_c h
                                                      refine ev_scl dL_law_1126 c208 ?_
                                                      refine ev_aload_n 0 dL_law_1127 rfl rfl ?_
                                                      refine ev_iload_n 3 dL_law_1128 rfl rfl ?_
                                                      refine ev_iconst (v := 4) dL_law_1129 (by decide) ?_
                                                      refine ev_iadd dL_law_1130 ?_
                                                      obtain ⟨c209, h⟩ := if_c h
                                                      refine ev_scl dL_law_1131 c209 ?_
                                                      obtain ⟨q210, e211, h⟩ := bd_c h
                                                      refine ev_callVi (av := [.int (xs (x3 + ((1 : Int32))).toNatClampNeg), .int (xs (x3 + ((2 : Int32))).toNatClampNeg), .int (xs (x3 + ((3 : Int32))).toNatClampNeg), .int (xs (x3 + ((4 : Int32))).toNatClampNeg)]) dL_law_1132 (c_X9_story n (xs (x3 + ((1 : Int32))).toNatClampNeg) (xs (x3 + ((2 : Int32))).toNatClampNeg) (xs (x3 + ((3 : Int32))).toNatClampNeg) (xs (x3 + ((4 : Int32))).toNatClampNeg)  A q210 e211) mk_X9_story lk_L_117 iv_X9_story (Or.inl ⟨9, _, by decide, rfl, by decide, rfl, rfl⟩) rfl (by decide) (by decide) (Nat.le_of_ble_eq_true rfl) rfl ?_
                                                      refine ev_aload_n 2 dL_law_1135 rfl rfl ?_
                                                      refine ev_aload_n 0 dL_law_1136 rfl rfl ?_
                                                      refine ev_iload_n 3 dL_law_1137 rfl rfl ?_
                                                      refine ev_iconst (v := 1) dL_law_1138 (by decide) ?_
                                                      refine ev_iadd dL_law_1139 ?_
                                                      refine ev_scl dL_law_1140 c206 ?_
                                                      refine ev_aload_n 0 dL_law_1141 rfl rfl ?_
                                                      refine ev_iload_n 3 dL_law_1142 rfl rfl ?_
                                                      refine ev_iconst (v := 2) dL_law_1143 (by decide) ?_
                                                      refine ev_iadd dL_law_1144 ?_
                                                      refine ev_scl dL_law_1145 c207 ?_
                                                      refine ev_aload_n 0 dL_law_1146 rfl rfl ?_
                                                      refine ev_iload_n 3 dL_law_1147 rfl rfl ?_
                                                      refine ev_iconst (v := 3) dL_law_1148 (by decide) ?_
                                                      refine ev_iadd dL_law_1149 ?_
                                                      refine ev_scl dL_law_1150 c208 ?_
                                                      refine ev_aload_n 0 dL_law_1151 rfl rfl ?_
                                                      refine ev_iload_n 3 dL_law_1152 rfl rfl ?_
                                                      refine ev_iconst (v := 4) dL_law_1153 (by decide) ?_
                                                      refine ev_iadd dL_law_1154 ?_
                                                      refine ev_scl dL_law_1155 c209 ?_
                                                      obtain ⟨q212, e213, h⟩ := bd_c h
                                                      refine ev_callVi (av := [.int (xs (x3 + ((1 : Int32))).toNatClampNeg), .int (xs (x3 + ((2 : Int32))).toNatClampNeg), .int (xs (x3 + ((3 : Int32))).toNatClampNeg), .int (xs (x3 + ((4 : Int32))).toNatClampNeg)]) dL_law_1156 (c_X10_story n (xs (x3 + ((1 : Int32))).toNatClampNeg) (xs (x3 + ((2 : Int32))).toNatClampNeg) (xs (x3 + ((3 : Int32))).toNatClampNeg) (xs (x3 + ((4 : Int32))).toNatClampNeg)  q210.2 q212 e213) mk_X10_story lk_L_120 iv_X10_story (Or.inl ⟨10, _, by decide, rfl, by decide, rfl, rfl⟩) rfl (by decide) (by decide) (Nat.le_of_ble_eq_true rfl) rfl ?_
                                                      refine ev_icmp_eq (tgt := 1591) dL_law_1159 (by decide) (fun c214 => ?_) (fun c214 => ?_)
                                                      · have h := if_t c214 h
                                                        refine ev_iinc (v := x3 + 8) (ls' := [(3, .int (x3 + 8)), (0, .ref 1000300), (1, .ref 0), (2, .ref 80)]) 3 dL_law_1591 rfl rfl (by decide) rfl ?_
                                                        refine ev_goto (tgt := 18) dL_law_1594 (by decide) ?_
                                                        refine ev_pick [1, 2, 3, 0] (ls' := [(0, .ref 1000300), (1, .ref 0), (2, .ref 80), (3, .int (x3 + 8))]) rfl ?_
                                                        exact ih (x3 + 8) _ q h
                                                      · have h := if_f c214 h
                                                        refine ev_iconst (v := 0) dL_law_1162 (by decide) ?_
                                                        cases h
                                                        exact ev_iret dL_law_1163 rfl rfl ⟨rfl, rfl⟩
                                                    · have h := if_f c205 h
                                                      by_cases c215 : ((xs (x3).toNatClampNeg) &&& ((63 : Int32))) = 24
                                                      · have h := if_t c215 h
                                                        refine ev_tin 24 (off := 1131) (tgt := 1164) dL_law_33 c215 (by decide) (by decide) (by decide) (by decide) ?_
                                                        refine ev_aload_n 1 dL_law_1164 rfl rfl ?_
                                                        refine ev_aload_n 0 dL_law_1165 rfl rfl ?_
                                                        refine ev_iload_n 3 dL_law_1166 rfl rfl ?_
                                                        refine ev_iconst (v := 1) dL_law_1167 (by decide) ?_
                                                        refine ev_iadd dL_law_1168 ?_
                                                        obtain ⟨c216, h⟩ := if_c h
                                                        refine ev_scl dL_law_1169 c216 ?_
                                                        refine ev_aload_n 0 dL_law_1170 rfl rfl ?_
                                                        refine ev_iload_n 3 dL_law_1171 rfl rfl ?_
                                                        refine ev_iconst (v := 2) dL_law_1172 (by decide) ?_
                                                        refine ev_iadd dL_law_1173 ?_
                                                        obtain ⟨c217, h⟩ := if_c h
                                                        refine ev_scl dL_law_1174 c217 ?_
                                                        obtain ⟨q218, e219, h⟩ := bd_c h
                                                        refine ev_callVi (av := [.int (xs (x3 + ((1 : Int32))).toNatClampNeg), .int (xs (x3 + ((2 : Int32))).toNatClampNeg)]) dL_law_1175 (c_X9_holds n (xs (x3 + ((1 : Int32))).toNatClampNeg) (xs (x3 + ((2 : Int32))).toNatClampNeg)  A q218 e219) mk_X9_holds lk_L_121 iv_X9_holds (Or.inl ⟨9, _, by decide, rfl, by decide, rfl, rfl⟩) rfl (by decide) (by decide) (Nat.le_of_ble_eq_true rfl) rfl ?_
                                                        refine ev_aload_n 2 dL_law_1178 rfl rfl ?_
                                                        refine ev_aload_n 0 dL_law_1179 rfl rfl ?_
                                                        refine ev_iload_n 3 dL_law_1180 rfl rfl ?_
                                                        refine ev_iconst (v := 1) dL_law_1181 (by decide) ?_
                                                        refine ev_iadd dL_law_1182 ?_
                                                        refine ev_scl dL_law_1183 c216 ?_
                                                        refine ev_aload_n 0 dL_law_1184 rfl rfl ?_
                                                        refine ev_iload_n 3 dL_law_1185 rfl rfl ?_
                                                        refine ev_iconst (v := 2) dL_law_1186 (by decide) ?_
                                                        refine ev_iadd dL_law_1187 ?_
                                                        refine ev_scl dL_law_1188 c217 ?_
                                                        obtain ⟨q220, e221, h⟩ := bd_c h
                                                        refine ev_callVi (av := [.int (xs (x3 + ((1 : Int32))).toNatClampNeg), .int (xs (x3 + ((2 : Int32))).toNatClampNeg)]) dL_law_1189 (c_X10_holds n (xs (x3 + ((1 : Int32))).toNatClampNeg) (xs (x3 + ((2 : Int32))).toNatClampNeg)  q218.2 q220 e221) mk_X10_holds lk_L_124 iv_X10_holds (Or.inl ⟨10, _, by decide, rfl, by decide, rfl, rfl⟩) rfl (by decide) (by decide) (Nat.le_of_ble_eq_true rfl) rfl ?_
                                                        refine ev_icmp_eq (tgt := 1591) dL_law_1192 (by decide) (fun c222 => ?_) (fun c222 => ?_)
                                                        · have h := if_t c222 h
                                                          refine ev_iinc (v := x3 + 8) (ls' := [(3, .int (x3 + 8)), (0, .ref 1000300), (1, .ref 0), (2, .ref 80)]) 3 dL_law_1591 rfl rfl (by decide) rfl ?_
                                                          refine ev_goto (tgt := 18) dL_law_1594 (by decide) ?_
                                                          refine ev_pick [1, 2, 3, 0] (ls' := [(0, .ref 1000300), (1, .ref 0), (2, .ref 80), (3, .int (x3 + 8))]) rfl ?_
                                                          exact ih (x3 + 8) _ q h
                                                        · have h := if_f c222 h
                                                          refine ev_iconst (v := 0) dL_law_1195 (by decide) ?_
                                                          cases h
                                                          exact ev_iret dL_law_1196 rfl rfl ⟨rfl, rfl⟩
                                                      · have h := if_f c215 h
                                                        by_cases c223 : ((xs (x3).toNatClampNeg) &&& ((63 : Int32))) = 25
                                                        · have h := if_t c223 h
                                                          refine ev_tin 25 (off := 1164) (tgt := 1197) dL_law_33 c223 (by decide) (by decide) (by decide) (by decide) ?_
                                                          refine ev_aload_n 1 dL_law_1197 rfl rfl ?_
                                                          refine ev_aload_n 0 dL_law_1198 rfl rfl ?_
                                                          refine ev_iload_n 3 dL_law_1199 rfl rfl ?_
                                                          refine ev_iconst (v := 1) dL_law_1200 (by decide) ?_
                                                          refine ev_iadd dL_law_1201 ?_
                                                          obtain ⟨c224, h⟩ := if_c h
                                                          refine ev_scl dL_law_1202 c224 ?_
                                                          refine ev_aload_n 0 dL_law_1203 rfl rfl ?_
                                                          refine ev_iload_n 3 dL_law_1204 rfl rfl ?_
                                                          refine ev_iconst (v := 2) dL_law_1205 (by decide) ?_
                                                          refine ev_iadd dL_law_1206 ?_
                                                          obtain ⟨c225, h⟩ := if_c h
                                                          refine ev_scl dL_law_1207 c225 ?_
                                                          obtain ⟨q226, e227, h⟩ := bd_c h
                                                          refine ev_callVi (av := [.int (xs (x3 + ((1 : Int32))).toNatClampNeg), .int (xs (x3 + ((2 : Int32))).toNatClampNeg)]) dL_law_1208 (c_X9_keeps n (xs (x3 + ((1 : Int32))).toNatClampNeg) (xs (x3 + ((2 : Int32))).toNatClampNeg)  A q226 e227) mk_X9_keeps lk_L_125 iv_X9_keeps (Or.inl ⟨9, _, by decide, rfl, by decide, rfl, rfl⟩) rfl (by decide) (by decide) (Nat.le_of_ble_eq_true rfl) rfl ?_
                                                          refine ev_aload_n 2 dL_law_1211 rfl rfl ?_
                                                          refine ev_aload_n 0 dL_law_1212 rfl rfl ?_
                                                          refine ev_iload_n 3 dL_law_1213 rfl rfl ?_
                                                          refine ev_iconst (v := 1) dL_law_1214 (by decide) ?_
                                                          refine ev_iadd dL_law_1215 ?_
                                                          refine ev_scl dL_law_1216 c224 ?_
                                                          refine ev_aload_n 0 dL_law_1217 rfl rfl ?_
                                                          refine ev_iload_n 3 dL_law_1218 rfl rfl ?_
                                                          refine ev_iconst (v := 2) dL_law_1219 (by decide) ?_
                                                          refine ev_iadd dL_law_1220 ?_
                                                          refine ev_scl dL_law_1221 c225 ?_
                                                          obtain ⟨q228, e229, h⟩ := bd_c h
                                                          refine ev_callVi (av := [.int (xs (x3 + ((1 : Int32))).toNatClampNeg), .int (xs (x3 + ((2 : Int32))).toNatClampNeg)]) dL_law_1222 (c_X10_keeps n (xs (x3 + ((1 : Int32))).toNatClampNeg) (xs (x3 + ((2 : Int32))).toNatClampNeg)  q226.2 q228 e229) mk_X10_keeps lk_L_128 iv_X10_keeps (Or.inl ⟨10, _, by decide, rfl, by decide, rfl, rfl⟩) rfl (by decide) (by decide) (Nat.le_of_ble_eq_true rfl) rfl ?_
                                                          refine ev_icmp_eq (tgt := 1591) dL_law_1225 (by decide) (fun c230 => ?_) (fun c230 => ?_)
                                                          · have h := if_t c230 h
                                                            refine ev_iinc (v := x3 + 8) (ls' := [(3, .int (x3 + 8)), (0, .ref 1000300), (1, .ref 0), (2, .ref 80)]) 3 dL_law_1591 rfl rfl (by decide) rfl ?_
                                                            refine ev_goto (tgt := 18) dL_law_1594 (by decide) ?_
                                                            refine ev_pick [1, 2, 3, 0] (ls' := [(0, .ref 1000300), (1, .ref 0), (2, .ref 80), (3, .int (x3 + 8))]) rfl ?_
                                                            exact ih (x3 + 8) _ q h
                                                          · have h := if_f c230 h
                                                            refine ev_iconst (v := 0) dL_law_1228 (by decide) ?_
                                                            cases h
                                                            exact ev_iret dL_law_1229 rfl rfl ⟨rfl, rfl⟩
                                                        · have h := if_f c223 h
                                                          by_cases c231 : ((xs (x3).toNatClampNeg) &&& ((63 : Int32))) = 26
                                                          · have h := if_t c231 h
                                                            refine ev_tin 26 (off := 1197) (tgt := 1230) dL_law_33 c231 (by decide) (by decide) (by decide) (by decide) ?_
                                                            refine ev_aload_n 1 dL_law_1230 rfl rfl ?_
                                                            refine ev_aload_n 0 dL_law_1231 rfl rfl ?_
                                                            refine ev_iload_n 3 dL_law_1232 rfl rfl ?_
                                                            refine ev_iconst (v := 1) dL_law_1233 (by decide) ?_
                                                            refine ev_iadd dL_law_1234 ?_
                                                            obtain ⟨c232, h⟩ := if_c h
                                                            refine ev_scl dL_law_1235 c232 ?_
                                                            refine ev_aload_n 0 dL_law_1236 rfl rfl ?_
                                                            refine ev_iload_n 3 dL_law_1237 rfl rfl ?_
                                                            refine ev_iconst (v := 2) dL_law_1238 (by decide) ?_
                                                            refine ev_iadd dL_law_1239 ?_
                                                            obtain ⟨c233, h⟩ := if_c h
                                                            refine ev_scl dL_law_1240 c233 ?_
                                                            refine ev_aload_n 0 dL_law_1241 rfl rfl ?_
                                                            refine ev_iload_n 3 dL_law_1242 rfl rfl ?_
                                                            refine ev_iconst (v := 3) dL_law_1243 (by decide) ?_
                                                            refine ev_iadd dL_law_1244 ?_
                                                            obtain ⟨c234, h⟩ := if_c h
                                                            refine ev_scl dL_law_1245 c234 ?_
                                                            refine ev_aload_n 0 dL_law_1246 rfl rfl ?_
                                                            refine ev_iload_n 3 dL_law_1247 rfl rfl ?_
                                                            refine ev_iconst (v := 4) dL_law_1248 (by decide) ?_
                                                            refine ev_iadd dL_law_1249 ?_
                                                            obtain ⟨c235, h⟩ := if_c h
                                                            refine ev_scl dL_law_1250 c235 ?_
                                                            refine ev_aload_n 0 dL_law_1251 rfl rfl ?_
                                                            refine ev_iload_n 3 dL_law_1252 rfl rfl ?_
                                                            refine ev_iconst (v := 5) dL_law_1253 (by decide) ?_
                                                            refine ev_iadd dL_law_1254 ?_
                                                            obtain ⟨c236, h⟩ := if_c h
                                                            refine ev_scl dL_law_1255 c236 ?_
                                                            refine ev_aload_n 0 dL_law_1256 rfl rfl ?_
                                                            refine ev_iload_n 3 dL_law_1257 rfl rfl ?_
                                                            refine ev_bipush (v := 6) dL_law_1258 (by decide) ?_
                                                            refine ev_iadd dL_law_1260 ?_
                                                            obtain ⟨c237, h⟩ := if_c h
                                                            refine ev_scl dL_law_1261 c237 ?_
                                                            refine ev_aload_n 0 dL_law_1262 rfl rfl ?_
                                                            refine ev_iload_n 3 dL_law_1263 rfl rfl ?_
                                                            refine ev_bipush (v := 7) dL_law_1264 (by decide) ?_
                                                            refine ev_iadd dL_law_1266 ?_
                                                            obtain ⟨c238, h⟩ := if_c h
                                                            refine ev_scl dL_law_1267 c238 ?_
                                                            obtain ⟨q239, e240, h⟩ := bd_c h
                                                            refine ev_callVi (av := [.int (xs (x3 + ((1 : Int32))).toNatClampNeg), .int (xs (x3 + ((2 : Int32))).toNatClampNeg), .int (xs (x3 + ((3 : Int32))).toNatClampNeg), .int (xs (x3 + ((4 : Int32))).toNatClampNeg), .int (xs (x3 + ((5 : Int32))).toNatClampNeg), .int (xs (x3 + ((6 : Int32))).toNatClampNeg), .int (xs (x3 + ((7 : Int32))).toNatClampNeg)]) dL_law_1268 (c_X9_draft n (xs (x3 + ((1 : Int32))).toNatClampNeg) (xs (x3 + ((2 : Int32))).toNatClampNeg) (xs (x3 + ((3 : Int32))).toNatClampNeg) (xs (x3 + ((4 : Int32))).toNatClampNeg) (xs (x3 + ((5 : Int32))).toNatClampNeg) (xs (x3 + ((6 : Int32))).toNatClampNeg) (xs (x3 + ((7 : Int32))).toNatClampNeg)  A q239 e240) mk_X9_draft lk_L_129 iv_X9_draft (Or.inl ⟨9, _, by decide, rfl, by decide, rfl, rfl⟩) rfl (by decide) (by decide) (Nat.le_of_ble_eq_true rfl) rfl ?_
                                                            refine ev_aload_n 2 dL_law_1271 rfl rfl ?_
                                                            refine ev_aload_n 0 dL_law_1272 rfl rfl ?_
                                                            refine ev_iload_n 3 dL_law_1273 rfl rfl ?_
                                                            refine ev_iconst (v := 1) dL_law_1274 (by decide) ?_
                                                            refine ev_iadd dL_law_1275 ?_
                                                            refine ev_scl dL_law_1276 c232 ?_
                                                            refine ev_aload_n 0 dL_law_1277 rfl rfl ?_
                                                            refine ev_iload_n 3 dL_law_1278 rfl rfl ?_
                                                            refine ev_iconst (v := 2) dL_law_1279 (by decide) ?_
                                                            refine ev_iadd dL_law_1280 ?_
                                                            refine ev_scl dL_law_1281 c233 ?_
                                                            refine ev_aload_n 0 dL_law_1282 rfl rfl ?_
                                                            refine ev_iload_n 3 dL_law_1283 rfl rfl ?_
                                                            refine ev_iconst (v := 3) dL_law_1284 (by decide) ?_
                                                            refine ev_iadd dL_law_1285 ?_
                                                            refine ev_scl dL_law_1286 c234 ?_
                                                            refine ev_aload_n 0 dL_law_1287 rfl rfl ?_
                                                            refine ev_iload_n 3 dL_law_1288 rfl rfl ?_
                                                            refine ev_iconst (v := 4) dL_law_1289 (by decide) ?_
                                                            refine ev_iadd dL_law_1290 ?_
                                                            refine ev_scl dL_law_1291 c235 ?_
                                                            refine ev_aload_n 0 dL_law_1292 rfl rfl ?_
                                                            refine ev_iload_n 3 dL_law_1293 rfl rfl ?_
                                                            refine ev_iconst (v := 5) dL_law_1294 (by decide) ?_
                                                            refine ev_iadd dL_law_1295 ?_
                                                            refine ev_scl dL_law_1296 c236 ?_
                                                            refine ev_aload_n 0 dL_law_1297 rfl rfl ?_
                                                            refine ev_iload_n 3 dL_law_1298 rfl rfl ?_
                                                            refine ev_bipush (v := 6) dL_law_1299 (by decide) ?_
                                                            refine ev_iadd dL_law_1301 ?_
                                                            refine ev_scl dL_law_1302 c237 ?_
                                                            refine ev_aload_n 0 dL_law_1303 rfl rfl ?_
                                                            refine ev_iload_n 3 dL_law_1304 rfl rfl ?_
                                                            refine ev_bipush (v := 7) dL_law_1305 (by decide) ?_
                                                            refine ev_iadd dL_law_1307 ?_
                                                            refine ev_scl dL_law_1308 c238 ?_
                                                            obtain ⟨q241, e242, h⟩ := bd_c h
                                                            refine ev_callVi (av := [.int (xs (x3 + ((1 : Int32))).toNatClampNeg), .int (xs (x3 + ((2 : Int32))).toNatClampNeg), .int (xs (x3 + ((3 : Int32))).toNatClampNeg), .int (xs (x3 + ((4 : Int32))).toNatClampNeg), .int (xs (x3 + ((5 : Int32))).toNatClampNeg), .int (xs (x3 + ((6 : Int32))).toNatClampNeg), .int (xs (x3 + ((7 : Int32))).toNatClampNeg)]) dL_law_1309 (c_X10_draft n (xs (x3 + ((1 : Int32))).toNatClampNeg) (xs (x3 + ((2 : Int32))).toNatClampNeg) (xs (x3 + ((3 : Int32))).toNatClampNeg) (xs (x3 + ((4 : Int32))).toNatClampNeg) (xs (x3 + ((5 : Int32))).toNatClampNeg) (xs (x3 + ((6 : Int32))).toNatClampNeg) (xs (x3 + ((7 : Int32))).toNatClampNeg)  q239.2 q241 e242) mk_X10_draft lk_L_132 iv_X10_draft (Or.inl ⟨10, _, by decide, rfl, by decide, rfl, rfl⟩) rfl (by decide) (by decide) (Nat.le_of_ble_eq_true rfl) rfl ?_
                                                            refine ev_icmp_eq (tgt := 1591) dL_law_1312 (by decide) (fun c243 => ?_) (fun c243 => ?_)
                                                            · have h := if_t c243 h
                                                              refine ev_iinc (v := x3 + 8) (ls' := [(3, .int (x3 + 8)), (0, .ref 1000300), (1, .ref 0), (2, .ref 80)]) 3 dL_law_1591 rfl rfl (by decide) rfl ?_
                                                              refine ev_goto (tgt := 18) dL_law_1594 (by decide) ?_
                                                              refine ev_pick [1, 2, 3, 0] (ls' := [(0, .ref 1000300), (1, .ref 0), (2, .ref 80), (3, .int (x3 + 8))]) rfl ?_
                                                              exact ih (x3 + 8) _ q h
                                                            · have h := if_f c243 h
                                                              refine ev_iconst (v := 0) dL_law_1315 (by decide) ?_
                                                              cases h
                                                              exact ev_iret dL_law_1316 rfl rfl ⟨rfl, rfl⟩
                                                          · have h := if_f c231 h
                                                            by_cases c244 : ((xs (x3).toNatClampNeg) &&& ((63 : Int32))) = 27
                                                            · have h := if_t c244 h
                                                              refine ev_tin 27 (off := 1284) (tgt := 1317) dL_law_33 c244 (by decide) (by decide) (by decide) (by decide) ?_
                                                              refine ev_aload_n 1 dL_law_1317 rfl rfl ?_
                                                              refine ev_aload_n 0 dL_law_1318 rfl rfl ?_
                                                              refine ev_iload_n 3 dL_law_1319 rfl rfl ?_
                                                              refine ev_iconst (v := 1) dL_law_1320 (by decide) ?_
                                                              refine ev_iadd dL_law_1321 ?_
                                                              obtain ⟨c245, h⟩ := if_c h
                                                              refine ev_scl dL_law_1322 c245 ?_
                                                              refine ev_aload_n 0 dL_law_1323 rfl rfl ?_
                                                              refine ev_iload_n 3 dL_law_1324 rfl rfl ?_
                                                              refine ev_iconst (v := 2) dL_law_1325 (by decide) ?_
                                                              refine ev_iadd dL_law_1326 ?_
                                                              obtain ⟨c246, h⟩ := if_c h
                                                              refine ev_scl dL_law_1327 c246 ?_
                                                              refine ev_aload_n 0 dL_law_1328 rfl rfl ?_
                                                              refine ev_iload_n 3 dL_law_1329 rfl rfl ?_
                                                              refine ev_iconst (v := 3) dL_law_1330 (by decide) ?_
                                                              refine ev_iadd dL_law_1331 ?_
                                                              obtain ⟨c247, h⟩ := if_c h
                                                              refine ev_scl dL_law_1332 c247 ?_
                                                              obtain ⟨q248, e249, h⟩ := bd_c h
                                                              refine ev_callVi (av := [.int (xs (x3 + ((1 : Int32))).toNatClampNeg), .int (xs (x3 + ((2 : Int32))).toNatClampNeg), .int (xs (x3 + ((3 : Int32))).toNatClampNeg)]) dL_law_1333 (c_X9_mark n (xs (x3 + ((1 : Int32))).toNatClampNeg) (xs (x3 + ((2 : Int32))).toNatClampNeg) (xs (x3 + ((3 : Int32))).toNatClampNeg)  A q248 e249) mk_X9_mark lk_L_133 iv_X9_mark (Or.inl ⟨9, _, by decide, rfl, by decide, rfl, rfl⟩) rfl (by decide) (by decide) (Nat.le_of_ble_eq_true rfl) rfl ?_
                                                              refine ev_aload_n 2 dL_law_1336 rfl rfl ?_
                                                              refine ev_aload_n 0 dL_law_1337 rfl rfl ?_
                                                              refine ev_iload_n 3 dL_law_1338 rfl rfl ?_
                                                              refine ev_iconst (v := 1) dL_law_1339 (by decide) ?_
                                                              refine ev_iadd dL_law_1340 ?_
                                                              refine ev_scl dL_law_1341 c245 ?_
                                                              refine ev_aload_n 0 dL_law_1342 rfl rfl ?_
                                                              refine ev_iload_n 3 dL_law_1343 rfl rfl ?_
                                                              refine ev_iconst (v := 2) dL_law_1344 (by decide) ?_
                                                              refine ev_iadd dL_law_1345 ?_
                                                              refine ev_scl dL_law_1346 c246 ?_
                                                              refine ev_aload_n 0 dL_law_1347 rfl rfl ?_
                                                              refine ev_iload_n 3 dL_law_1348 rfl rfl ?_
                                                              refine ev_iconst (v := 3) dL_law_1349 (by decide) ?_
                                                              refine ev_iadd dL_law_1350 ?_
                                                              refine ev_scl dL_law_1351 c247 ?_
                                                              obtain ⟨q250, e251, h⟩ := bd_c h
                                                              refine ev_callVi (av := [.int (xs (x3 + ((1 : Int32))).toNatClampNeg), .int (xs (x3 + ((2 : Int32))).toNatClampNeg), .int (xs (x3 + ((3 : Int32))).toNatClampNeg)]) dL_law_1352 (c_X10_mark n (xs (x3 + ((1 : Int32))).toNatClampNeg) (xs (x3 + ((2 : Int32))).toNatClampNeg) (xs (x3 + ((3 : Int32))).toNatClampNeg)  q248.2 q250 e251) mk_X10_mark lk_L_136 iv_X10_mark (Or.inl ⟨10, _, by decide, rfl, by decide, rfl, rfl⟩) rfl (by decide) (by decide) (Nat.le_of_ble_eq_true rfl) rfl ?_
                                                              refine ev_icmp_eq (tgt := 1591) dL_law_1355 (by decide) (fun c252 => ?_) (fun c252 => ?_)
                                                              · have h := if_t c252 h
                                                                refine ev_iinc (v := x3 + 8) (ls' := [(3, .int (x3 + 8)), (0, .ref 1000300), (1, .ref 0), (2, .ref 80)]) 3 dL_law_1591 rfl rfl (by decide) rfl ?_
                                                                refine ev_goto (tgt := 18) dL_law_1594 (by decide) ?_
                                                                refine ev_pick [1, 2, 3, 0] (ls' := [(0, .ref 1000300), (1, .ref 0), (2, .ref 80), (3, .int (x3 + 8))]) rfl ?_
                                                                exact ih (x3 + 8) _ q h
                                                              · have h := if_f c252 h
                                                                refine ev_iconst (v := 0) dL_law_1358 (by decide) ?_
                                                                cases h
                                                                exact ev_iret dL_law_1359 rfl rfl ⟨rfl, rfl⟩
                                                            · have h := if_f c244 h
                                                              by_cases c253 : ((xs (x3).toNatClampNeg) &&& ((63 : Int32))) = 28
                                                              · have h := if_t c253 h
                                                                refine ev_tin 28 (off := 1327) (tgt := 1360) dL_law_33 c253 (by decide) (by decide) (by decide) (by decide) ?_
                                                                refine ev_aload_n 1 dL_law_1360 rfl rfl ?_
                                                                refine ev_aload_n 0 dL_law_1361 rfl rfl ?_
                                                                refine ev_iload_n 3 dL_law_1362 rfl rfl ?_
                                                                refine ev_iconst (v := 1) dL_law_1363 (by decide) ?_
                                                                refine ev_iadd dL_law_1364 ?_
                                                                obtain ⟨c254, h⟩ := if_c h
                                                                refine ev_scl dL_law_1365 c254 ?_
                                                                obtain ⟨q255, e256, h⟩ := bd_c h
                                                                refine ev_callVi (av := [.int (xs (x3 + ((1 : Int32))).toNatClampNeg)]) dL_law_1366 (c_X9_make n (xs (x3 + ((1 : Int32))).toNatClampNeg)  A q255 e256) mk_X9_make lk_L_137 iv_X9_make (Or.inl ⟨9, _, by decide, rfl, by decide, rfl, rfl⟩) rfl (by decide) (by decide) (Nat.le_of_ble_eq_true rfl) rfl ?_
                                                                refine ev_aload_n 2 dL_law_1369 rfl rfl ?_
                                                                refine ev_aload_n 0 dL_law_1370 rfl rfl ?_
                                                                refine ev_iload_n 3 dL_law_1371 rfl rfl ?_
                                                                refine ev_iconst (v := 1) dL_law_1372 (by decide) ?_
                                                                refine ev_iadd dL_law_1373 ?_
                                                                refine ev_scl dL_law_1374 c254 ?_
                                                                obtain ⟨q257, e258, h⟩ := bd_c h
                                                                refine ev_callVi (av := [.int (xs (x3 + ((1 : Int32))).toNatClampNeg)]) dL_law_1375 (c_X10_make n (xs (x3 + ((1 : Int32))).toNatClampNeg)  q255.2 q257 e258) mk_X10_make lk_L_140 iv_X10_make (Or.inl ⟨10, _, by decide, rfl, by decide, rfl, rfl⟩) rfl (by decide) (by decide) (Nat.le_of_ble_eq_true rfl) rfl ?_
                                                                refine ev_icmp_eq (tgt := 1591) dL_law_1378 (by decide) (fun c259 => ?_) (fun c259 => ?_)
                                                                · have h := if_t c259 h
                                                                  refine ev_iinc (v := x3 + 8) (ls' := [(3, .int (x3 + 8)), (0, .ref 1000300), (1, .ref 0), (2, .ref 80)]) 3 dL_law_1591 rfl rfl (by decide) rfl ?_
                                                                  refine ev_goto (tgt := 18) dL_law_1594 (by decide) ?_
                                                                  refine ev_pick [1, 2, 3, 0] (ls' := [(0, .ref 1000300), (1, .ref 0), (2, .ref 80), (3, .int (x3 + 8))]) rfl ?_
                                                                  exact ih (x3 + 8) _ q h
                                                                · have h := if_f c259 h
                                                                  refine ev_iconst (v := 0) dL_law_1381 (by decide) ?_
                                                                  cases h
                                                                  exact ev_iret dL_law_1382 rfl rfl ⟨rfl, rfl⟩
                                                              · have h := if_f c253 h
                                                                by_cases c260 : ((xs (x3).toNatClampNeg) &&& ((63 : Int32))) = 29
                                                                · have h := if_t c260 h
                                                                  refine ev_tin 29 (off := 1350) (tgt := 1383) dL_law_33 c260 (by decide) (by decide) (by decide) (by decide) ?_
                                                                  refine ev_aload_n 1 dL_law_1383 rfl rfl ?_
                                                                  refine ev_aload_n 0 dL_law_1384 rfl rfl ?_
                                                                  refine ev_iload_n 3 dL_law_1385 rfl rfl ?_
                                                                  refine ev_iconst (v := 1) dL_law_1386 (by decide) ?_
                                                                  refine ev_iadd dL_law_1387 ?_
                                                                  obtain ⟨c261, h⟩ := if_c h
                                                                  refine ev_scl dL_law_1388 c261 ?_
                                                                  refine ev_aload_n 0 dL_law_1389 rfl rfl ?_
                                                                  refine ev_iload_n 3 dL_law_1390 rfl rfl ?_
                                                                  refine ev_iconst (v := 2) dL_law_1391 (by decide) ?_
                                                                  refine ev_iadd dL_law_1392 ?_
                                                                  obtain ⟨c262, h⟩ := if_c h
                                                                  refine ev_scl dL_law_1393 c262 ?_
                                                                  refine ev_aload_n 0 dL_law_1394 rfl rfl ?_
                                                                  refine ev_iload_n 3 dL_law_1395 rfl rfl ?_
                                                                  refine ev_iconst (v := 3) dL_law_1396 (by decide) ?_
                                                                  refine ev_iadd dL_law_1397 ?_
                                                                  obtain ⟨c263, h⟩ := if_c h
                                                                  refine ev_scl dL_law_1398 c263 ?_
                                                                  obtain ⟨q264, e265, h⟩ := bd_c h
                                                                  refine ev_callVi (av := [.int (xs (x3 + ((1 : Int32))).toNatClampNeg), .int (xs (x3 + ((2 : Int32))).toNatClampNeg), .int (xs (x3 + ((3 : Int32))).toNatClampNeg)]) dL_law_1399 (c_X9_buy n (xs (x3 + ((1 : Int32))).toNatClampNeg) (xs (x3 + ((2 : Int32))).toNatClampNeg) (xs (x3 + ((3 : Int32))).toNatClampNeg)  A q264 e265) mk_X9_buy lk_L_141 iv_X9_buy (Or.inl ⟨9, _, by decide, rfl, by decide, rfl, rfl⟩) rfl (by decide) (by decide) (Nat.le_of_ble_eq_true rfl) rfl ?_
                                                                  refine ev_aload_n 2 dL_law_1402 rfl rfl ?_
                                                                  refine ev_aload_n 0 dL_law_1403 rfl rfl ?_
                                                                  refine ev_iload_n 3 dL_law_1404 rfl rfl ?_
                                                                  refine ev_iconst (v := 1) dL_law_1405 (by decide) ?_
                                                                  refine ev_iadd dL_law_1406 ?_
                                                                  refine ev_scl dL_law_1407 c261 ?_
                                                                  refine ev_aload_n 0 dL_law_1408 rfl rfl ?_
                                                                  refine ev_iload_n 3 dL_law_1409 rfl rfl ?_
                                                                  refine ev_iconst (v := 2) dL_law_1410 (by decide) ?_
                                                                  refine ev_iadd dL_law_1411 ?_
                                                                  refine ev_scl dL_law_1412 c262 ?_
                                                                  refine ev_aload_n 0 dL_law_1413 rfl rfl ?_
                                                                  refine ev_iload_n 3 dL_law_1414 rfl rfl ?_
                                                                  refine ev_iconst (v := 3) dL_law_1415 (by decide) ?_
                                                                  refine ev_iadd dL_law_1416 ?_
                                                                  refine ev_scl dL_law_1417 c263 ?_
                                                                  obtain ⟨q266, e267, h⟩ := bd_c h
                                                                  refine ev_callVi (av := [.int (xs (x3 + ((1 : Int32))).toNatClampNeg), .int (xs (x3 + ((2 : Int32))).toNatClampNeg), .int (xs (x3 + ((3 : Int32))).toNatClampNeg)]) dL_law_1418 (c_X10_buy n (xs (x3 + ((1 : Int32))).toNatClampNeg) (xs (x3 + ((2 : Int32))).toNatClampNeg) (xs (x3 + ((3 : Int32))).toNatClampNeg)  q264.2 q266 e267) mk_X10_buy lk_L_144 iv_X10_buy (Or.inl ⟨10, _, by decide, rfl, by decide, rfl, rfl⟩) rfl (by decide) (by decide) (Nat.le_of_ble_eq_true rfl) rfl ?_
                                                                  refine ev_icmp_eq (tgt := 1591) dL_law_1421 (by decide) (fun c268 => ?_) (fun c268 => ?_)
                                                                  · have h := if_t c268 h
                                                                    refine ev_iinc (v := x3 + 8) (ls' := [(3, .int (x3 + 8)), (0, .ref 1000300), (1, .ref 0), (2, .ref 80)]) 3 dL_law_1591 rfl rfl (by decide) rfl ?_
                                                                    refine ev_goto (tgt := 18) dL_law_1594 (by decide) ?_
                                                                    refine ev_pick [1, 2, 3, 0] (ls' := [(0, .ref 1000300), (1, .ref 0), (2, .ref 80), (3, .int (x3 + 8))]) rfl ?_
                                                                    exact ih (x3 + 8) _ q h
                                                                  · have h := if_f c268 h
                                                                    refine ev_iconst (v := 0) dL_law_1424 (by decide) ?_
                                                                    cases h
                                                                    exact ev_iret dL_law_1425 rfl rfl ⟨rfl, rfl⟩
                                                                · have h := if_f c260 h
                                                                  by_cases c269 : ((xs (x3).toNatClampNeg) &&& ((63 : Int32))) = 30
                                                                  · have h := if_t c269 h
                                                                    refine ev_tin 30 (off := 1393) (tgt := 1426) dL_law_33 c269 (by decide) (by decide) (by decide) (by decide) ?_
                                                                    refine ev_aload_n 1 dL_law_1426 rfl rfl ?_
                                                                    refine ev_aload_n 0 dL_law_1427 rfl rfl ?_
                                                                    refine ev_iload_n 3 dL_law_1428 rfl rfl ?_
                                                                    refine ev_iconst (v := 1) dL_law_1429 (by decide) ?_
                                                                    refine ev_iadd dL_law_1430 ?_
                                                                    obtain ⟨c270, h⟩ := if_c h
                                                                    refine ev_scl dL_law_1431 c270 ?_
                                                                    refine ev_aload_n 0 dL_law_1432 rfl rfl ?_
                                                                    refine ev_iload_n 3 dL_law_1433 rfl rfl ?_
                                                                    refine ev_iconst (v := 2) dL_law_1434 (by decide) ?_
                                                                    refine ev_iadd dL_law_1435 ?_
                                                                    obtain ⟨c271, h⟩ := if_c h
                                                                    refine ev_scl dL_law_1436 c271 ?_
                                                                    refine ev_aload_n 0 dL_law_1437 rfl rfl ?_
                                                                    refine ev_iload_n 3 dL_law_1438 rfl rfl ?_
                                                                    refine ev_iconst (v := 3) dL_law_1439 (by decide) ?_
                                                                    refine ev_iadd dL_law_1440 ?_
                                                                    obtain ⟨c272, h⟩ := if_c h
                                                                    refine ev_scl dL_law_1441 c272 ?_
                                                                    refine ev_aload_n 0 dL_law_1442 rfl rfl ?_
                                                                    refine ev_iload_n 3 dL_law_1443 rfl rfl ?_
                                                                    refine ev_iconst (v := 4) dL_law_1444 (by decide) ?_
                                                                    refine ev_iadd dL_law_1445 ?_
                                                                    obtain ⟨c273, h⟩ := if_c h
                                                                    refine ev_scl dL_law_1446 c273 ?_
                                                                    obtain ⟨q274, e275, h⟩ := bd_c h
                                                                    refine ev_callVi (av := [.int (xs (x3 + ((1 : Int32))).toNatClampNeg), .int (xs (x3 + ((2 : Int32))).toNatClampNeg), .int (xs (x3 + ((3 : Int32))).toNatClampNeg), .int (xs (x3 + ((4 : Int32))).toNatClampNeg)]) dL_law_1447 (c_X9_question n (xs (x3 + ((1 : Int32))).toNatClampNeg) (xs (x3 + ((2 : Int32))).toNatClampNeg) (xs (x3 + ((3 : Int32))).toNatClampNeg) (xs (x3 + ((4 : Int32))).toNatClampNeg)  A q274 e275) mk_X9_question lk_L_145 iv_X9_question (Or.inl ⟨9, _, by decide, rfl, by decide, rfl, rfl⟩) rfl (by decide) (by decide) (Nat.le_of_ble_eq_true rfl) rfl ?_
                                                                    refine ev_aload_n 2 dL_law_1450 rfl rfl ?_
                                                                    refine ev_aload_n 0 dL_law_1451 rfl rfl ?_
                                                                    refine ev_iload_n 3 dL_law_1452 rfl rfl ?_
                                                                    refine ev_iconst (v := 1) dL_law_1453 (by decide) ?_
                                                                    refine ev_iadd dL_law_1454 ?_
                                                                    refine ev_scl dL_law_1455 c270 ?_
                                                                    refine ev_aload_n 0 dL_law_1456 rfl rfl ?_
                                                                    refine ev_iload_n 3 dL_law_1457 rfl rfl ?_
                                                                    refine ev_iconst (v := 2) dL_law_1458 (by decide) ?_
                                                                    refine ev_iadd dL_law_1459 ?_
                                                                    refine ev_scl dL_law_1460 c271 ?_
                                                                    refine ev_aload_n 0 dL_law_1461 rfl rfl ?_
                                                                    refine ev_iload_n 3 dL_law_1462 rfl rfl ?_
                                                                    refine ev_iconst (v := 3) dL_law_1463 (by decide) ?_
                                                                    refine ev_iadd dL_law_1464 ?_
                                                                    refine ev_scl dL_law_1465 c272 ?_
                                                                    refine ev_aload_n 0 dL_law_1466 rfl rfl ?_
                                                                    refine ev_iload_n 3 dL_law_1467 rfl rfl ?_
                                                                    refine ev_iconst (v := 4) dL_law_1468 (by decide) ?_
                                                                    refine ev_iadd dL_law_1469 ?_
                                                                    refine ev_scl dL_law_1470 c273 ?_
                                                                    obtain ⟨q276, e277, h⟩ := bd_c h
                                                                    refine ev_callVi (av := [.int (xs (x3 + ((1 : Int32))).toNatClampNeg), .int (xs (x3 + ((2 : Int32))).toNatClampNeg), .int (xs (x3 + ((3 : Int32))).toNatClampNeg), .int (xs (x3 + ((4 : Int32))).toNatClampNeg)]) dL_law_1471 (c_X10_question n (xs (x3 + ((1 : Int32))).toNatClampNeg) (xs (x3 + ((2 : Int32))).toNatClampNeg) (xs (x3 + ((3 : Int32))).toNatClampNeg) (xs (x3 + ((4 : Int32))).toNatClampNeg)  q274.2 q276 e277) mk_X10_question lk_L_148 iv_X10_question (Or.inl ⟨10, _, by decide, rfl, by decide, rfl, rfl⟩) rfl (by decide) (by decide) (Nat.le_of_ble_eq_true rfl) rfl ?_
                                                                    refine ev_icmp_eq (tgt := 1591) dL_law_1474 (by decide) (fun c278 => ?_) (fun c278 => ?_)
                                                                    · have h := if_t c278 h
                                                                      refine ev_iinc (v := x3 + 8) (ls' := [(3, .int (x3 + 8)), (0, .ref 1000300), (1, .ref 0), (2, .ref 80)]) 3 dL_law_1591 rfl rfl (by decide) rfl ?_
                                                                      refine ev_goto (tgt := 18) dL_law_1594 (by decide) ?_
                                                                      refine ev_pick [1, 2, 3, 0] (ls' := [(0, .ref 1000300), (1, .ref 0), (2, .ref 80), (3, .int (x3 + 8))]) rfl ?_
                                                                      exact ih (x3 + 8) _ q h
                                                                    · have h := if_f c278 h
                                                                      refine ev_iconst (v := 0) dL_law_1477 (by decide) ?_
                                                                      cases h
                                                                      exact ev_iret dL_law_1478 rfl rfl ⟨rfl, rfl⟩
                                                                  · have h := if_f c269 h
                                                                    by_cases c279 : ((xs (x3).toNatClampNeg) &&& ((63 : Int32))) = 31
                                                                    · have h := if_t c279 h
                                                                      refine ev_tin 31 (off := 1446) (tgt := 1479) dL_law_33 c279 (by decide) (by decide) (by decide) (by decide) ?_
                                                                      refine ev_aload_n 1 dL_law_1479 rfl rfl ?_
                                                                      refine ev_aload_n 0 dL_law_1480 rfl rfl ?_
                                                                      refine ev_iload_n 3 dL_law_1481 rfl rfl ?_
                                                                      refine ev_iconst (v := 1) dL_law_1482 (by decide) ?_
                                                                      refine ev_iadd dL_law_1483 ?_
                                                                      obtain ⟨c280, h⟩ := if_c h
                                                                      refine ev_scl dL_law_1484 c280 ?_
                                                                      refine ev_aload_n 0 dL_law_1485 rfl rfl ?_
                                                                      refine ev_iload_n 3 dL_law_1486 rfl rfl ?_
                                                                      refine ev_iconst (v := 2) dL_law_1487 (by decide) ?_
                                                                      refine ev_iadd dL_law_1488 ?_
                                                                      obtain ⟨c281, h⟩ := if_c h
                                                                      refine ev_scl dL_law_1489 c281 ?_
                                                                      obtain ⟨q282, e283, h⟩ := bd_c h
                                                                      refine ev_callVi (av := [.int (xs (x3 + ((1 : Int32))).toNatClampNeg), .int (xs (x3 + ((2 : Int32))).toNatClampNeg)]) dL_law_1490 (c_X9_pay n (xs (x3 + ((1 : Int32))).toNatClampNeg) (xs (x3 + ((2 : Int32))).toNatClampNeg)  A q282 e283) mk_X9_pay lk_L_149 iv_X9_pay (Or.inl ⟨9, _, by decide, rfl, by decide, rfl, rfl⟩) rfl (by decide) (by decide) (Nat.le_of_ble_eq_true rfl) rfl ?_
                                                                      refine ev_aload_n 2 dL_law_1493 rfl rfl ?_
                                                                      refine ev_aload_n 0 dL_law_1494 rfl rfl ?_
                                                                      refine ev_iload_n 3 dL_law_1495 rfl rfl ?_
                                                                      refine ev_iconst (v := 1) dL_law_1496 (by decide) ?_
                                                                      refine ev_iadd dL_law_1497 ?_
                                                                      refine ev_scl dL_law_1498 c280 ?_
                                                                      refine ev_aload_n 0 dL_law_1499 rfl rfl ?_
                                                                      refine ev_iload_n 3 dL_law_1500 rfl rfl ?_
                                                                      refine ev_iconst (v := 2) dL_law_1501 (by decide) ?_
                                                                      refine ev_iadd dL_law_1502 ?_
                                                                      refine ev_scl dL_law_1503 c281 ?_
                                                                      obtain ⟨q284, e285, h⟩ := bd_c h
                                                                      refine ev_callVi (av := [.int (xs (x3 + ((1 : Int32))).toNatClampNeg), .int (xs (x3 + ((2 : Int32))).toNatClampNeg)]) dL_law_1504 (c_X10_pay n (xs (x3 + ((1 : Int32))).toNatClampNeg) (xs (x3 + ((2 : Int32))).toNatClampNeg)  q282.2 q284 e285) mk_X10_pay lk_L_152 iv_X10_pay (Or.inl ⟨10, _, by decide, rfl, by decide, rfl, rfl⟩) rfl (by decide) (by decide) (Nat.le_of_ble_eq_true rfl) rfl ?_
                                                                      refine ev_icmp_eq (tgt := 1591) dL_law_1507 (by decide) (fun c286 => ?_) (fun c286 => ?_)
                                                                      · have h := if_t c286 h
                                                                        refine ev_iinc (v := x3 + 8) (ls' := [(3, .int (x3 + 8)), (0, .ref 1000300), (1, .ref 0), (2, .ref 80)]) 3 dL_law_1591 rfl rfl (by decide) rfl ?_
                                                                        refine ev_goto (tgt := 18) dL_law_1594 (by decide) ?_
                                                                        refine ev_pick [1, 2, 3, 0] (ls' := [(0, .ref 1000300), (1, .ref 0), (2, .ref 80), (3, .int (x3 + 8))]) rfl ?_
                                                                        exact ih (x3 + 8) _ q h
                                                                      · have h := if_f c286 h
                                                                        refine ev_iconst (v := 0) dL_law_1510 (by decide) ?_
                                                                        cases h
                                                                        exact ev_iret dL_law_1511 rfl rfl ⟨rfl, rfl⟩
                                                                    · have h := if_f c279 h
                                                                      by_cases c287 : ((xs (x3).toNatClampNeg) &&& ((63 : Int32))) = 32
                                                                      · have h := if_t c287 h
                                                                        refine ev_tin 32 (off := 1479) (tgt := 1512) dL_law_33 c287 (by decide) (by decide) (by decide) (by decide) ?_
                                                                        refine ev_aload_n 1 dL_law_1512 rfl rfl ?_
                                                                        obtain ⟨q288, e289, h⟩ := bd_c h
                                                                        refine ev_callVi (av := []) dL_law_1513 (c_X9_which n   A q288 e289) mk_X9_which lk_L_153 iv_X9_which (Or.inl ⟨9, _, by decide, rfl, by decide, rfl, rfl⟩) rfl (by decide) (by decide) (Nat.le_of_ble_eq_true rfl) rfl ?_
                                                                        refine ev_aload_n 2 dL_law_1516 rfl rfl ?_
                                                                        obtain ⟨q290, e291, h⟩ := bd_c h
                                                                        refine ev_callVi (av := []) dL_law_1517 (c_X10_which n   q288.2 q290 e291) mk_X10_which lk_L_156 iv_X10_which (Or.inl ⟨10, _, by decide, rfl, by decide, rfl, rfl⟩) rfl (by decide) (by decide) (Nat.le_of_ble_eq_true rfl) rfl ?_
                                                                        refine ev_icmp_eq (tgt := 1591) dL_law_1520 (by decide) (fun c292 => ?_) (fun c292 => ?_)
                                                                        · have h := if_t c292 h
                                                                          refine ev_iinc (v := x3 + 8) (ls' := [(3, .int (x3 + 8)), (0, .ref 1000300), (1, .ref 0), (2, .ref 80)]) 3 dL_law_1591 rfl rfl (by decide) rfl ?_
                                                                          refine ev_goto (tgt := 18) dL_law_1594 (by decide) ?_
                                                                          refine ev_pick [1, 2, 3, 0] (ls' := [(0, .ref 1000300), (1, .ref 0), (2, .ref 80), (3, .int (x3 + 8))]) rfl ?_
                                                                          exact ih (x3 + 8) _ q h
                                                                        · have h := if_f c292 h
                                                                          refine ev_iconst (v := 0) dL_law_1523 (by decide) ?_
                                                                          cases h
                                                                          exact ev_iret dL_law_1524 rfl rfl ⟨rfl, rfl⟩
                                                                      · have h := if_f c287 h
                                                                        by_cases c293 : ((xs (x3).toNatClampNeg) &&& ((63 : Int32))) = 33
                                                                        · have h := if_t c293 h
                                                                          refine ev_tin 33 (off := 1492) (tgt := 1525) dL_law_33 c293 (by decide) (by decide) (by decide) (by decide) ?_
                                                                          refine ev_aload_n 1 dL_law_1525 rfl rfl ?_
                                                                          refine ev_aload_n 0 dL_law_1526 rfl rfl ?_
                                                                          refine ev_iload_n 3 dL_law_1527 rfl rfl ?_
                                                                          refine ev_iconst (v := 1) dL_law_1528 (by decide) ?_
                                                                          refine ev_iadd dL_law_1529 ?_
                                                                          obtain ⟨c294, h⟩ := if_c h
                                                                          refine ev_scl dL_law_1530 c294 ?_
                                                                          refine ev_aload_n 0 dL_law_1531 rfl rfl ?_
                                                                          refine ev_iload_n 3 dL_law_1532 rfl rfl ?_
                                                                          refine ev_iconst (v := 2) dL_law_1533 (by decide) ?_
                                                                          refine ev_iadd dL_law_1534 ?_
                                                                          obtain ⟨c295, h⟩ := if_c h
                                                                          refine ev_scl dL_law_1535 c295 ?_
                                                                          refine ev_aload_n 0 dL_law_1536 rfl rfl ?_
                                                                          refine ev_iload_n 3 dL_law_1537 rfl rfl ?_
                                                                          refine ev_iconst (v := 3) dL_law_1538 (by decide) ?_
                                                                          refine ev_iadd dL_law_1539 ?_
                                                                          obtain ⟨c296, h⟩ := if_c h
                                                                          refine ev_scl dL_law_1540 c296 ?_
                                                                          obtain ⟨q297, e298, h⟩ := bd_c h
                                                                          refine ev_callVi (av := [.int (xs (x3 + ((1 : Int32))).toNatClampNeg), .int (xs (x3 + ((2 : Int32))).toNatClampNeg), .int (xs (x3 + ((3 : Int32))).toNatClampNeg)]) dL_law_1541 (c_X9_warning n (xs (x3 + ((1 : Int32))).toNatClampNeg) (xs (x3 + ((2 : Int32))).toNatClampNeg) (xs (x3 + ((3 : Int32))).toNatClampNeg)  A q297 e298) mk_X9_warning lk_L_157 iv_X9_warning (Or.inl ⟨9, _, by decide, rfl, by decide, rfl, rfl⟩) rfl (by decide) (by decide) (Nat.le_of_ble_eq_true rfl) rfl ?_
                                                                          refine ev_aload_n 2 dL_law_1544 rfl rfl ?_
                                                                          refine ev_aload_n 0 dL_law_1545 rfl rfl ?_
                                                                          refine ev_iload_n 3 dL_law_1546 rfl rfl ?_
                                                                          refine ev_iconst (v := 1) dL_law_1547 (by decide) ?_
                                                                          refine ev_iadd dL_law_1548 ?_
                                                                          refine ev_scl dL_law_1549 c294 ?_
                                                                          refine ev_aload_n 0 dL_law_1550 rfl rfl ?_
                                                                          refine ev_iload_n 3 dL_law_1551 rfl rfl ?_
                                                                          refine ev_iconst (v := 2) dL_law_1552 (by decide) ?_
                                                                          refine ev_iadd dL_law_1553 ?_
                                                                          refine ev_scl dL_law_1554 c295 ?_
                                                                          refine ev_aload_n 0 dL_law_1555 rfl rfl ?_
                                                                          refine ev_iload_n 3 dL_law_1556 rfl rfl ?_
                                                                          refine ev_iconst (v := 3) dL_law_1557 (by decide) ?_
                                                                          refine ev_iadd dL_law_1558 ?_
                                                                          refine ev_scl dL_law_1559 c296 ?_
                                                                          obtain ⟨q299, e300, h⟩ := bd_c h
                                                                          refine ev_callVi (av := [.int (xs (x3 + ((1 : Int32))).toNatClampNeg), .int (xs (x3 + ((2 : Int32))).toNatClampNeg), .int (xs (x3 + ((3 : Int32))).toNatClampNeg)]) dL_law_1560 (c_X10_warning n (xs (x3 + ((1 : Int32))).toNatClampNeg) (xs (x3 + ((2 : Int32))).toNatClampNeg) (xs (x3 + ((3 : Int32))).toNatClampNeg)  q297.2 q299 e300) mk_X10_warning lk_L_160 iv_X10_warning (Or.inl ⟨10, _, by decide, rfl, by decide, rfl, rfl⟩) rfl (by decide) (by decide) (Nat.le_of_ble_eq_true rfl) rfl ?_
                                                                          refine ev_icmp_eq (tgt := 1591) dL_law_1563 (by decide) (fun c301 => ?_) (fun c301 => ?_)
                                                                          · have h := if_t c301 h
                                                                            refine ev_iinc (v := x3 + 8) (ls' := [(3, .int (x3 + 8)), (0, .ref 1000300), (1, .ref 0), (2, .ref 80)]) 3 dL_law_1591 rfl rfl (by decide) rfl ?_
                                                                            refine ev_goto (tgt := 18) dL_law_1594 (by decide) ?_
                                                                            refine ev_pick [1, 2, 3, 0] (ls' := [(0, .ref 1000300), (1, .ref 0), (2, .ref 80), (3, .int (x3 + 8))]) rfl ?_
                                                                            exact ih (x3 + 8) _ q h
                                                                          · have h := if_f c301 h
                                                                            refine ev_iconst (v := 0) dL_law_1566 (by decide) ?_
                                                                            cases h
                                                                            exact ev_iret dL_law_1567 rfl rfl ⟨rfl, rfl⟩
                                                                        · have h := if_f c293 h
                                                                          by_cases c302 : ((xs (x3).toNatClampNeg) &&& ((63 : Int32))) = 34
                                                                          · have h := if_t c302 h
                                                                            refine ev_tin 34 (off := 1535) (tgt := 1568) dL_law_33 c302 (by decide) (by decide) (by decide) (by decide) ?_
                                                                            refine ev_aload_n 1 dL_law_1568 rfl rfl ?_
                                                                            refine ev_aload_n 0 dL_law_1569 rfl rfl ?_
                                                                            refine ev_iload_n 3 dL_law_1570 rfl rfl ?_
                                                                            refine ev_iconst (v := 1) dL_law_1571 (by decide) ?_
                                                                            refine ev_iadd dL_law_1572 ?_
                                                                            obtain ⟨c303, h⟩ := if_c h
                                                                            refine ev_scl dL_law_1573 c303 ?_
                                                                            obtain ⟨q304, e305, h⟩ := bd_c h
                                                                            refine ev_callVi (av := [.int (xs (x3 + ((1 : Int32))).toNatClampNeg)]) dL_law_1574 (c_X9_count n (xs (x3 + ((1 : Int32))).toNatClampNeg)  A q304 e305) mk_X9_count lk_L_161 iv_X9_count (Or.inl ⟨9, _, by decide, rfl, by decide, rfl, rfl⟩) rfl (by decide) (by decide) (Nat.le_of_ble_eq_true rfl) rfl ?_
                                                                            refine ev_aload_n 2 dL_law_1577 rfl rfl ?_
                                                                            refine ev_aload_n 0 dL_law_1578 rfl rfl ?_
                                                                            refine ev_iload_n 3 dL_law_1579 rfl rfl ?_
                                                                            refine ev_iconst (v := 1) dL_law_1580 (by decide) ?_
                                                                            refine ev_iadd dL_law_1581 ?_
                                                                            refine ev_scl dL_law_1582 c303 ?_
                                                                            obtain ⟨q306, e307, h⟩ := bd_c h
                                                                            refine ev_callVi (av := [.int (xs (x3 + ((1 : Int32))).toNatClampNeg)]) dL_law_1583 (c_X10_count n (xs (x3 + ((1 : Int32))).toNatClampNeg)  q304.2 q306 e307) mk_X10_count lk_L_164 iv_X10_count (Or.inl ⟨10, _, by decide, rfl, by decide, rfl, rfl⟩) rfl (by decide) (by decide) (Nat.le_of_ble_eq_true rfl) rfl ?_
                                                                            refine ev_icmp_eq (tgt := 1591) dL_law_1586 (by decide) (fun c308 => ?_) (fun c308 => ?_)
                                                                            · have h := if_t c308 h
                                                                              refine ev_iinc (v := x3 + 8) (ls' := [(3, .int (x3 + 8)), (0, .ref 1000300), (1, .ref 0), (2, .ref 80)]) 3 dL_law_1591 rfl rfl (by decide) rfl ?_
                                                                              refine ev_goto (tgt := 18) dL_law_1594 (by decide) ?_
                                                                              refine ev_pick [1, 2, 3, 0] (ls' := [(0, .ref 1000300), (1, .ref 0), (2, .ref 80), (3, .int (x3 + 8))]) rfl ?_
                                                                              exact ih (x3 + 8) _ q h
                                                                            · have h := if_f c308 h
                                                                              refine ev_iconst (v := 0) dL_law_1589 (by decide) ?_
                                                                              cases h
                                                                              exact ev_iret dL_law_1590 rfl rfl ⟨rfl, rfl⟩
                                                                          · have h := if_f c302 h
                                                                            refine ev_tout 35 (tgt := 1591) dL_law_33 (lt_s (lt_s (lt_s (lt_s (lt_s (lt_s (lt_s (lt_s (lt_s (lt_s (lt_s (lt_s (lt_s (lt_s (lt_s (lt_s (lt_s (lt_s (lt_s (lt_s (lt_s (lt_s (lt_s (lt_s (lt_s (lt_s (lt_s (lt_s (lt_s (lt_s (lt_s (lt_s (lt_s (lt_s (lt_s (fun j hj => absurd hj (Nat.not_lt_zero j)) c3) c11) c29) c38) c46) c55) c61) c68) c75) c82) c90) c98) c106) c119) c126) c133) c140) c148) c155) c165) c173) c182) c193) c205) c215) c223) c231) c244) c253) c260) c269) c279) c287) c293) c302) (by decide) (by decide) ?_
                                                                            refine ev_iinc (v := x3 + 8) (ls' := [(3, .int (x3 + 8)), (0, .ref 1000300), (1, .ref 0), (2, .ref 80)]) 3 dL_law_1591 rfl rfl (by decide) rfl ?_
                                                                            refine ev_goto (tgt := 18) dL_law_1594 (by decide) ?_
                                                                            refine ev_pick [1, 2, 3, 0] (ls' := [(0, .ref 1000300), (1, .ref 0), (2, .ref 80), (3, .int (x3 + 8))]) rfl ?_
                                                                            exact ih (x3 + 8) _ q h
