section G
variable {p : Program} {l : Launch} {e : Env} {s : State} {m : MethodId} {args : Array Value} {below : List Frame} {meth : Method} {c : Code} {dC : Nat → ClassId} {dI : Nat → Nat → Nat} {ca : Nat → ClassId} {A : Nat → Prop}
theorem cwm22_2_1 (ca : Nat → ClassId) (q0 q1 q2 q3 q4 q5 : Nat → Nat) (r1_0 : Nat → Option Nat) (r0_3 r0_4 r0_6 r0_7 r0_10 r0_11 r0_12 r0_14 r0_15 r0_17 r0_18 r0_19 : Value) (S0 S2 S3 S4 S5 : ms_T) (f : Nat → Int64) : (w11 ca q0 r0_3 r0_4 r0_6 r0_7 r0_10 r0_11 r0_12 r0_14 r0_15 r0_17 r0_18 r0_19 S0 ++ wLT ca q1 r1_0 ++ w9 ca q2 S2 ++ w9 ca q3 S3 ++ w9 ca q4 S4 ++ w9 ca q5 S5 : va_W).set 3 (q2 1, .inl (ca 2, 60, .inr (.inl f))) = w11 ca q0 r0_3 r0_4 r0_6 r0_7 r0_10 r0_11 r0_12 r0_14 r0_15 r0_17 r0_18 r0_19 S0 ++ wLT ca q1 r1_0 ++ w9 ca q2 (sR S2 1 f) ++ w9 ca q3 S3 ++ w9 ca q4 S4 ++ w9 ca q5 S5 := rfl
theorem cwm22_3_1 (ca : Nat → ClassId) (q0 q1 q2 q3 q4 q5 : Nat → Nat) (r1_0 : Nat → Option Nat) (r0_3 r0_4 r0_6 r0_7 r0_10 r0_11 r0_12 r0_14 r0_15 r0_17 r0_18 r0_19 : Value) (S0 S2 S3 S4 S5 : ms_T) (f : Nat → Int64) : (w11 ca q0 r0_3 r0_4 r0_6 r0_7 r0_10 r0_11 r0_12 r0_14 r0_15 r0_17 r0_18 r0_19 S0 ++ wLT ca q1 r1_0 ++ w9 ca q2 S2 ++ w9 ca q3 S3 ++ w9 ca q4 S4 ++ w9 ca q5 S5 : va_W).set 5 (q3 1, .inl (ca 2, 60, .inr (.inl f))) = w11 ca q0 r0_3 r0_4 r0_6 r0_7 r0_10 r0_11 r0_12 r0_14 r0_15 r0_17 r0_18 r0_19 S0 ++ wLT ca q1 r1_0 ++ w9 ca q2 S2 ++ w9 ca q3 (sR S3 1 f) ++ w9 ca q4 S4 ++ w9 ca q5 S5 := rfl
theorem cwm22_4_1 (ca : Nat → ClassId) (q0 q1 q2 q3 q4 q5 : Nat → Nat) (r1_0 : Nat → Option Nat) (r0_3 r0_4 r0_6 r0_7 r0_10 r0_11 r0_12 r0_14 r0_15 r0_17 r0_18 r0_19 : Value) (S0 S2 S3 S4 S5 : ms_T) (f : Nat → Int64) : (w11 ca q0 r0_3 r0_4 r0_6 r0_7 r0_10 r0_11 r0_12 r0_14 r0_15 r0_17 r0_18 r0_19 S0 ++ wLT ca q1 r1_0 ++ w9 ca q2 S2 ++ w9 ca q3 S3 ++ w9 ca q4 S4 ++ w9 ca q5 S5 : va_W).set 7 (q4 1, .inl (ca 2, 60, .inr (.inl f))) = w11 ca q0 r0_3 r0_4 r0_6 r0_7 r0_10 r0_11 r0_12 r0_14 r0_15 r0_17 r0_18 r0_19 S0 ++ wLT ca q1 r1_0 ++ w9 ca q2 S2 ++ w9 ca q3 S3 ++ w9 ca q4 (sR S4 1 f) ++ w9 ca q5 S5 := rfl
theorem cwm22_5_1 (ca : Nat → ClassId) (q0 q1 q2 q3 q4 q5 : Nat → Nat) (r1_0 : Nat → Option Nat) (r0_3 r0_4 r0_6 r0_7 r0_10 r0_11 r0_12 r0_14 r0_15 r0_17 r0_18 r0_19 : Value) (S0 S2 S3 S4 S5 : ms_T) (f : Nat → Int64) : (w11 ca q0 r0_3 r0_4 r0_6 r0_7 r0_10 r0_11 r0_12 r0_14 r0_15 r0_17 r0_18 r0_19 S0 ++ wLT ca q1 r1_0 ++ w9 ca q2 S2 ++ w9 ca q3 S3 ++ w9 ca q4 S4 ++ w9 ca q5 S5 : va_W).set 9 (q5 1, .inl (ca 2, 60, .inr (.inl f))) = w11 ca q0 r0_3 r0_4 r0_6 r0_7 r0_10 r0_11 r0_12 r0_14 r0_15 r0_17 r0_18 r0_19 S0 ++ wLT ca q1 r1_0 ++ w9 ca q2 S2 ++ w9 ca q3 S3 ++ w9 ca q4 S4 ++ w9 ca q5 (sR S5 1 f) := rfl
def fX11_pour_14    (SC : ms_T) (SY0 : ms_T) (SY1 : ms_T) (SY2 : ms_T) (SY3 : ms_T) : Option (Int32 × ms_T × ms_T × ms_T × ms_T × ms_T) :=
  (fX11_deny SC (1 : Int32)).bind fun z2 =>
  if z2.1 &&& 1 = z2.1 then
    some (z2.1, z2.2, SY0, SY1, SY2, SY3)
  else none
def fX11_pour_52    (SC : ms_T) (SY0 : ms_T) (SY1 : ms_T) (SY2 : ms_T) (SY3 : ms_T) : Option (Int32 × ms_T × ms_T × ms_T × ms_T × ms_T) :=
  (fX11_deny SC (3 : Int32)).bind fun z7 =>
  if z7.1 &&& 1 = z7.1 then
    some (z7.1, z7.2, SY0, SY1, SY2, SY3)
  else none
def fX11_pour_113    (SC : ms_T) (SY0 : ms_T) (SY1 : ms_T) (SY2 : ms_T) (SY3 : ms_T) : Option (Int32 × ms_T × ms_T × ms_T × ms_T × ms_T) :=
  (fX11_deny SC (4 : Int32)).bind fun z10 =>
  if z10.1 &&& 1 = z10.1 then
    some (z10.1, z10.2, SY0, SY1, SY2, SY3)
  else none
def fX11_pour  (SC : ms_T) (SY0 : ms_T) (SY1 : ms_T) (SY2 : ms_T) (SY3 : ms_T) (a1 : Int32) (a2 : Int32) (a3 : Int32) (a4 : Int32) (a5 : Int32) : Option (Int32 × ms_T × ms_T × ms_T × ms_T × ms_T) :=
  (fX11_isTray a1).bind fun z1 =>
  if z1 = 0 then
    fX11_pour_14 SC SY0 SY1 SY2 SY3
  else
    (fX11_isTray a3).bind fun z3 =>
    if z3 = 0 then
      fX11_pour_14 SC SY0 SY1 SY2 SY3
    else
      if a1 = (0 : Int32) then
        if a3 = (0 : Int32) then
          (fX9_isMissing SY0).bind fun z6 =>
          if z6 = 0 then
            (fX9_isMissing SY0).bind fun z8 =>
            if z8 = 0 then
              if (gi SY0 1) = (gi SY0 1) then
                if 0 ≤ a5 then
                  (fX9_holds SY0 a2 a5).bind fun z9 =>
                  if z9 = 0 then
                    fX11_pour_113 SC SY0 SY1 SY2 SY3
                  else
                    (fX9_holds SY0 a4 a5).bind fun z11 =>
                    if z11 = 0 then
                      fX11_pour_113 SC SY0 SY1 SY2 SY3
                    else
                      if cpb a2 a4 a5 60 60 = true then
                        (fX11_grant SC).bind fun z13 =>
                        if z13.1 &&& 1 = z13.1 then
                          some (z13.1, z13.2, sR SY0 1 (cpl (rl SY0 1) (rl SY0 1) a2 a4 a5), SY1, SY2, SY3)
                        else none
                      else none
                else
                  (fX11_deny SC (6 : Int32)).bind fun z14 =>
                  if z14.1 &&& 1 = z14.1 then
                    some (z14.1, z14.2, SY0, SY1, SY2, SY3)
                  else none
              else
                (fX11_deny SC (11 : Int32)).bind fun z15 =>
                if z15.1 &&& 1 = z15.1 then
                  some (z15.1, z15.2, SY0, SY1, SY2, SY3)
                else none
            else
              fX11_pour_52 SC SY0 SY1 SY2 SY3
          else
            fX11_pour_52 SC SY0 SY1 SY2 SY3
        else
          if a3 = (1 : Int32) then
            (fX9_isMissing SY0).bind fun z16 =>
            if z16 = 0 then
              (fX9_isMissing SY1).bind fun z17 =>
              if z17 = 0 then
                if (gi SY0 1) = (gi SY1 1) then
                  if 0 ≤ a5 then
                    (fX9_holds SY0 a2 a5).bind fun z18 =>
                    if z18 = 0 then
                      fX11_pour_113 SC SY0 SY1 SY2 SY3
                    else
                      (fX9_holds SY1 a4 a5).bind fun z19 =>
                      if z19 = 0 then
                        fX11_pour_113 SC SY0 SY1 SY2 SY3
                      else
                        if cpb a2 a4 a5 60 60 = true then
                          (fX11_grant SC).bind fun z21 =>
                          if z21.1 &&& 1 = z21.1 then
                            some (z21.1, z21.2, SY0, sR SY1 1 (cpl (rl SY0 1) (rl SY1 1) a2 a4 a5), SY2, SY3)
                          else none
                        else none
                  else
                    (fX11_deny SC (6 : Int32)).bind fun z22 =>
                    if z22.1 &&& 1 = z22.1 then
                      some (z22.1, z22.2, SY0, SY1, SY2, SY3)
                    else none
                else
                  (fX11_deny SC (11 : Int32)).bind fun z23 =>
                  if z23.1 &&& 1 = z23.1 then
                    some (z23.1, z23.2, SY0, SY1, SY2, SY3)
                  else none
              else
                fX11_pour_52 SC SY0 SY1 SY2 SY3
            else
              fX11_pour_52 SC SY0 SY1 SY2 SY3
          else
            if a3 = (2 : Int32) then
              (fX9_isMissing SY0).bind fun z24 =>
              if z24 = 0 then
                (fX9_isMissing SY2).bind fun z25 =>
                if z25 = 0 then
                  if (gi SY0 1) = (gi SY2 1) then
                    if 0 ≤ a5 then
                      (fX9_holds SY0 a2 a5).bind fun z26 =>
                      if z26 = 0 then
                        fX11_pour_113 SC SY0 SY1 SY2 SY3
                      else
                        (fX9_holds SY2 a4 a5).bind fun z27 =>
                        if z27 = 0 then
                          fX11_pour_113 SC SY0 SY1 SY2 SY3
                        else
                          if cpb a2 a4 a5 60 60 = true then
                            (fX11_grant SC).bind fun z29 =>
                            if z29.1 &&& 1 = z29.1 then
                              some (z29.1, z29.2, SY0, SY1, sR SY2 1 (cpl (rl SY0 1) (rl SY2 1) a2 a4 a5), SY3)
                            else none
                          else none
                    else
                      (fX11_deny SC (6 : Int32)).bind fun z30 =>
                      if z30.1 &&& 1 = z30.1 then
                        some (z30.1, z30.2, SY0, SY1, SY2, SY3)
                      else none
                  else
                    (fX11_deny SC (11 : Int32)).bind fun z31 =>
                    if z31.1 &&& 1 = z31.1 then
                      some (z31.1, z31.2, SY0, SY1, SY2, SY3)
                    else none
                else
                  fX11_pour_52 SC SY0 SY1 SY2 SY3
              else
                fX11_pour_52 SC SY0 SY1 SY2 SY3
            else
              if a3 = (3 : Int32) then
                (fX9_isMissing SY0).bind fun z32 =>
                if z32 = 0 then
                  (fX9_isMissing SY3).bind fun z33 =>
                  if z33 = 0 then
                    if (gi SY0 1) = (gi SY3 1) then
                      if 0 ≤ a5 then
                        (fX9_holds SY0 a2 a5).bind fun z34 =>
                        if z34 = 0 then
                          fX11_pour_113 SC SY0 SY1 SY2 SY3
                        else
                          (fX9_holds SY3 a4 a5).bind fun z35 =>
                          if z35 = 0 then
                            fX11_pour_113 SC SY0 SY1 SY2 SY3
                          else
                            if cpb a2 a4 a5 60 60 = true then
                              (fX11_grant SC).bind fun z37 =>
                              if z37.1 &&& 1 = z37.1 then
                                some (z37.1, z37.2, SY0, SY1, SY2, sR SY3 1 (cpl (rl SY0 1) (rl SY3 1) a2 a4 a5))
                              else none
                            else none
                      else
                        (fX11_deny SC (6 : Int32)).bind fun z38 =>
                        if z38.1 &&& 1 = z38.1 then
                          some (z38.1, z38.2, SY0, SY1, SY2, SY3)
                        else none
                    else
                      (fX11_deny SC (11 : Int32)).bind fun z39 =>
                      if z39.1 &&& 1 = z39.1 then
                        some (z39.1, z39.2, SY0, SY1, SY2, SY3)
                      else none
                  else
                    fX11_pour_52 SC SY0 SY1 SY2 SY3
                else
                  fX11_pour_52 SC SY0 SY1 SY2 SY3
              else
                none
      else
        if a1 = (1 : Int32) then
          if a3 = (0 : Int32) then
            (fX9_isMissing SY1).bind fun z41 =>
            if z41 = 0 then
              (fX9_isMissing SY0).bind fun z42 =>
              if z42 = 0 then
                if (gi SY1 1) = (gi SY0 1) then
                  if 0 ≤ a5 then
                    (fX9_holds SY1 a2 a5).bind fun z43 =>
                    if z43 = 0 then
                      fX11_pour_113 SC SY0 SY1 SY2 SY3
                    else
                      (fX9_holds SY0 a4 a5).bind fun z44 =>
                      if z44 = 0 then
                        fX11_pour_113 SC SY0 SY1 SY2 SY3
                      else
                        if cpb a2 a4 a5 60 60 = true then
                          (fX11_grant SC).bind fun z46 =>
                          if z46.1 &&& 1 = z46.1 then
                            some (z46.1, z46.2, sR SY0 1 (cpl (rl SY1 1) (rl SY0 1) a2 a4 a5), SY1, SY2, SY3)
                          else none
                        else none
                  else
                    (fX11_deny SC (6 : Int32)).bind fun z47 =>
                    if z47.1 &&& 1 = z47.1 then
                      some (z47.1, z47.2, SY0, SY1, SY2, SY3)
                    else none
                else
                  (fX11_deny SC (11 : Int32)).bind fun z48 =>
                  if z48.1 &&& 1 = z48.1 then
                    some (z48.1, z48.2, SY0, SY1, SY2, SY3)
                  else none
              else
                fX11_pour_52 SC SY0 SY1 SY2 SY3
            else
              fX11_pour_52 SC SY0 SY1 SY2 SY3
          else
            if a3 = (1 : Int32) then
              (fX9_isMissing SY1).bind fun z49 =>
              if z49 = 0 then
                (fX9_isMissing SY1).bind fun z50 =>
                if z50 = 0 then
                  if (gi SY1 1) = (gi SY1 1) then
                    if 0 ≤ a5 then
                      (fX9_holds SY1 a2 a5).bind fun z51 =>
                      if z51 = 0 then
                        fX11_pour_113 SC SY0 SY1 SY2 SY3
                      else
                        (fX9_holds SY1 a4 a5).bind fun z52 =>
                        if z52 = 0 then
                          fX11_pour_113 SC SY0 SY1 SY2 SY3
                        else
                          if cpb a2 a4 a5 60 60 = true then
                            (fX11_grant SC).bind fun z54 =>
                            if z54.1 &&& 1 = z54.1 then
                              some (z54.1, z54.2, SY0, sR SY1 1 (cpl (rl SY1 1) (rl SY1 1) a2 a4 a5), SY2, SY3)
                            else none
                          else none
                    else
                      (fX11_deny SC (6 : Int32)).bind fun z55 =>
                      if z55.1 &&& 1 = z55.1 then
                        some (z55.1, z55.2, SY0, SY1, SY2, SY3)
                      else none
                  else
                    (fX11_deny SC (11 : Int32)).bind fun z56 =>
                    if z56.1 &&& 1 = z56.1 then
                      some (z56.1, z56.2, SY0, SY1, SY2, SY3)
                    else none
                else
                  fX11_pour_52 SC SY0 SY1 SY2 SY3
              else
                fX11_pour_52 SC SY0 SY1 SY2 SY3
            else
              if a3 = (2 : Int32) then
                (fX9_isMissing SY1).bind fun z57 =>
                if z57 = 0 then
                  (fX9_isMissing SY2).bind fun z58 =>
                  if z58 = 0 then
                    if (gi SY1 1) = (gi SY2 1) then
                      if 0 ≤ a5 then
                        (fX9_holds SY1 a2 a5).bind fun z59 =>
                        if z59 = 0 then
                          fX11_pour_113 SC SY0 SY1 SY2 SY3
                        else
                          (fX9_holds SY2 a4 a5).bind fun z60 =>
                          if z60 = 0 then
                            fX11_pour_113 SC SY0 SY1 SY2 SY3
                          else
                            if cpb a2 a4 a5 60 60 = true then
                              (fX11_grant SC).bind fun z62 =>
                              if z62.1 &&& 1 = z62.1 then
                                some (z62.1, z62.2, SY0, SY1, sR SY2 1 (cpl (rl SY1 1) (rl SY2 1) a2 a4 a5), SY3)
                              else none
                            else none
                      else
                        (fX11_deny SC (6 : Int32)).bind fun z63 =>
                        if z63.1 &&& 1 = z63.1 then
                          some (z63.1, z63.2, SY0, SY1, SY2, SY3)
                        else none
                    else
                      (fX11_deny SC (11 : Int32)).bind fun z64 =>
                      if z64.1 &&& 1 = z64.1 then
                        some (z64.1, z64.2, SY0, SY1, SY2, SY3)
                      else none
                  else
                    fX11_pour_52 SC SY0 SY1 SY2 SY3
                else
                  fX11_pour_52 SC SY0 SY1 SY2 SY3
              else
                if a3 = (3 : Int32) then
                  (fX9_isMissing SY1).bind fun z65 =>
                  if z65 = 0 then
                    (fX9_isMissing SY3).bind fun z66 =>
                    if z66 = 0 then
                      if (gi SY1 1) = (gi SY3 1) then
                        if 0 ≤ a5 then
                          (fX9_holds SY1 a2 a5).bind fun z67 =>
                          if z67 = 0 then
                            fX11_pour_113 SC SY0 SY1 SY2 SY3
                          else
                            (fX9_holds SY3 a4 a5).bind fun z68 =>
                            if z68 = 0 then
                              fX11_pour_113 SC SY0 SY1 SY2 SY3
                            else
                              if cpb a2 a4 a5 60 60 = true then
                                (fX11_grant SC).bind fun z70 =>
                                if z70.1 &&& 1 = z70.1 then
                                  some (z70.1, z70.2, SY0, SY1, SY2, sR SY3 1 (cpl (rl SY1 1) (rl SY3 1) a2 a4 a5))
                                else none
                              else none
                        else
                          (fX11_deny SC (6 : Int32)).bind fun z71 =>
                          if z71.1 &&& 1 = z71.1 then
                            some (z71.1, z71.2, SY0, SY1, SY2, SY3)
                          else none
                      else
                        (fX11_deny SC (11 : Int32)).bind fun z72 =>
                        if z72.1 &&& 1 = z72.1 then
                          some (z72.1, z72.2, SY0, SY1, SY2, SY3)
                        else none
                    else
                      fX11_pour_52 SC SY0 SY1 SY2 SY3
                  else
                    fX11_pour_52 SC SY0 SY1 SY2 SY3
                else
                  none
        else
          if a1 = (2 : Int32) then
            if a3 = (0 : Int32) then
              (fX9_isMissing SY2).bind fun z74 =>
              if z74 = 0 then
                (fX9_isMissing SY0).bind fun z75 =>
                if z75 = 0 then
                  if (gi SY2 1) = (gi SY0 1) then
                    if 0 ≤ a5 then
                      (fX9_holds SY2 a2 a5).bind fun z76 =>
                      if z76 = 0 then
                        fX11_pour_113 SC SY0 SY1 SY2 SY3
                      else
                        (fX9_holds SY0 a4 a5).bind fun z77 =>
                        if z77 = 0 then
                          fX11_pour_113 SC SY0 SY1 SY2 SY3
                        else
                          if cpb a2 a4 a5 60 60 = true then
                            (fX11_grant SC).bind fun z79 =>
                            if z79.1 &&& 1 = z79.1 then
                              some (z79.1, z79.2, sR SY0 1 (cpl (rl SY2 1) (rl SY0 1) a2 a4 a5), SY1, SY2, SY3)
                            else none
                          else none
                    else
                      (fX11_deny SC (6 : Int32)).bind fun z80 =>
                      if z80.1 &&& 1 = z80.1 then
                        some (z80.1, z80.2, SY0, SY1, SY2, SY3)
                      else none
                  else
                    (fX11_deny SC (11 : Int32)).bind fun z81 =>
                    if z81.1 &&& 1 = z81.1 then
                      some (z81.1, z81.2, SY0, SY1, SY2, SY3)
                    else none
                else
                  fX11_pour_52 SC SY0 SY1 SY2 SY3
              else
                fX11_pour_52 SC SY0 SY1 SY2 SY3
            else
              if a3 = (1 : Int32) then
                (fX9_isMissing SY2).bind fun z82 =>
                if z82 = 0 then
                  (fX9_isMissing SY1).bind fun z83 =>
                  if z83 = 0 then
                    if (gi SY2 1) = (gi SY1 1) then
                      if 0 ≤ a5 then
                        (fX9_holds SY2 a2 a5).bind fun z84 =>
                        if z84 = 0 then
                          fX11_pour_113 SC SY0 SY1 SY2 SY3
                        else
                          (fX9_holds SY1 a4 a5).bind fun z85 =>
                          if z85 = 0 then
                            fX11_pour_113 SC SY0 SY1 SY2 SY3
                          else
                            if cpb a2 a4 a5 60 60 = true then
                              (fX11_grant SC).bind fun z87 =>
                              if z87.1 &&& 1 = z87.1 then
                                some (z87.1, z87.2, SY0, sR SY1 1 (cpl (rl SY2 1) (rl SY1 1) a2 a4 a5), SY2, SY3)
                              else none
                            else none
                      else
                        (fX11_deny SC (6 : Int32)).bind fun z88 =>
                        if z88.1 &&& 1 = z88.1 then
                          some (z88.1, z88.2, SY0, SY1, SY2, SY3)
                        else none
                    else
                      (fX11_deny SC (11 : Int32)).bind fun z89 =>
                      if z89.1 &&& 1 = z89.1 then
                        some (z89.1, z89.2, SY0, SY1, SY2, SY3)
                      else none
                  else
                    fX11_pour_52 SC SY0 SY1 SY2 SY3
                else
                  fX11_pour_52 SC SY0 SY1 SY2 SY3
              else
                if a3 = (2 : Int32) then
                  (fX9_isMissing SY2).bind fun z90 =>
                  if z90 = 0 then
                    (fX9_isMissing SY2).bind fun z91 =>
                    if z91 = 0 then
                      if (gi SY2 1) = (gi SY2 1) then
                        if 0 ≤ a5 then
                          (fX9_holds SY2 a2 a5).bind fun z92 =>
                          if z92 = 0 then
                            fX11_pour_113 SC SY0 SY1 SY2 SY3
                          else
                            (fX9_holds SY2 a4 a5).bind fun z93 =>
                            if z93 = 0 then
                              fX11_pour_113 SC SY0 SY1 SY2 SY3
                            else
                              if cpb a2 a4 a5 60 60 = true then
                                (fX11_grant SC).bind fun z95 =>
                                if z95.1 &&& 1 = z95.1 then
                                  some (z95.1, z95.2, SY0, SY1, sR SY2 1 (cpl (rl SY2 1) (rl SY2 1) a2 a4 a5), SY3)
                                else none
                              else none
                        else
                          (fX11_deny SC (6 : Int32)).bind fun z96 =>
                          if z96.1 &&& 1 = z96.1 then
                            some (z96.1, z96.2, SY0, SY1, SY2, SY3)
                          else none
                      else
                        (fX11_deny SC (11 : Int32)).bind fun z97 =>
                        if z97.1 &&& 1 = z97.1 then
                          some (z97.1, z97.2, SY0, SY1, SY2, SY3)
                        else none
                    else
                      fX11_pour_52 SC SY0 SY1 SY2 SY3
                  else
                    fX11_pour_52 SC SY0 SY1 SY2 SY3
                else
                  if a3 = (3 : Int32) then
                    (fX9_isMissing SY2).bind fun z98 =>
                    if z98 = 0 then
                      (fX9_isMissing SY3).bind fun z99 =>
                      if z99 = 0 then
                        if (gi SY2 1) = (gi SY3 1) then
                          if 0 ≤ a5 then
                            (fX9_holds SY2 a2 a5).bind fun z100 =>
                            if z100 = 0 then
                              fX11_pour_113 SC SY0 SY1 SY2 SY3
                            else
                              (fX9_holds SY3 a4 a5).bind fun z101 =>
                              if z101 = 0 then
                                fX11_pour_113 SC SY0 SY1 SY2 SY3
                              else
                                if cpb a2 a4 a5 60 60 = true then
                                  (fX11_grant SC).bind fun z103 =>
                                  if z103.1 &&& 1 = z103.1 then
                                    some (z103.1, z103.2, SY0, SY1, SY2, sR SY3 1 (cpl (rl SY2 1) (rl SY3 1) a2 a4 a5))
                                  else none
                                else none
                          else
                            (fX11_deny SC (6 : Int32)).bind fun z104 =>
                            if z104.1 &&& 1 = z104.1 then
                              some (z104.1, z104.2, SY0, SY1, SY2, SY3)
                            else none
                        else
                          (fX11_deny SC (11 : Int32)).bind fun z105 =>
                          if z105.1 &&& 1 = z105.1 then
                            some (z105.1, z105.2, SY0, SY1, SY2, SY3)
                          else none
                      else
                        fX11_pour_52 SC SY0 SY1 SY2 SY3
                    else
                      fX11_pour_52 SC SY0 SY1 SY2 SY3
                  else
                    none
          else
            if a1 = (3 : Int32) then
              if a3 = (0 : Int32) then
                (fX9_isMissing SY3).bind fun z107 =>
                if z107 = 0 then
                  (fX9_isMissing SY0).bind fun z108 =>
                  if z108 = 0 then
                    if (gi SY3 1) = (gi SY0 1) then
                      if 0 ≤ a5 then
                        (fX9_holds SY3 a2 a5).bind fun z109 =>
                        if z109 = 0 then
                          fX11_pour_113 SC SY0 SY1 SY2 SY3
                        else
                          (fX9_holds SY0 a4 a5).bind fun z110 =>
                          if z110 = 0 then
                            fX11_pour_113 SC SY0 SY1 SY2 SY3
                          else
                            if cpb a2 a4 a5 60 60 = true then
                              (fX11_grant SC).bind fun z112 =>
                              if z112.1 &&& 1 = z112.1 then
                                some (z112.1, z112.2, sR SY0 1 (cpl (rl SY3 1) (rl SY0 1) a2 a4 a5), SY1, SY2, SY3)
                              else none
                            else none
                      else
                        (fX11_deny SC (6 : Int32)).bind fun z113 =>
                        if z113.1 &&& 1 = z113.1 then
                          some (z113.1, z113.2, SY0, SY1, SY2, SY3)
                        else none
                    else
                      (fX11_deny SC (11 : Int32)).bind fun z114 =>
                      if z114.1 &&& 1 = z114.1 then
                        some (z114.1, z114.2, SY0, SY1, SY2, SY3)
                      else none
                  else
                    fX11_pour_52 SC SY0 SY1 SY2 SY3
                else
                  fX11_pour_52 SC SY0 SY1 SY2 SY3
              else
                if a3 = (1 : Int32) then
                  (fX9_isMissing SY3).bind fun z115 =>
                  if z115 = 0 then
                    (fX9_isMissing SY1).bind fun z116 =>
                    if z116 = 0 then
                      if (gi SY3 1) = (gi SY1 1) then
                        if 0 ≤ a5 then
                          (fX9_holds SY3 a2 a5).bind fun z117 =>
                          if z117 = 0 then
                            fX11_pour_113 SC SY0 SY1 SY2 SY3
                          else
                            (fX9_holds SY1 a4 a5).bind fun z118 =>
                            if z118 = 0 then
                              fX11_pour_113 SC SY0 SY1 SY2 SY3
                            else
                              if cpb a2 a4 a5 60 60 = true then
                                (fX11_grant SC).bind fun z120 =>
                                if z120.1 &&& 1 = z120.1 then
                                  some (z120.1, z120.2, SY0, sR SY1 1 (cpl (rl SY3 1) (rl SY1 1) a2 a4 a5), SY2, SY3)
                                else none
                              else none
                        else
                          (fX11_deny SC (6 : Int32)).bind fun z121 =>
                          if z121.1 &&& 1 = z121.1 then
                            some (z121.1, z121.2, SY0, SY1, SY2, SY3)
                          else none
                      else
                        (fX11_deny SC (11 : Int32)).bind fun z122 =>
                        if z122.1 &&& 1 = z122.1 then
                          some (z122.1, z122.2, SY0, SY1, SY2, SY3)
                        else none
                    else
                      fX11_pour_52 SC SY0 SY1 SY2 SY3
                  else
                    fX11_pour_52 SC SY0 SY1 SY2 SY3
                else
                  if a3 = (2 : Int32) then
                    (fX9_isMissing SY3).bind fun z123 =>
                    if z123 = 0 then
                      (fX9_isMissing SY2).bind fun z124 =>
                      if z124 = 0 then
                        if (gi SY3 1) = (gi SY2 1) then
                          if 0 ≤ a5 then
                            (fX9_holds SY3 a2 a5).bind fun z125 =>
                            if z125 = 0 then
                              fX11_pour_113 SC SY0 SY1 SY2 SY3
                            else
                              (fX9_holds SY2 a4 a5).bind fun z126 =>
                              if z126 = 0 then
                                fX11_pour_113 SC SY0 SY1 SY2 SY3
                              else
                                if cpb a2 a4 a5 60 60 = true then
                                  (fX11_grant SC).bind fun z128 =>
                                  if z128.1 &&& 1 = z128.1 then
                                    some (z128.1, z128.2, SY0, SY1, sR SY2 1 (cpl (rl SY3 1) (rl SY2 1) a2 a4 a5), SY3)
                                  else none
                                else none
                          else
                            (fX11_deny SC (6 : Int32)).bind fun z129 =>
                            if z129.1 &&& 1 = z129.1 then
                              some (z129.1, z129.2, SY0, SY1, SY2, SY3)
                            else none
                        else
                          (fX11_deny SC (11 : Int32)).bind fun z130 =>
                          if z130.1 &&& 1 = z130.1 then
                            some (z130.1, z130.2, SY0, SY1, SY2, SY3)
                          else none
                      else
                        fX11_pour_52 SC SY0 SY1 SY2 SY3
                    else
                      fX11_pour_52 SC SY0 SY1 SY2 SY3
                  else
                    if a3 = (3 : Int32) then
                      (fX9_isMissing SY3).bind fun z131 =>
                      if z131 = 0 then
                        (fX9_isMissing SY3).bind fun z132 =>
                        if z132 = 0 then
                          if (gi SY3 1) = (gi SY3 1) then
                            if 0 ≤ a5 then
                              (fX9_holds SY3 a2 a5).bind fun z133 =>
                              if z133 = 0 then
                                fX11_pour_113 SC SY0 SY1 SY2 SY3
                              else
                                (fX9_holds SY3 a4 a5).bind fun z134 =>
                                if z134 = 0 then
                                  fX11_pour_113 SC SY0 SY1 SY2 SY3
                                else
                                  if cpb a2 a4 a5 60 60 = true then
                                    (fX11_grant SC).bind fun z136 =>
                                    if z136.1 &&& 1 = z136.1 then
                                      some (z136.1, z136.2, SY0, SY1, SY2, sR SY3 1 (cpl (rl SY3 1) (rl SY3 1) a2 a4 a5))
                                    else none
                                  else none
                            else
                              (fX11_deny SC (6 : Int32)).bind fun z137 =>
                              if z137.1 &&& 1 = z137.1 then
                                some (z137.1, z137.2, SY0, SY1, SY2, SY3)
                              else none
                          else
                            (fX11_deny SC (11 : Int32)).bind fun z138 =>
                            if z138.1 &&& 1 = z138.1 then
                              some (z138.1, z138.2, SY0, SY1, SY2, SY3)
                            else none
                        else
                          fX11_pour_52 SC SY0 SY1 SY2 SY3
                      else
                        fX11_pour_52 SC SY0 SY1 SY2 SY3
                    else
                      none
            else
              none
abbrev rmX11_pour : Room := { frames := 8, cells := 0, slots := 0, locals := 400 }
theorem okX11_pour : tc_ok yX11_pour cX11_pour 8 (some .boolean) 5 := ⟨wc_X11_pour, wn_X11, by decide, by decide, by decide +kernel⟩
set_option maxRecDepth 20000 in
theorem tX11_pour_14 {qC : Nat → Nat} {qA : Nat → Nat} {qY0 : Nat → Nat} {qY1 : Nat → Nat} {qY2 : Nat → Nat} {qY3 : Nat → Nat} {rC4 : Value} {rC6 : Value} {rC7 : Value} {rC10 : Value} {rC11 : Value} {rC12 : Value} {rC14 : Value} {rC15 : Value} {rC17 : Value} {rC18 : Value} {rC19 : Value} (X : tc_X dC dI ca A RX11 cX11_pour 8 (some .boolean) p s m args meth c) (z : Int32 × ms_T × ms_T × ms_T × ms_T × ms_T)     : ∀ (SC : ms_T) (SY0 : ms_T) (SY1 : ms_T) (SY2 : ms_T) (SY3 : ms_T), fX11_pour_14 SC SY0 SY1 SY2 SY3 = some z → ∀ (H : Heap) (locs : List Loc) (ls : Array Slot), va_P (dC, dI) classes (w11 ca qC (.ref (qA 0)) (rC4) (rC6) (rC7) (rC10) (rC11) (rC12) (rC14) (rC15) (rC17) (rC18) (rC19) SC ++ wLT ca qA (rf4 (qY0 0) (qY1 0) (qY2 0) (qY3 0)) ++ w9 ca qY0 SY0 ++ w9 ca qY1 SY1 ++ w9 ca qY2 SY2 ++ w9 ca qY3 SY3) H → va_D A (w11 ca qC (.ref (qA 0)) (rC4) (rC6) (rC7) (rC10) (rC11) (rC12) (rC14) (rC15) (rC17) (rC18) (rC19) SC ++ wLT ca qA (rf4 (qY0 0) (qY1 0) (qY2 0) (qY3 0)) ++ w9 ca qY0 SY0 ++ w9 ca qY1 SY1 ++ w9 ca qY2 SY2 ++ w9 ca qY3 SY3) → va_S A s.heap H locs → lv_has ls 8 [(0, .ref (qC 0))] → W p l e rmX11_pour s m args below meth c H locs 0 0 (MQ below (tc_QI dC dI ca A (w11 ca qC (.ref (qA 0)) (rC4) (rC6) (rC7) (rC10) (rC11) (rC12) (rC14) (rC15) (rC17) (rC18) (rC19) z.2.1 ++ wLT ca qA (rf4 (qY0 0) (qY1 0) (qY2 0) (qY3 0)) ++ w9 ca qY0 z.2.2.1 ++ w9 ca qY1 z.2.2.2.1 ++ w9 ca qY2 z.2.2.2.2.1 ++ w9 ca qY3 z.2.2.2.2.2) (z.1)) args s 0 0 A) (F0 m 14 ls []) := by
  obtain ⟨hx, hb, hr, hml, hown, hts, hlk, hK, hA, hG⟩ := id X
  intro SC SY0 SY1 SY2 SY3 hf H locs ls hP hD hS hl
  unfold fX11_pour_14 at hf
  refine lv_aload_n hx hb dX11_pour_14 rfl (lv_at hl 0 rfl) ?_
  refine lv_iconst (v := (1 : Int32)) hx hb dX11_pour_15 (by decide) ?_
  obtain ⟨z2, hg, hf⟩ := tc_bi hf
  refine tc_iV (As := [.int ((1 : Int32))]) (rest := []) (b := qC 0) (wc := w11 ca qC (.ref (qA 0)) (rC4) (rC6) (rC7) (rC10) (rC11) (rC12) (rC14) (rC15) (rC17) (rC18) (rC19) SC) (wr := wLT ca qA (rf4 (qY0 0) (qY1 0) (qY2 0) (qY3 0)) ++ w9 ca qY0 SY0 ++ w9 ca qY1 SY1 ++ w9 ca qY2 SY2 ++ w9 ca qY3 SY3) X hP hD hS (mX11_deny hg) okX11_deny wl_X11_102 wi_X11_deny ws_X11_X11_deny_X11_deny ⟨rfl, rfl, Nat.le_of_ble_eq_true rfl, Nat.le_of_ble_eq_true rfl⟩ 11 0 rfl rfl [0] [1, 2, 3, 4, 5, 6, 7, 8, 9] ⟨rfl, rfl, rfl, rfl, by decide⟩ rfl hl.1 (Nat.le_of_ble_eq_true rfl) dX11_pour_16 (fun H locs hP hD hS => ?_)
  have hP := hP.sub (ws' := (w11 ca qC (.ref (qA 0)) (rC4) (rC6) (rC7) (rC10) (rC11) (rC12) (rC14) (rC15) (rC17) (rC18) (rC19) z2.2 ++ wLT ca qA (rf4 (qY0 0) (qY1 0) (qY2 0) (qY3 0)) ++ w9 ca qY0 SY0 ++ w9 ca qY1 SY1 ++ w9 ca qY2 SY2 ++ w9 ca qY3 SY3)) [9, 0, 1, 2, 3, 4, 5, 6, 7, 8] rfl
  have hD := hD.sub (ws' := (w11 ca qC (.ref (qA 0)) (rC4) (rC6) (rC7) (rC10) (rC11) (rC12) (rC14) (rC15) (rC17) (rC18) (rC19) z2.2 ++ wLT ca qA (rf4 (qY0 0) (qY1 0) (qY2 0) (qY3 0)) ++ w9 ca qY0 SY0 ++ w9 ca qY1 SY1 ++ w9 ca qY2 SY2 ++ w9 ca qY3 SY3)) [9, 0, 1, 2, 3, 4, 5, 6, 7, 8] rfl rfl
  obtain ⟨hz1, hf⟩ := tc_ck hf
  obtain rfl := Option.some.inj hf
  exact tc_rz X hP hD hS rfl dX11_pour_19 hz1 rfl rfl
set_option maxRecDepth 20000 in
theorem tX11_pour_52 {qC : Nat → Nat} {qA : Nat → Nat} {qY0 : Nat → Nat} {qY1 : Nat → Nat} {qY2 : Nat → Nat} {qY3 : Nat → Nat} {rC4 : Value} {rC6 : Value} {rC7 : Value} {rC10 : Value} {rC11 : Value} {rC12 : Value} {rC14 : Value} {rC15 : Value} {rC17 : Value} {rC18 : Value} {rC19 : Value} (X : tc_X dC dI ca A RX11 cX11_pour 8 (some .boolean) p s m args meth c) (z : Int32 × ms_T × ms_T × ms_T × ms_T × ms_T)     : ∀ (SC : ms_T) (SY0 : ms_T) (SY1 : ms_T) (SY2 : ms_T) (SY3 : ms_T), fX11_pour_52 SC SY0 SY1 SY2 SY3 = some z → ∀ (H : Heap) (locs : List Loc) (ls : Array Slot), va_P (dC, dI) classes (w11 ca qC (.ref (qA 0)) (rC4) (rC6) (rC7) (rC10) (rC11) (rC12) (rC14) (rC15) (rC17) (rC18) (rC19) SC ++ wLT ca qA (rf4 (qY0 0) (qY1 0) (qY2 0) (qY3 0)) ++ w9 ca qY0 SY0 ++ w9 ca qY1 SY1 ++ w9 ca qY2 SY2 ++ w9 ca qY3 SY3) H → va_D A (w11 ca qC (.ref (qA 0)) (rC4) (rC6) (rC7) (rC10) (rC11) (rC12) (rC14) (rC15) (rC17) (rC18) (rC19) SC ++ wLT ca qA (rf4 (qY0 0) (qY1 0) (qY2 0) (qY3 0)) ++ w9 ca qY0 SY0 ++ w9 ca qY1 SY1 ++ w9 ca qY2 SY2 ++ w9 ca qY3 SY3) → va_S A s.heap H locs → lv_has ls 8 [(0, .ref (qC 0))] → W p l e rmX11_pour s m args below meth c H locs 0 0 (MQ below (tc_QI dC dI ca A (w11 ca qC (.ref (qA 0)) (rC4) (rC6) (rC7) (rC10) (rC11) (rC12) (rC14) (rC15) (rC17) (rC18) (rC19) z.2.1 ++ wLT ca qA (rf4 (qY0 0) (qY1 0) (qY2 0) (qY3 0)) ++ w9 ca qY0 z.2.2.1 ++ w9 ca qY1 z.2.2.2.1 ++ w9 ca qY2 z.2.2.2.2.1 ++ w9 ca qY3 z.2.2.2.2.2) (z.1)) args s 0 0 A) (F0 m 52 ls []) := by
  obtain ⟨hx, hb, hr, hml, hown, hts, hlk, hK, hA, hG⟩ := id X
  intro SC SY0 SY1 SY2 SY3 hf H locs ls hP hD hS hl
  unfold fX11_pour_52 at hf
  refine lv_aload_n hx hb dX11_pour_52 rfl (lv_at hl 0 rfl) ?_
  refine lv_iconst (v := (3 : Int32)) hx hb dX11_pour_53 (by decide) ?_
  obtain ⟨z7, hg, hf⟩ := tc_bi hf
  refine tc_iV (As := [.int ((3 : Int32))]) (rest := []) (b := qC 0) (wc := w11 ca qC (.ref (qA 0)) (rC4) (rC6) (rC7) (rC10) (rC11) (rC12) (rC14) (rC15) (rC17) (rC18) (rC19) SC) (wr := wLT ca qA (rf4 (qY0 0) (qY1 0) (qY2 0) (qY3 0)) ++ w9 ca qY0 SY0 ++ w9 ca qY1 SY1 ++ w9 ca qY2 SY2 ++ w9 ca qY3 SY3) X hP hD hS (mX11_deny hg) okX11_deny wl_X11_102 wi_X11_deny ws_X11_X11_deny_X11_deny ⟨rfl, rfl, Nat.le_of_ble_eq_true rfl, Nat.le_of_ble_eq_true rfl⟩ 11 0 rfl rfl [0] [1, 2, 3, 4, 5, 6, 7, 8, 9] ⟨rfl, rfl, rfl, rfl, by decide⟩ rfl hl.1 (Nat.le_of_ble_eq_true rfl) dX11_pour_54 (fun H locs hP hD hS => ?_)
  have hP := hP.sub (ws' := (w11 ca qC (.ref (qA 0)) (rC4) (rC6) (rC7) (rC10) (rC11) (rC12) (rC14) (rC15) (rC17) (rC18) (rC19) z7.2 ++ wLT ca qA (rf4 (qY0 0) (qY1 0) (qY2 0) (qY3 0)) ++ w9 ca qY0 SY0 ++ w9 ca qY1 SY1 ++ w9 ca qY2 SY2 ++ w9 ca qY3 SY3)) [9, 0, 1, 2, 3, 4, 5, 6, 7, 8] rfl
  have hD := hD.sub (ws' := (w11 ca qC (.ref (qA 0)) (rC4) (rC6) (rC7) (rC10) (rC11) (rC12) (rC14) (rC15) (rC17) (rC18) (rC19) z7.2 ++ wLT ca qA (rf4 (qY0 0) (qY1 0) (qY2 0) (qY3 0)) ++ w9 ca qY0 SY0 ++ w9 ca qY1 SY1 ++ w9 ca qY2 SY2 ++ w9 ca qY3 SY3)) [9, 0, 1, 2, 3, 4, 5, 6, 7, 8] rfl rfl
  obtain ⟨hz1, hf⟩ := tc_ck hf
  obtain rfl := Option.some.inj hf
  exact tc_rz X hP hD hS rfl dX11_pour_57 hz1 rfl rfl
set_option maxRecDepth 20000 in
theorem tX11_pour_113 {qC : Nat → Nat} {qA : Nat → Nat} {qY0 : Nat → Nat} {qY1 : Nat → Nat} {qY2 : Nat → Nat} {qY3 : Nat → Nat} {rC4 : Value} {rC6 : Value} {rC7 : Value} {rC10 : Value} {rC11 : Value} {rC12 : Value} {rC14 : Value} {rC15 : Value} {rC17 : Value} {rC18 : Value} {rC19 : Value} (X : tc_X dC dI ca A RX11 cX11_pour 8 (some .boolean) p s m args meth c) (z : Int32 × ms_T × ms_T × ms_T × ms_T × ms_T)     : ∀ (SC : ms_T) (SY0 : ms_T) (SY1 : ms_T) (SY2 : ms_T) (SY3 : ms_T), fX11_pour_113 SC SY0 SY1 SY2 SY3 = some z → ∀ (H : Heap) (locs : List Loc) (ls : Array Slot), va_P (dC, dI) classes (w11 ca qC (.ref (qA 0)) (rC4) (rC6) (rC7) (rC10) (rC11) (rC12) (rC14) (rC15) (rC17) (rC18) (rC19) SC ++ wLT ca qA (rf4 (qY0 0) (qY1 0) (qY2 0) (qY3 0)) ++ w9 ca qY0 SY0 ++ w9 ca qY1 SY1 ++ w9 ca qY2 SY2 ++ w9 ca qY3 SY3) H → va_D A (w11 ca qC (.ref (qA 0)) (rC4) (rC6) (rC7) (rC10) (rC11) (rC12) (rC14) (rC15) (rC17) (rC18) (rC19) SC ++ wLT ca qA (rf4 (qY0 0) (qY1 0) (qY2 0) (qY3 0)) ++ w9 ca qY0 SY0 ++ w9 ca qY1 SY1 ++ w9 ca qY2 SY2 ++ w9 ca qY3 SY3) → va_S A s.heap H locs → lv_has ls 8 [(0, .ref (qC 0))] → W p l e rmX11_pour s m args below meth c H locs 0 0 (MQ below (tc_QI dC dI ca A (w11 ca qC (.ref (qA 0)) (rC4) (rC6) (rC7) (rC10) (rC11) (rC12) (rC14) (rC15) (rC17) (rC18) (rC19) z.2.1 ++ wLT ca qA (rf4 (qY0 0) (qY1 0) (qY2 0) (qY3 0)) ++ w9 ca qY0 z.2.2.1 ++ w9 ca qY1 z.2.2.2.1 ++ w9 ca qY2 z.2.2.2.2.1 ++ w9 ca qY3 z.2.2.2.2.2) (z.1)) args s 0 0 A) (F0 m 113 ls []) := by
  obtain ⟨hx, hb, hr, hml, hown, hts, hlk, hK, hA, hG⟩ := id X
  intro SC SY0 SY1 SY2 SY3 hf H locs ls hP hD hS hl
  unfold fX11_pour_113 at hf
  refine lv_aload_n hx hb dX11_pour_113 rfl (lv_at hl 0 rfl) ?_
  refine lv_iconst (v := (4 : Int32)) hx hb dX11_pour_114 (by decide) ?_
  obtain ⟨z10, hg, hf⟩ := tc_bi hf
  refine tc_iV (As := [.int ((4 : Int32))]) (rest := []) (b := qC 0) (wc := w11 ca qC (.ref (qA 0)) (rC4) (rC6) (rC7) (rC10) (rC11) (rC12) (rC14) (rC15) (rC17) (rC18) (rC19) SC) (wr := wLT ca qA (rf4 (qY0 0) (qY1 0) (qY2 0) (qY3 0)) ++ w9 ca qY0 SY0 ++ w9 ca qY1 SY1 ++ w9 ca qY2 SY2 ++ w9 ca qY3 SY3) X hP hD hS (mX11_deny hg) okX11_deny wl_X11_102 wi_X11_deny ws_X11_X11_deny_X11_deny ⟨rfl, rfl, Nat.le_of_ble_eq_true rfl, Nat.le_of_ble_eq_true rfl⟩ 11 0 rfl rfl [0] [1, 2, 3, 4, 5, 6, 7, 8, 9] ⟨rfl, rfl, rfl, rfl, by decide⟩ rfl hl.1 (Nat.le_of_ble_eq_true rfl) dX11_pour_115 (fun H locs hP hD hS => ?_)
  have hP := hP.sub (ws' := (w11 ca qC (.ref (qA 0)) (rC4) (rC6) (rC7) (rC10) (rC11) (rC12) (rC14) (rC15) (rC17) (rC18) (rC19) z10.2 ++ wLT ca qA (rf4 (qY0 0) (qY1 0) (qY2 0) (qY3 0)) ++ w9 ca qY0 SY0 ++ w9 ca qY1 SY1 ++ w9 ca qY2 SY2 ++ w9 ca qY3 SY3)) [9, 0, 1, 2, 3, 4, 5, 6, 7, 8] rfl
  have hD := hD.sub (ws' := (w11 ca qC (.ref (qA 0)) (rC4) (rC6) (rC7) (rC10) (rC11) (rC12) (rC14) (rC15) (rC17) (rC18) (rC19) z10.2 ++ wLT ca qA (rf4 (qY0 0) (qY1 0) (qY2 0) (qY3 0)) ++ w9 ca qY0 SY0 ++ w9 ca qY1 SY1 ++ w9 ca qY2 SY2 ++ w9 ca qY3 SY3)) [9, 0, 1, 2, 3, 4, 5, 6, 7, 8] rfl rfl
  obtain ⟨hz1, hf⟩ := tc_ck hf
  obtain rfl := Option.some.inj hf
  exact tc_rz X hP hD hS rfl dX11_pour_118 hz1 rfl rfl
set_option maxRecDepth 20000 in
theorem mX11_pour {qC : Nat → Nat} {qA : Nat → Nat} {qY0 : Nat → Nat} {qY1 : Nat → Nat} {qY2 : Nat → Nat} {qY3 : Nat → Nat} {rC4 : Value} {rC6 : Value} {rC7 : Value} {rC10 : Value} {rC11 : Value} {rC12 : Value} {rC14 : Value} {rC15 : Value} {rC17 : Value} {rC18 : Value} {rC19 : Value} {SC : ms_T} {SY0 : ms_T} {SY1 : ms_T} {SY2 : ms_T} {SY3 : ms_T} {a1 : Int32} {a2 : Int32} {a3 : Int32} {a4 : Int32} {a5 : Int32} {z : Int32 × ms_T × ms_T × ms_T × ms_T × ms_T}  (hf : fX11_pour SC SY0 SY1 SY2 SY3 a1 a2 a3 a4 a5 = some z) : tc_MI l dC dI ca yX11_pour cX11_pour 8 (some .boolean) rmX11_pour [.ref (qC 0), .int (a1), .int (a2), .int (a3), .int (a4), .int (a5)] (w11 ca qC (.ref (qA 0)) (rC4) (rC6) (rC7) (rC10) (rC11) (rC12) (rC14) (rC15) (rC17) (rC18) (rC19) SC ++ wLT ca qA (rf4 (qY0 0) (qY1 0) (qY2 0) (qY3 0)) ++ w9 ca qY0 SY0 ++ w9 ca qY1 SY1 ++ w9 ca qY2 SY2 ++ w9 ca qY3 SY3) (w11 ca qC (.ref (qA 0)) (rC4) (rC6) (rC7) (rC10) (rC11) (rC12) (rC14) (rC15) (rC17) (rC18) (rC19) z.2.1 ++ wLT ca qA (rf4 (qY0 0) (qY1 0) (qY2 0) (qY3 0)) ++ w9 ca qY0 z.2.2.1 ++ w9 ca qY1 z.2.2.2.1 ++ w9 ca qY2 z.2.2.2.2.1 ++ w9 ca qY3 z.2.2.2.2.2) (z.1) := by
  refine tc_metI (own := RX11) (by decide) rfl ?_ (Nat.le_of_ble_eq_true rfl)
  intro p e s m below meth c A X hP hD hS ls hl
  obtain ⟨hx, hb, hr, hml, hown, hts, hlk, hK, hA, hG⟩ := id X
  unfold fX11_pour at hf
  have hl : lv_has ls 8 [(0, .ref (qC 0)), (1, .int (a1)), (2, .int (a2)), (3, .int (a3)), (4, .int (a4)), (5, .int (a5))] := hl
  refine lv_iload_n hx hb dX11_pour_0 rfl (lv_at hl 1 rfl) ?_
  obtain ⟨z1, hg, hf⟩ := tc_bi hf
  refine tc_iS0 (As := [.int (a1)]) (rest := []) X hP hD hS (mX11_isTray hg) okX11_isTray wl_X11_98 wt_X11_isTray ⟨rfl, rfl, Nat.le_of_ble_eq_true rfl, Nat.le_of_ble_eq_true rfl⟩ rfl hl.1 (Nat.le_of_ble_eq_true rfl) dX11_pour_1 (fun H locs hP hD hS => ?_)
  refine lv_if_eq (tgt := 14) hx hb dX11_pour_4 (by decide) (fun hc => ?_) (fun hc => ?_)
  · have hf := tc_pos hc hf
    exact tX11_pour_14 X z SC SY0 SY1 SY2 SY3 hf _ _ _ hP hD hS (lv_sub hl [0] rfl)
  · have hf := tc_neg hc hf
    refine lv_iload_n hx hb dX11_pour_7 rfl (lv_at hl 3 rfl) ?_
    obtain ⟨z3, hg, hf⟩ := tc_bi hf
    refine tc_iS0 (As := [.int (a3)]) (rest := []) X hP hD hS (mX11_isTray hg) okX11_isTray wl_X11_98 wt_X11_isTray ⟨rfl, rfl, Nat.le_of_ble_eq_true rfl, Nat.le_of_ble_eq_true rfl⟩ rfl hl.1 (Nat.le_of_ble_eq_true rfl) dX11_pour_8 (fun H locs hP hD hS => ?_)
    refine lv_if_ne (tgt := 20) hx hb dX11_pour_11 (by decide) (fun hc => ?_) (fun hc => ?_)
    · have hf := tc_neg hc hf
      refine lv_aload_n hx hb dX11_pour_20 rfl (lv_at hl 0 rfl) ?_
      refine va_get (D := (dC, dI)) (ci := 11) (v := .ref (qA 0)) (C := RX11) (T := TX11) (N := 20) hx hb hts i_X11 hown hK hP 0 rfl rfl 3 (by decide) (hts _ wf_X11_11) (fun _ h9 => h9) rfl dX11_pour_21 ?_
      refine lv_iload_n hx hb dX11_pour_24 rfl (lv_at hl 1 rfl) ?_
      by_cases hq4_0 : a1 = (0 : Int32)
      · have hf := tc_pos hq4_0 hf
        refine tc_ald (b := qY0 0) X hP 1 4 rfl rfl 0 (by rw [hq4_0]; decide) (by rw [hq4_0]; exact inb_vp (by decide)) rfl dX11_pour_25 ?_
        refine lv_astore (lv' := [(6, .ref (qY0 0)), (0, .ref (qC 0)), (1, .int (a1)), (2, .int (a2)), (3, .int (a3)), (4, .int (a4)), (5, .int (a5))]) hx hb dX11_pour_26 hl (by decide) rfl (fun ls hl => ?_)
        refine lv_aload_n hx hb dX11_pour_28 rfl (lv_at hl 1 rfl) ?_
        refine va_get (D := (dC, dI)) (ci := 11) (v := .ref (qA 0)) (C := RX11) (T := TX11) (N := 20) hx hb hts i_X11 hown hK hP 0 rfl rfl 3 (by decide) (hts _ wf_X11_11) (fun _ h9 => h9) rfl dX11_pour_29 ?_
        refine lv_iload_n hx hb dX11_pour_32 rfl (lv_at hl 4 rfl) ?_
        by_cases hq5_0 : a3 = (0 : Int32)
        · have hf := tc_pos hq5_0 hf
          refine tc_ald (b := qY0 0) X hP 1 4 rfl rfl 0 (by rw [hq5_0]; decide) (by rw [hq5_0]; exact inb_vp (by decide)) rfl dX11_pour_33 ?_
          refine lv_astore (lv' := [(7, .ref (qY0 0)), (6, .ref (qY0 0)), (0, .ref (qC 0)), (1, .int (a1)), (2, .int (a2)), (3, .int (a3)), (4, .int (a4)), (5, .int (a5))]) hx hb dX11_pour_34 hl (by decide) rfl (fun ls hl => ?_)
          refine lv_aload hx hb dX11_pour_36 (lv_at hl 1 rfl) ?_
          obtain ⟨z6, hg, hf⟩ := tc_bi hf
          refine tc_iV (As := []) (rest := []) (b := qY0 0) (wc := w9 ca qY0 SY0) (wr := w11 ca qC (.ref (qA 0)) (rC4) (rC6) (rC7) (rC10) (rC11) (rC12) (rC14) (rC15) (rC17) (rC18) (rC19) SC ++ wLT ca qA (rf4 (qY0 0) (qY1 0) (qY2 0) (qY3 0)) ++ w9 ca qY1 SY1 ++ w9 ca qY2 SY2 ++ w9 ca qY3 SY3) X hP hD hS (mX9_isMissing hg) okX9_isMissing wl_X11_129 wi_X9_isMissing ws_X9_X9_isMissing_X9_isMissing ⟨rfl, rfl, Nat.le_of_ble_eq_true rfl, Nat.le_of_ble_eq_true rfl⟩ 9 0 rfl rfl [2, 3] [0, 1, 4, 5, 6, 7, 8, 9] ⟨rfl, rfl, rfl, rfl, by decide⟩ rfl hl.1 (Nat.le_of_ble_eq_true rfl) dX11_pour_38 (fun H locs hP hD hS => ?_)
          have hP := hP.sub (ws' := (w11 ca qC (.ref (qA 0)) (rC4) (rC6) (rC7) (rC10) (rC11) (rC12) (rC14) (rC15) (rC17) (rC18) (rC19) SC ++ wLT ca qA (rf4 (qY0 0) (qY1 0) (qY2 0) (qY3 0)) ++ w9 ca qY0 SY0 ++ w9 ca qY1 SY1 ++ w9 ca qY2 SY2 ++ w9 ca qY3 SY3)) [0, 1, 8, 9, 2, 3, 4, 5, 6, 7] rfl
          have hD := hD.sub (ws' := (w11 ca qC (.ref (qA 0)) (rC4) (rC6) (rC7) (rC10) (rC11) (rC12) (rC14) (rC15) (rC17) (rC18) (rC19) SC ++ wLT ca qA (rf4 (qY0 0) (qY1 0) (qY2 0) (qY3 0)) ++ w9 ca qY0 SY0 ++ w9 ca qY1 SY1 ++ w9 ca qY2 SY2 ++ w9 ca qY3 SY3)) [0, 1, 8, 9, 2, 3, 4, 5, 6, 7] rfl rfl
          refine lv_if_ne (tgt := 52) hx hb dX11_pour_41 (by decide) (fun hc => ?_) (fun hc => ?_)
          · have hf := tc_neg hc hf
            exact tX11_pour_52 X z SC SY0 SY1 SY2 SY3 hf _ _ _ hP hD hS (lv_sub hl [2] rfl)
          · have hf := tc_pos hc hf
            refine lv_aload hx hb dX11_pour_44 (lv_at hl 0 rfl) ?_
            obtain ⟨z8, hg, hf⟩ := tc_bi hf
            refine tc_iV (As := []) (rest := []) (b := qY0 0) (wc := w9 ca qY0 SY0) (wr := w11 ca qC (.ref (qA 0)) (rC4) (rC6) (rC7) (rC10) (rC11) (rC12) (rC14) (rC15) (rC17) (rC18) (rC19) SC ++ wLT ca qA (rf4 (qY0 0) (qY1 0) (qY2 0) (qY3 0)) ++ w9 ca qY1 SY1 ++ w9 ca qY2 SY2 ++ w9 ca qY3 SY3) X hP hD hS (mX9_isMissing hg) okX9_isMissing wl_X11_129 wi_X9_isMissing ws_X9_X9_isMissing_X9_isMissing ⟨rfl, rfl, Nat.le_of_ble_eq_true rfl, Nat.le_of_ble_eq_true rfl⟩ 9 0 rfl rfl [2, 3] [0, 1, 4, 5, 6, 7, 8, 9] ⟨rfl, rfl, rfl, rfl, by decide⟩ rfl hl.1 (Nat.le_of_ble_eq_true rfl) dX11_pour_46 (fun H locs hP hD hS => ?_)
            have hP := hP.sub (ws' := (w11 ca qC (.ref (qA 0)) (rC4) (rC6) (rC7) (rC10) (rC11) (rC12) (rC14) (rC15) (rC17) (rC18) (rC19) SC ++ wLT ca qA (rf4 (qY0 0) (qY1 0) (qY2 0) (qY3 0)) ++ w9 ca qY0 SY0 ++ w9 ca qY1 SY1 ++ w9 ca qY2 SY2 ++ w9 ca qY3 SY3)) [0, 1, 8, 9, 2, 3, 4, 5, 6, 7] rfl
            have hD := hD.sub (ws' := (w11 ca qC (.ref (qA 0)) (rC4) (rC6) (rC7) (rC10) (rC11) (rC12) (rC14) (rC15) (rC17) (rC18) (rC19) SC ++ wLT ca qA (rf4 (qY0 0) (qY1 0) (qY2 0) (qY3 0)) ++ w9 ca qY0 SY0 ++ w9 ca qY1 SY1 ++ w9 ca qY2 SY2 ++ w9 ca qY3 SY3)) [0, 1, 8, 9, 2, 3, 4, 5, 6, 7] rfl rfl
            refine lv_if_eq (tgt := 58) hx hb dX11_pour_49 (by decide) (fun hc => ?_) (fun hc => ?_)
            · have hf := tc_pos hc hf
              refine lv_aload hx hb dX11_pour_58 (lv_at hl 1 rfl) ?_
              refine va_get (D := (dC, dI)) (ci := 9) (v := .int (gi SY0 1)) (C := RX9) (T := TX9) (N := 3) hx hb hts i_X9 hown hK hP 2 rfl rfl 1 (by decide) (hts _ wf_X11_132) (fun _ h9 => h9) rfl dX11_pour_60 ?_
              refine lv_aload hx hb dX11_pour_63 (lv_at hl 0 rfl) ?_
              refine va_get (D := (dC, dI)) (ci := 9) (v := .int (gi SY0 1)) (C := RX9) (T := TX9) (N := 3) hx hb hts i_X9 hown hK hP 2 rfl rfl 1 (by decide) (hts _ wf_X11_132) (fun _ h9 => h9) rfl dX11_pour_65 ?_
              refine lv_icmp_eq (tgt := 78) hx hb dX11_pour_68 (by decide) (fun hc => ?_) (fun hc => ?_)
              · have hf := tc_pos hc hf
                refine lv_iload hx hb dX11_pour_78 (lv_at hl 7 rfl) ?_
                refine lv_if_ge (tgt := 90) hx hb dX11_pour_80 (by decide) (fun hc => ?_) (fun hc => ?_)
                · have hf := tc_pos hc hf
                  refine lv_aload hx hb dX11_pour_90 (lv_at hl 1 rfl) ?_
                  refine lv_iload_n hx hb dX11_pour_92 rfl (lv_at hl 4 rfl) ?_
                  refine lv_iload hx hb dX11_pour_93 (lv_at hl 7 rfl) ?_
                  obtain ⟨z9, hg, hf⟩ := tc_bi hf
                  refine tc_iV (As := [.int (a2), .int (a5)]) (rest := []) (b := qY0 0) (wc := w9 ca qY0 SY0) (wr := w11 ca qC (.ref (qA 0)) (rC4) (rC6) (rC7) (rC10) (rC11) (rC12) (rC14) (rC15) (rC17) (rC18) (rC19) SC ++ wLT ca qA (rf4 (qY0 0) (qY1 0) (qY2 0) (qY3 0)) ++ w9 ca qY1 SY1 ++ w9 ca qY2 SY2 ++ w9 ca qY3 SY3) X hP hD hS (mX9_holds hg) okX9_holds wl_X11_135 wi_X9_holds ws_X9_X9_holds_X9_holds ⟨rfl, rfl, Nat.le_of_ble_eq_true rfl, Nat.le_of_ble_eq_true rfl⟩ 9 0 rfl rfl [2, 3] [0, 1, 4, 5, 6, 7, 8, 9] ⟨rfl, rfl, rfl, rfl, by decide⟩ rfl hl.1 (Nat.le_of_ble_eq_true rfl) dX11_pour_95 (fun H locs hP hD hS => ?_)
                  have hP := hP.sub (ws' := (w11 ca qC (.ref (qA 0)) (rC4) (rC6) (rC7) (rC10) (rC11) (rC12) (rC14) (rC15) (rC17) (rC18) (rC19) SC ++ wLT ca qA (rf4 (qY0 0) (qY1 0) (qY2 0) (qY3 0)) ++ w9 ca qY0 SY0 ++ w9 ca qY1 SY1 ++ w9 ca qY2 SY2 ++ w9 ca qY3 SY3)) [0, 1, 8, 9, 2, 3, 4, 5, 6, 7] rfl
                  have hD := hD.sub (ws' := (w11 ca qC (.ref (qA 0)) (rC4) (rC6) (rC7) (rC10) (rC11) (rC12) (rC14) (rC15) (rC17) (rC18) (rC19) SC ++ wLT ca qA (rf4 (qY0 0) (qY1 0) (qY2 0) (qY3 0)) ++ w9 ca qY0 SY0 ++ w9 ca qY1 SY1 ++ w9 ca qY2 SY2 ++ w9 ca qY3 SY3)) [0, 1, 8, 9, 2, 3, 4, 5, 6, 7] rfl rfl
                  refine lv_if_eq (tgt := 113) hx hb dX11_pour_98 (by decide) (fun hc => ?_) (fun hc => ?_)
                  · have hf := tc_pos hc hf
                    exact tX11_pour_113 X z SC SY0 SY1 SY2 SY3 hf _ _ _ hP hD hS (lv_sub hl [2] rfl)
                  · have hf := tc_neg hc hf
                    refine lv_aload hx hb dX11_pour_101 (lv_at hl 0 rfl) ?_
                    refine lv_iload hx hb dX11_pour_103 (lv_at hl 6 rfl) ?_
                    refine lv_iload hx hb dX11_pour_105 (lv_at hl 7 rfl) ?_
                    obtain ⟨z11, hg, hf⟩ := tc_bi hf
                    refine tc_iV (As := [.int (a4), .int (a5)]) (rest := []) (b := qY0 0) (wc := w9 ca qY0 SY0) (wr := w11 ca qC (.ref (qA 0)) (rC4) (rC6) (rC7) (rC10) (rC11) (rC12) (rC14) (rC15) (rC17) (rC18) (rC19) SC ++ wLT ca qA (rf4 (qY0 0) (qY1 0) (qY2 0) (qY3 0)) ++ w9 ca qY1 SY1 ++ w9 ca qY2 SY2 ++ w9 ca qY3 SY3) X hP hD hS (mX9_holds hg) okX9_holds wl_X11_135 wi_X9_holds ws_X9_X9_holds_X9_holds ⟨rfl, rfl, Nat.le_of_ble_eq_true rfl, Nat.le_of_ble_eq_true rfl⟩ 9 0 rfl rfl [2, 3] [0, 1, 4, 5, 6, 7, 8, 9] ⟨rfl, rfl, rfl, rfl, by decide⟩ rfl hl.1 (Nat.le_of_ble_eq_true rfl) dX11_pour_107 (fun H locs hP hD hS => ?_)
                    have hP := hP.sub (ws' := (w11 ca qC (.ref (qA 0)) (rC4) (rC6) (rC7) (rC10) (rC11) (rC12) (rC14) (rC15) (rC17) (rC18) (rC19) SC ++ wLT ca qA (rf4 (qY0 0) (qY1 0) (qY2 0) (qY3 0)) ++ w9 ca qY0 SY0 ++ w9 ca qY1 SY1 ++ w9 ca qY2 SY2 ++ w9 ca qY3 SY3)) [0, 1, 8, 9, 2, 3, 4, 5, 6, 7] rfl
                    have hD := hD.sub (ws' := (w11 ca qC (.ref (qA 0)) (rC4) (rC6) (rC7) (rC10) (rC11) (rC12) (rC14) (rC15) (rC17) (rC18) (rC19) SC ++ wLT ca qA (rf4 (qY0 0) (qY1 0) (qY2 0) (qY3 0)) ++ w9 ca qY0 SY0 ++ w9 ca qY1 SY1 ++ w9 ca qY2 SY2 ++ w9 ca qY3 SY3)) [0, 1, 8, 9, 2, 3, 4, 5, 6, 7] rfl rfl
                    refine lv_if_ne (tgt := 119) hx hb dX11_pour_110 (by decide) (fun hc => ?_) (fun hc => ?_)
                    · have hf := tc_neg hc hf
                      refine lv_aload hx hb dX11_pour_119 (lv_at hl 1 rfl) ?_
                      refine va_get (D := (dC, dI)) (ci := 9) (v := .ref (qY0 1)) (C := RX9) (T := TX9) (N := 3) hx hb hts i_X9 hown hK hP 2 rfl rfl 0 (by decide) (hts _ wf_X11_125) (fun _ h9 => h9) rfl dX11_pour_121 ?_
                      refine lv_iload_n hx hb dX11_pour_124 rfl (lv_at hl 4 rfl) ?_
                      refine lv_aload hx hb dX11_pour_125 (lv_at hl 0 rfl) ?_
                      refine va_get (D := (dC, dI)) (ci := 9) (v := .ref (qY0 1)) (C := RX9) (T := TX9) (N := 3) hx hb hts i_X9 hown hK hP 2 rfl rfl 0 (by decide) (hts _ wf_X11_125) (fun _ h9 => h9) rfl dX11_pour_127 ?_
                      refine lv_iload hx hb dX11_pour_130 (lv_at hl 6 rfl) ?_
                      refine lv_iload hx hb dX11_pour_132 (lv_at hl 7 rfl) ?_
                      obtain ⟨hc12, hf⟩ := tc_ck hf
                      refine tc_cpl (rest := []) X hl.1 wl_X11_139 hP hD hS 3 3 2 2 rfl rfl rfl rfl hc12 (Nat.le_of_ble_eq_true rfl) (Nat.le_of_ble_eq_true rfl) dX11_pour_134 (fun H locs hP hD hS => ?_)
                      have hP := tc_eP (cwm22_2_1 ca qC qA qY0 qY1 qY2 qY3 (rf4 (qY0 0) (qY1 0) (qY2 0) (qY3 0)) (.ref (qA 0)) (rC4) (rC6) (rC7) (rC10) (rC11) (rC12) (rC14) (rC15) (rC17) (rC18) (rC19) SC SY0 SY1 SY2 SY3 (cpl (rl SY0 1) (rl SY0 1) a2 a4 a5)) hP
                      have hD := tc_eD (cwm22_2_1 ca qC qA qY0 qY1 qY2 qY3 (rf4 (qY0 0) (qY1 0) (qY2 0) (qY3 0)) (.ref (qA 0)) (rC4) (rC6) (rC7) (rC10) (rC11) (rC12) (rC14) (rC15) (rC17) (rC18) (rC19) SC SY0 SY1 SY2 SY3 (cpl (rl SY0 1) (rl SY0 1) a2 a4 a5)) hD
                      refine lv_aload_n hx hb dX11_pour_137 rfl (lv_at hl 2 rfl) ?_
                      obtain ⟨z13, hg, hf⟩ := tc_bi hf
                      refine tc_iV (As := []) (rest := []) (b := qC 0) (wc := w11 ca qC (.ref (qA 0)) (rC4) (rC6) (rC7) (rC10) (rC11) (rC12) (rC14) (rC15) (rC17) (rC18) (rC19) SC) (wr := wLT ca qA (rf4 (qY0 0) (qY1 0) (qY2 0) (qY3 0)) ++ w9 ca qY0 (sR SY0 1 (cpl (rl SY0 1) (rl SY0 1) a2 a4 a5)) ++ w9 ca qY1 SY1 ++ w9 ca qY2 SY2 ++ w9 ca qY3 SY3) X hP hD hS (mX11_grant hg) okX11_grant wl_X11_109 wi_X11_grant ws_X11_X11_grant_X11_grant ⟨rfl, rfl, Nat.le_of_ble_eq_true rfl, Nat.le_of_ble_eq_true rfl⟩ 11 0 rfl rfl [0] [1, 2, 3, 4, 5, 6, 7, 8, 9] ⟨rfl, rfl, rfl, rfl, by decide⟩ rfl hl.1 (Nat.le_of_ble_eq_true rfl) dX11_pour_138 (fun H locs hP hD hS => ?_)
                      have hP := hP.sub (ws' := (w11 ca qC (.ref (qA 0)) (rC4) (rC6) (rC7) (rC10) (rC11) (rC12) (rC14) (rC15) (rC17) (rC18) (rC19) z13.2 ++ wLT ca qA (rf4 (qY0 0) (qY1 0) (qY2 0) (qY3 0)) ++ w9 ca qY0 (sR SY0 1 (cpl (rl SY0 1) (rl SY0 1) a2 a4 a5)) ++ w9 ca qY1 SY1 ++ w9 ca qY2 SY2 ++ w9 ca qY3 SY3)) [9, 0, 1, 2, 3, 4, 5, 6, 7, 8] rfl
                      have hD := hD.sub (ws' := (w11 ca qC (.ref (qA 0)) (rC4) (rC6) (rC7) (rC10) (rC11) (rC12) (rC14) (rC15) (rC17) (rC18) (rC19) z13.2 ++ wLT ca qA (rf4 (qY0 0) (qY1 0) (qY2 0) (qY3 0)) ++ w9 ca qY0 (sR SY0 1 (cpl (rl SY0 1) (rl SY0 1) a2 a4 a5)) ++ w9 ca qY1 SY1 ++ w9 ca qY2 SY2 ++ w9 ca qY3 SY3)) [9, 0, 1, 2, 3, 4, 5, 6, 7, 8] rfl rfl
                      obtain ⟨hz1, hf⟩ := tc_ck hf
                      obtain rfl := Option.some.inj hf
                      exact tc_rz X hP hD hS rfl dX11_pour_141 hz1 rfl rfl
                    · have hf := tc_pos hc hf
                      exact tX11_pour_113 X z SC SY0 SY1 SY2 SY3 hf _ _ _ hP hD hS (lv_sub hl [2] rfl)
                · have hf := tc_neg hc hf
                  refine lv_aload_n hx hb dX11_pour_83 rfl (lv_at hl 2 rfl) ?_
                  refine lv_bipush (v := (6 : Int32)) hx hb dX11_pour_84 (by decide) ?_
                  obtain ⟨z14, hg, hf⟩ := tc_bi hf
                  refine tc_iV (As := [.int ((6 : Int32))]) (rest := []) (b := qC 0) (wc := w11 ca qC (.ref (qA 0)) (rC4) (rC6) (rC7) (rC10) (rC11) (rC12) (rC14) (rC15) (rC17) (rC18) (rC19) SC) (wr := wLT ca qA (rf4 (qY0 0) (qY1 0) (qY2 0) (qY3 0)) ++ w9 ca qY0 SY0 ++ w9 ca qY1 SY1 ++ w9 ca qY2 SY2 ++ w9 ca qY3 SY3) X hP hD hS (mX11_deny hg) okX11_deny wl_X11_102 wi_X11_deny ws_X11_X11_deny_X11_deny ⟨rfl, rfl, Nat.le_of_ble_eq_true rfl, Nat.le_of_ble_eq_true rfl⟩ 11 0 rfl rfl [0] [1, 2, 3, 4, 5, 6, 7, 8, 9] ⟨rfl, rfl, rfl, rfl, by decide⟩ rfl hl.1 (Nat.le_of_ble_eq_true rfl) dX11_pour_86 (fun H locs hP hD hS => ?_)
                  have hP := hP.sub (ws' := (w11 ca qC (.ref (qA 0)) (rC4) (rC6) (rC7) (rC10) (rC11) (rC12) (rC14) (rC15) (rC17) (rC18) (rC19) z14.2 ++ wLT ca qA (rf4 (qY0 0) (qY1 0) (qY2 0) (qY3 0)) ++ w9 ca qY0 SY0 ++ w9 ca qY1 SY1 ++ w9 ca qY2 SY2 ++ w9 ca qY3 SY3)) [9, 0, 1, 2, 3, 4, 5, 6, 7, 8] rfl
                  have hD := hD.sub (ws' := (w11 ca qC (.ref (qA 0)) (rC4) (rC6) (rC7) (rC10) (rC11) (rC12) (rC14) (rC15) (rC17) (rC18) (rC19) z14.2 ++ wLT ca qA (rf4 (qY0 0) (qY1 0) (qY2 0) (qY3 0)) ++ w9 ca qY0 SY0 ++ w9 ca qY1 SY1 ++ w9 ca qY2 SY2 ++ w9 ca qY3 SY3)) [9, 0, 1, 2, 3, 4, 5, 6, 7, 8] rfl rfl
                  obtain ⟨hz1, hf⟩ := tc_ck hf
                  obtain rfl := Option.some.inj hf
                  exact tc_rz X hP hD hS rfl dX11_pour_89 hz1 rfl rfl
              · have hf := tc_neg hc hf
                refine lv_aload_n hx hb dX11_pour_71 rfl (lv_at hl 2 rfl) ?_
                refine lv_bipush (v := (11 : Int32)) hx hb dX11_pour_72 (by decide) ?_
                obtain ⟨z15, hg, hf⟩ := tc_bi hf
                refine tc_iV (As := [.int ((11 : Int32))]) (rest := []) (b := qC 0) (wc := w11 ca qC (.ref (qA 0)) (rC4) (rC6) (rC7) (rC10) (rC11) (rC12) (rC14) (rC15) (rC17) (rC18) (rC19) SC) (wr := wLT ca qA (rf4 (qY0 0) (qY1 0) (qY2 0) (qY3 0)) ++ w9 ca qY0 SY0 ++ w9 ca qY1 SY1 ++ w9 ca qY2 SY2 ++ w9 ca qY3 SY3) X hP hD hS (mX11_deny hg) okX11_deny wl_X11_102 wi_X11_deny ws_X11_X11_deny_X11_deny ⟨rfl, rfl, Nat.le_of_ble_eq_true rfl, Nat.le_of_ble_eq_true rfl⟩ 11 0 rfl rfl [0] [1, 2, 3, 4, 5, 6, 7, 8, 9] ⟨rfl, rfl, rfl, rfl, by decide⟩ rfl hl.1 (Nat.le_of_ble_eq_true rfl) dX11_pour_74 (fun H locs hP hD hS => ?_)
                have hP := hP.sub (ws' := (w11 ca qC (.ref (qA 0)) (rC4) (rC6) (rC7) (rC10) (rC11) (rC12) (rC14) (rC15) (rC17) (rC18) (rC19) z15.2 ++ wLT ca qA (rf4 (qY0 0) (qY1 0) (qY2 0) (qY3 0)) ++ w9 ca qY0 SY0 ++ w9 ca qY1 SY1 ++ w9 ca qY2 SY2 ++ w9 ca qY3 SY3)) [9, 0, 1, 2, 3, 4, 5, 6, 7, 8] rfl
                have hD := hD.sub (ws' := (w11 ca qC (.ref (qA 0)) (rC4) (rC6) (rC7) (rC10) (rC11) (rC12) (rC14) (rC15) (rC17) (rC18) (rC19) z15.2 ++ wLT ca qA (rf4 (qY0 0) (qY1 0) (qY2 0) (qY3 0)) ++ w9 ca qY0 SY0 ++ w9 ca qY1 SY1 ++ w9 ca qY2 SY2 ++ w9 ca qY3 SY3)) [9, 0, 1, 2, 3, 4, 5, 6, 7, 8] rfl rfl
                obtain ⟨hz1, hf⟩ := tc_ck hf
                obtain rfl := Option.some.inj hf
                exact tc_rz X hP hD hS rfl dX11_pour_77 hz1 rfl rfl
            · have hf := tc_neg hc hf
              exact tX11_pour_52 X z SC SY0 SY1 SY2 SY3 hf _ _ _ hP hD hS (lv_sub hl [2] rfl)
        · have hf := tc_neg hq5_0 hf
          by_cases hq5_1 : a3 = (1 : Int32)
          · have hf := tc_pos hq5_1 hf
            refine tc_ald (b := qY1 0) X hP 1 4 rfl rfl 1 (by rw [hq5_1]; decide) (by rw [hq5_1]; exact inb_vp (by decide)) rfl dX11_pour_33 ?_
            refine lv_astore (lv' := [(7, .ref (qY1 0)), (6, .ref (qY0 0)), (0, .ref (qC 0)), (1, .int (a1)), (2, .int (a2)), (3, .int (a3)), (4, .int (a4)), (5, .int (a5))]) hx hb dX11_pour_34 hl (by decide) rfl (fun ls hl => ?_)
            refine lv_aload hx hb dX11_pour_36 (lv_at hl 1 rfl) ?_
            obtain ⟨z16, hg, hf⟩ := tc_bi hf
            refine tc_iV (As := []) (rest := []) (b := qY0 0) (wc := w9 ca qY0 SY0) (wr := w11 ca qC (.ref (qA 0)) (rC4) (rC6) (rC7) (rC10) (rC11) (rC12) (rC14) (rC15) (rC17) (rC18) (rC19) SC ++ wLT ca qA (rf4 (qY0 0) (qY1 0) (qY2 0) (qY3 0)) ++ w9 ca qY1 SY1 ++ w9 ca qY2 SY2 ++ w9 ca qY3 SY3) X hP hD hS (mX9_isMissing hg) okX9_isMissing wl_X11_129 wi_X9_isMissing ws_X9_X9_isMissing_X9_isMissing ⟨rfl, rfl, Nat.le_of_ble_eq_true rfl, Nat.le_of_ble_eq_true rfl⟩ 9 0 rfl rfl [2, 3] [0, 1, 4, 5, 6, 7, 8, 9] ⟨rfl, rfl, rfl, rfl, by decide⟩ rfl hl.1 (Nat.le_of_ble_eq_true rfl) dX11_pour_38 (fun H locs hP hD hS => ?_)
            have hP := hP.sub (ws' := (w11 ca qC (.ref (qA 0)) (rC4) (rC6) (rC7) (rC10) (rC11) (rC12) (rC14) (rC15) (rC17) (rC18) (rC19) SC ++ wLT ca qA (rf4 (qY0 0) (qY1 0) (qY2 0) (qY3 0)) ++ w9 ca qY0 SY0 ++ w9 ca qY1 SY1 ++ w9 ca qY2 SY2 ++ w9 ca qY3 SY3)) [0, 1, 8, 9, 2, 3, 4, 5, 6, 7] rfl
            have hD := hD.sub (ws' := (w11 ca qC (.ref (qA 0)) (rC4) (rC6) (rC7) (rC10) (rC11) (rC12) (rC14) (rC15) (rC17) (rC18) (rC19) SC ++ wLT ca qA (rf4 (qY0 0) (qY1 0) (qY2 0) (qY3 0)) ++ w9 ca qY0 SY0 ++ w9 ca qY1 SY1 ++ w9 ca qY2 SY2 ++ w9 ca qY3 SY3)) [0, 1, 8, 9, 2, 3, 4, 5, 6, 7] rfl rfl
            refine lv_if_ne (tgt := 52) hx hb dX11_pour_41 (by decide) (fun hc => ?_) (fun hc => ?_)
            · have hf := tc_neg hc hf
              exact tX11_pour_52 X z SC SY0 SY1 SY2 SY3 hf _ _ _ hP hD hS (lv_sub hl [2] rfl)
            · have hf := tc_pos hc hf
              refine lv_aload hx hb dX11_pour_44 (lv_at hl 0 rfl) ?_
              obtain ⟨z17, hg, hf⟩ := tc_bi hf
              refine tc_iV (As := []) (rest := []) (b := qY1 0) (wc := w9 ca qY1 SY1) (wr := w11 ca qC (.ref (qA 0)) (rC4) (rC6) (rC7) (rC10) (rC11) (rC12) (rC14) (rC15) (rC17) (rC18) (rC19) SC ++ wLT ca qA (rf4 (qY0 0) (qY1 0) (qY2 0) (qY3 0)) ++ w9 ca qY0 SY0 ++ w9 ca qY2 SY2 ++ w9 ca qY3 SY3) X hP hD hS (mX9_isMissing hg) okX9_isMissing wl_X11_129 wi_X9_isMissing ws_X9_X9_isMissing_X9_isMissing ⟨rfl, rfl, Nat.le_of_ble_eq_true rfl, Nat.le_of_ble_eq_true rfl⟩ 9 0 rfl rfl [4, 5] [0, 1, 2, 3, 6, 7, 8, 9] ⟨rfl, rfl, rfl, rfl, by decide⟩ rfl hl.1 (Nat.le_of_ble_eq_true rfl) dX11_pour_46 (fun H locs hP hD hS => ?_)
              have hP := hP.sub (ws' := (w11 ca qC (.ref (qA 0)) (rC4) (rC6) (rC7) (rC10) (rC11) (rC12) (rC14) (rC15) (rC17) (rC18) (rC19) SC ++ wLT ca qA (rf4 (qY0 0) (qY1 0) (qY2 0) (qY3 0)) ++ w9 ca qY0 SY0 ++ w9 ca qY1 SY1 ++ w9 ca qY2 SY2 ++ w9 ca qY3 SY3)) [0, 1, 2, 3, 8, 9, 4, 5, 6, 7] rfl
              have hD := hD.sub (ws' := (w11 ca qC (.ref (qA 0)) (rC4) (rC6) (rC7) (rC10) (rC11) (rC12) (rC14) (rC15) (rC17) (rC18) (rC19) SC ++ wLT ca qA (rf4 (qY0 0) (qY1 0) (qY2 0) (qY3 0)) ++ w9 ca qY0 SY0 ++ w9 ca qY1 SY1 ++ w9 ca qY2 SY2 ++ w9 ca qY3 SY3)) [0, 1, 2, 3, 8, 9, 4, 5, 6, 7] rfl rfl
              refine lv_if_eq (tgt := 58) hx hb dX11_pour_49 (by decide) (fun hc => ?_) (fun hc => ?_)
              · have hf := tc_pos hc hf
                refine lv_aload hx hb dX11_pour_58 (lv_at hl 1 rfl) ?_
                refine va_get (D := (dC, dI)) (ci := 9) (v := .int (gi SY0 1)) (C := RX9) (T := TX9) (N := 3) hx hb hts i_X9 hown hK hP 2 rfl rfl 1 (by decide) (hts _ wf_X11_132) (fun _ h9 => h9) rfl dX11_pour_60 ?_
                refine lv_aload hx hb dX11_pour_63 (lv_at hl 0 rfl) ?_
                refine va_get (D := (dC, dI)) (ci := 9) (v := .int (gi SY1 1)) (C := RX9) (T := TX9) (N := 3) hx hb hts i_X9 hown hK hP 4 rfl rfl 1 (by decide) (hts _ wf_X11_132) (fun _ h9 => h9) rfl dX11_pour_65 ?_
                refine lv_icmp_eq (tgt := 78) hx hb dX11_pour_68 (by decide) (fun hc => ?_) (fun hc => ?_)
                · have hf := tc_pos hc hf
                  refine lv_iload hx hb dX11_pour_78 (lv_at hl 7 rfl) ?_
                  refine lv_if_ge (tgt := 90) hx hb dX11_pour_80 (by decide) (fun hc => ?_) (fun hc => ?_)
                  · have hf := tc_pos hc hf
                    refine lv_aload hx hb dX11_pour_90 (lv_at hl 1 rfl) ?_
                    refine lv_iload_n hx hb dX11_pour_92 rfl (lv_at hl 4 rfl) ?_
                    refine lv_iload hx hb dX11_pour_93 (lv_at hl 7 rfl) ?_
                    obtain ⟨z18, hg, hf⟩ := tc_bi hf
                    refine tc_iV (As := [.int (a2), .int (a5)]) (rest := []) (b := qY0 0) (wc := w9 ca qY0 SY0) (wr := w11 ca qC (.ref (qA 0)) (rC4) (rC6) (rC7) (rC10) (rC11) (rC12) (rC14) (rC15) (rC17) (rC18) (rC19) SC ++ wLT ca qA (rf4 (qY0 0) (qY1 0) (qY2 0) (qY3 0)) ++ w9 ca qY1 SY1 ++ w9 ca qY2 SY2 ++ w9 ca qY3 SY3) X hP hD hS (mX9_holds hg) okX9_holds wl_X11_135 wi_X9_holds ws_X9_X9_holds_X9_holds ⟨rfl, rfl, Nat.le_of_ble_eq_true rfl, Nat.le_of_ble_eq_true rfl⟩ 9 0 rfl rfl [2, 3] [0, 1, 4, 5, 6, 7, 8, 9] ⟨rfl, rfl, rfl, rfl, by decide⟩ rfl hl.1 (Nat.le_of_ble_eq_true rfl) dX11_pour_95 (fun H locs hP hD hS => ?_)
                    have hP := hP.sub (ws' := (w11 ca qC (.ref (qA 0)) (rC4) (rC6) (rC7) (rC10) (rC11) (rC12) (rC14) (rC15) (rC17) (rC18) (rC19) SC ++ wLT ca qA (rf4 (qY0 0) (qY1 0) (qY2 0) (qY3 0)) ++ w9 ca qY0 SY0 ++ w9 ca qY1 SY1 ++ w9 ca qY2 SY2 ++ w9 ca qY3 SY3)) [0, 1, 8, 9, 2, 3, 4, 5, 6, 7] rfl
                    have hD := hD.sub (ws' := (w11 ca qC (.ref (qA 0)) (rC4) (rC6) (rC7) (rC10) (rC11) (rC12) (rC14) (rC15) (rC17) (rC18) (rC19) SC ++ wLT ca qA (rf4 (qY0 0) (qY1 0) (qY2 0) (qY3 0)) ++ w9 ca qY0 SY0 ++ w9 ca qY1 SY1 ++ w9 ca qY2 SY2 ++ w9 ca qY3 SY3)) [0, 1, 8, 9, 2, 3, 4, 5, 6, 7] rfl rfl
                    refine lv_if_eq (tgt := 113) hx hb dX11_pour_98 (by decide) (fun hc => ?_) (fun hc => ?_)
                    · have hf := tc_pos hc hf
                      exact tX11_pour_113 X z SC SY0 SY1 SY2 SY3 hf _ _ _ hP hD hS (lv_sub hl [2] rfl)
                    · have hf := tc_neg hc hf
                      refine lv_aload hx hb dX11_pour_101 (lv_at hl 0 rfl) ?_
                      refine lv_iload hx hb dX11_pour_103 (lv_at hl 6 rfl) ?_
                      refine lv_iload hx hb dX11_pour_105 (lv_at hl 7 rfl) ?_
                      obtain ⟨z19, hg, hf⟩ := tc_bi hf
                      refine tc_iV (As := [.int (a4), .int (a5)]) (rest := []) (b := qY1 0) (wc := w9 ca qY1 SY1) (wr := w11 ca qC (.ref (qA 0)) (rC4) (rC6) (rC7) (rC10) (rC11) (rC12) (rC14) (rC15) (rC17) (rC18) (rC19) SC ++ wLT ca qA (rf4 (qY0 0) (qY1 0) (qY2 0) (qY3 0)) ++ w9 ca qY0 SY0 ++ w9 ca qY2 SY2 ++ w9 ca qY3 SY3) X hP hD hS (mX9_holds hg) okX9_holds wl_X11_135 wi_X9_holds ws_X9_X9_holds_X9_holds ⟨rfl, rfl, Nat.le_of_ble_eq_true rfl, Nat.le_of_ble_eq_true rfl⟩ 9 0 rfl rfl [4, 5] [0, 1, 2, 3, 6, 7, 8, 9] ⟨rfl, rfl, rfl, rfl, by decide⟩ rfl hl.1 (Nat.le_of_ble_eq_true rfl) dX11_pour_107 (fun H locs hP hD hS => ?_)
                      have hP := hP.sub (ws' := (w11 ca qC (.ref (qA 0)) (rC4) (rC6) (rC7) (rC10) (rC11) (rC12) (rC14) (rC15) (rC17) (rC18) (rC19) SC ++ wLT ca qA (rf4 (qY0 0) (qY1 0) (qY2 0) (qY3 0)) ++ w9 ca qY0 SY0 ++ w9 ca qY1 SY1 ++ w9 ca qY2 SY2 ++ w9 ca qY3 SY3)) [0, 1, 2, 3, 8, 9, 4, 5, 6, 7] rfl
                      have hD := hD.sub (ws' := (w11 ca qC (.ref (qA 0)) (rC4) (rC6) (rC7) (rC10) (rC11) (rC12) (rC14) (rC15) (rC17) (rC18) (rC19) SC ++ wLT ca qA (rf4 (qY0 0) (qY1 0) (qY2 0) (qY3 0)) ++ w9 ca qY0 SY0 ++ w9 ca qY1 SY1 ++ w9 ca qY2 SY2 ++ w9 ca qY3 SY3)) [0, 1, 2, 3, 8, 9, 4, 5, 6, 7] rfl rfl
                      refine lv_if_ne (tgt := 119) hx hb dX11_pour_110 (by decide) (fun hc => ?_) (fun hc => ?_)
                      · have hf := tc_neg hc hf
                        refine lv_aload hx hb dX11_pour_119 (lv_at hl 1 rfl) ?_
                        refine va_get (D := (dC, dI)) (ci := 9) (v := .ref (qY0 1)) (C := RX9) (T := TX9) (N := 3) hx hb hts i_X9 hown hK hP 2 rfl rfl 0 (by decide) (hts _ wf_X11_125) (fun _ h9 => h9) rfl dX11_pour_121 ?_
                        refine lv_iload_n hx hb dX11_pour_124 rfl (lv_at hl 4 rfl) ?_
                        refine lv_aload hx hb dX11_pour_125 (lv_at hl 0 rfl) ?_
                        refine va_get (D := (dC, dI)) (ci := 9) (v := .ref (qY1 1)) (C := RX9) (T := TX9) (N := 3) hx hb hts i_X9 hown hK hP 4 rfl rfl 0 (by decide) (hts _ wf_X11_125) (fun _ h9 => h9) rfl dX11_pour_127 ?_
                        refine lv_iload hx hb dX11_pour_130 (lv_at hl 6 rfl) ?_
                        refine lv_iload hx hb dX11_pour_132 (lv_at hl 7 rfl) ?_
                        obtain ⟨hc20, hf⟩ := tc_ck hf
                        refine tc_cpl (rest := []) X hl.1 wl_X11_139 hP hD hS 3 5 2 2 rfl rfl rfl rfl hc20 (Nat.le_of_ble_eq_true rfl) (Nat.le_of_ble_eq_true rfl) dX11_pour_134 (fun H locs hP hD hS => ?_)
                        have hP := tc_eP (cwm22_3_1 ca qC qA qY0 qY1 qY2 qY3 (rf4 (qY0 0) (qY1 0) (qY2 0) (qY3 0)) (.ref (qA 0)) (rC4) (rC6) (rC7) (rC10) (rC11) (rC12) (rC14) (rC15) (rC17) (rC18) (rC19) SC SY0 SY1 SY2 SY3 (cpl (rl SY0 1) (rl SY1 1) a2 a4 a5)) hP
                        have hD := tc_eD (cwm22_3_1 ca qC qA qY0 qY1 qY2 qY3 (rf4 (qY0 0) (qY1 0) (qY2 0) (qY3 0)) (.ref (qA 0)) (rC4) (rC6) (rC7) (rC10) (rC11) (rC12) (rC14) (rC15) (rC17) (rC18) (rC19) SC SY0 SY1 SY2 SY3 (cpl (rl SY0 1) (rl SY1 1) a2 a4 a5)) hD
                        refine lv_aload_n hx hb dX11_pour_137 rfl (lv_at hl 2 rfl) ?_
                        obtain ⟨z21, hg, hf⟩ := tc_bi hf
                        refine tc_iV (As := []) (rest := []) (b := qC 0) (wc := w11 ca qC (.ref (qA 0)) (rC4) (rC6) (rC7) (rC10) (rC11) (rC12) (rC14) (rC15) (rC17) (rC18) (rC19) SC) (wr := wLT ca qA (rf4 (qY0 0) (qY1 0) (qY2 0) (qY3 0)) ++ w9 ca qY0 SY0 ++ w9 ca qY1 (sR SY1 1 (cpl (rl SY0 1) (rl SY1 1) a2 a4 a5)) ++ w9 ca qY2 SY2 ++ w9 ca qY3 SY3) X hP hD hS (mX11_grant hg) okX11_grant wl_X11_109 wi_X11_grant ws_X11_X11_grant_X11_grant ⟨rfl, rfl, Nat.le_of_ble_eq_true rfl, Nat.le_of_ble_eq_true rfl⟩ 11 0 rfl rfl [0] [1, 2, 3, 4, 5, 6, 7, 8, 9] ⟨rfl, rfl, rfl, rfl, by decide⟩ rfl hl.1 (Nat.le_of_ble_eq_true rfl) dX11_pour_138 (fun H locs hP hD hS => ?_)
                        have hP := hP.sub (ws' := (w11 ca qC (.ref (qA 0)) (rC4) (rC6) (rC7) (rC10) (rC11) (rC12) (rC14) (rC15) (rC17) (rC18) (rC19) z21.2 ++ wLT ca qA (rf4 (qY0 0) (qY1 0) (qY2 0) (qY3 0)) ++ w9 ca qY0 SY0 ++ w9 ca qY1 (sR SY1 1 (cpl (rl SY0 1) (rl SY1 1) a2 a4 a5)) ++ w9 ca qY2 SY2 ++ w9 ca qY3 SY3)) [9, 0, 1, 2, 3, 4, 5, 6, 7, 8] rfl
                        have hD := hD.sub (ws' := (w11 ca qC (.ref (qA 0)) (rC4) (rC6) (rC7) (rC10) (rC11) (rC12) (rC14) (rC15) (rC17) (rC18) (rC19) z21.2 ++ wLT ca qA (rf4 (qY0 0) (qY1 0) (qY2 0) (qY3 0)) ++ w9 ca qY0 SY0 ++ w9 ca qY1 (sR SY1 1 (cpl (rl SY0 1) (rl SY1 1) a2 a4 a5)) ++ w9 ca qY2 SY2 ++ w9 ca qY3 SY3)) [9, 0, 1, 2, 3, 4, 5, 6, 7, 8] rfl rfl
                        obtain ⟨hz1, hf⟩ := tc_ck hf
                        obtain rfl := Option.some.inj hf
                        exact tc_rz X hP hD hS rfl dX11_pour_141 hz1 rfl rfl
                      · have hf := tc_pos hc hf
                        exact tX11_pour_113 X z SC SY0 SY1 SY2 SY3 hf _ _ _ hP hD hS (lv_sub hl [2] rfl)
                  · have hf := tc_neg hc hf
                    refine lv_aload_n hx hb dX11_pour_83 rfl (lv_at hl 2 rfl) ?_
                    refine lv_bipush (v := (6 : Int32)) hx hb dX11_pour_84 (by decide) ?_
                    obtain ⟨z22, hg, hf⟩ := tc_bi hf
                    refine tc_iV (As := [.int ((6 : Int32))]) (rest := []) (b := qC 0) (wc := w11 ca qC (.ref (qA 0)) (rC4) (rC6) (rC7) (rC10) (rC11) (rC12) (rC14) (rC15) (rC17) (rC18) (rC19) SC) (wr := wLT ca qA (rf4 (qY0 0) (qY1 0) (qY2 0) (qY3 0)) ++ w9 ca qY0 SY0 ++ w9 ca qY1 SY1 ++ w9 ca qY2 SY2 ++ w9 ca qY3 SY3) X hP hD hS (mX11_deny hg) okX11_deny wl_X11_102 wi_X11_deny ws_X11_X11_deny_X11_deny ⟨rfl, rfl, Nat.le_of_ble_eq_true rfl, Nat.le_of_ble_eq_true rfl⟩ 11 0 rfl rfl [0] [1, 2, 3, 4, 5, 6, 7, 8, 9] ⟨rfl, rfl, rfl, rfl, by decide⟩ rfl hl.1 (Nat.le_of_ble_eq_true rfl) dX11_pour_86 (fun H locs hP hD hS => ?_)
                    have hP := hP.sub (ws' := (w11 ca qC (.ref (qA 0)) (rC4) (rC6) (rC7) (rC10) (rC11) (rC12) (rC14) (rC15) (rC17) (rC18) (rC19) z22.2 ++ wLT ca qA (rf4 (qY0 0) (qY1 0) (qY2 0) (qY3 0)) ++ w9 ca qY0 SY0 ++ w9 ca qY1 SY1 ++ w9 ca qY2 SY2 ++ w9 ca qY3 SY3)) [9, 0, 1, 2, 3, 4, 5, 6, 7, 8] rfl
                    have hD := hD.sub (ws' := (w11 ca qC (.ref (qA 0)) (rC4) (rC6) (rC7) (rC10) (rC11) (rC12) (rC14) (rC15) (rC17) (rC18) (rC19) z22.2 ++ wLT ca qA (rf4 (qY0 0) (qY1 0) (qY2 0) (qY3 0)) ++ w9 ca qY0 SY0 ++ w9 ca qY1 SY1 ++ w9 ca qY2 SY2 ++ w9 ca qY3 SY3)) [9, 0, 1, 2, 3, 4, 5, 6, 7, 8] rfl rfl
                    obtain ⟨hz1, hf⟩ := tc_ck hf
                    obtain rfl := Option.some.inj hf
                    exact tc_rz X hP hD hS rfl dX11_pour_89 hz1 rfl rfl
                · have hf := tc_neg hc hf
                  refine lv_aload_n hx hb dX11_pour_71 rfl (lv_at hl 2 rfl) ?_
                  refine lv_bipush (v := (11 : Int32)) hx hb dX11_pour_72 (by decide) ?_
                  obtain ⟨z23, hg, hf⟩ := tc_bi hf
                  refine tc_iV (As := [.int ((11 : Int32))]) (rest := []) (b := qC 0) (wc := w11 ca qC (.ref (qA 0)) (rC4) (rC6) (rC7) (rC10) (rC11) (rC12) (rC14) (rC15) (rC17) (rC18) (rC19) SC) (wr := wLT ca qA (rf4 (qY0 0) (qY1 0) (qY2 0) (qY3 0)) ++ w9 ca qY0 SY0 ++ w9 ca qY1 SY1 ++ w9 ca qY2 SY2 ++ w9 ca qY3 SY3) X hP hD hS (mX11_deny hg) okX11_deny wl_X11_102 wi_X11_deny ws_X11_X11_deny_X11_deny ⟨rfl, rfl, Nat.le_of_ble_eq_true rfl, Nat.le_of_ble_eq_true rfl⟩ 11 0 rfl rfl [0] [1, 2, 3, 4, 5, 6, 7, 8, 9] ⟨rfl, rfl, rfl, rfl, by decide⟩ rfl hl.1 (Nat.le_of_ble_eq_true rfl) dX11_pour_74 (fun H locs hP hD hS => ?_)
                  have hP := hP.sub (ws' := (w11 ca qC (.ref (qA 0)) (rC4) (rC6) (rC7) (rC10) (rC11) (rC12) (rC14) (rC15) (rC17) (rC18) (rC19) z23.2 ++ wLT ca qA (rf4 (qY0 0) (qY1 0) (qY2 0) (qY3 0)) ++ w9 ca qY0 SY0 ++ w9 ca qY1 SY1 ++ w9 ca qY2 SY2 ++ w9 ca qY3 SY3)) [9, 0, 1, 2, 3, 4, 5, 6, 7, 8] rfl
                  have hD := hD.sub (ws' := (w11 ca qC (.ref (qA 0)) (rC4) (rC6) (rC7) (rC10) (rC11) (rC12) (rC14) (rC15) (rC17) (rC18) (rC19) z23.2 ++ wLT ca qA (rf4 (qY0 0) (qY1 0) (qY2 0) (qY3 0)) ++ w9 ca qY0 SY0 ++ w9 ca qY1 SY1 ++ w9 ca qY2 SY2 ++ w9 ca qY3 SY3)) [9, 0, 1, 2, 3, 4, 5, 6, 7, 8] rfl rfl
                  obtain ⟨hz1, hf⟩ := tc_ck hf
                  obtain rfl := Option.some.inj hf
                  exact tc_rz X hP hD hS rfl dX11_pour_77 hz1 rfl rfl
              · have hf := tc_neg hc hf
                exact tX11_pour_52 X z SC SY0 SY1 SY2 SY3 hf _ _ _ hP hD hS (lv_sub hl [2] rfl)
          · have hf := tc_neg hq5_1 hf
            by_cases hq5_2 : a3 = (2 : Int32)
            · have hf := tc_pos hq5_2 hf
              refine tc_ald (b := qY2 0) X hP 1 4 rfl rfl 2 (by rw [hq5_2]; decide) (by rw [hq5_2]; exact inb_vp (by decide)) rfl dX11_pour_33 ?_
              refine lv_astore (lv' := [(7, .ref (qY2 0)), (6, .ref (qY0 0)), (0, .ref (qC 0)), (1, .int (a1)), (2, .int (a2)), (3, .int (a3)), (4, .int (a4)), (5, .int (a5))]) hx hb dX11_pour_34 hl (by decide) rfl (fun ls hl => ?_)
              refine lv_aload hx hb dX11_pour_36 (lv_at hl 1 rfl) ?_
              obtain ⟨z24, hg, hf⟩ := tc_bi hf
              refine tc_iV (As := []) (rest := []) (b := qY0 0) (wc := w9 ca qY0 SY0) (wr := w11 ca qC (.ref (qA 0)) (rC4) (rC6) (rC7) (rC10) (rC11) (rC12) (rC14) (rC15) (rC17) (rC18) (rC19) SC ++ wLT ca qA (rf4 (qY0 0) (qY1 0) (qY2 0) (qY3 0)) ++ w9 ca qY1 SY1 ++ w9 ca qY2 SY2 ++ w9 ca qY3 SY3) X hP hD hS (mX9_isMissing hg) okX9_isMissing wl_X11_129 wi_X9_isMissing ws_X9_X9_isMissing_X9_isMissing ⟨rfl, rfl, Nat.le_of_ble_eq_true rfl, Nat.le_of_ble_eq_true rfl⟩ 9 0 rfl rfl [2, 3] [0, 1, 4, 5, 6, 7, 8, 9] ⟨rfl, rfl, rfl, rfl, by decide⟩ rfl hl.1 (Nat.le_of_ble_eq_true rfl) dX11_pour_38 (fun H locs hP hD hS => ?_)
              have hP := hP.sub (ws' := (w11 ca qC (.ref (qA 0)) (rC4) (rC6) (rC7) (rC10) (rC11) (rC12) (rC14) (rC15) (rC17) (rC18) (rC19) SC ++ wLT ca qA (rf4 (qY0 0) (qY1 0) (qY2 0) (qY3 0)) ++ w9 ca qY0 SY0 ++ w9 ca qY1 SY1 ++ w9 ca qY2 SY2 ++ w9 ca qY3 SY3)) [0, 1, 8, 9, 2, 3, 4, 5, 6, 7] rfl
              have hD := hD.sub (ws' := (w11 ca qC (.ref (qA 0)) (rC4) (rC6) (rC7) (rC10) (rC11) (rC12) (rC14) (rC15) (rC17) (rC18) (rC19) SC ++ wLT ca qA (rf4 (qY0 0) (qY1 0) (qY2 0) (qY3 0)) ++ w9 ca qY0 SY0 ++ w9 ca qY1 SY1 ++ w9 ca qY2 SY2 ++ w9 ca qY3 SY3)) [0, 1, 8, 9, 2, 3, 4, 5, 6, 7] rfl rfl
              refine lv_if_ne (tgt := 52) hx hb dX11_pour_41 (by decide) (fun hc => ?_) (fun hc => ?_)
              · have hf := tc_neg hc hf
                exact tX11_pour_52 X z SC SY0 SY1 SY2 SY3 hf _ _ _ hP hD hS (lv_sub hl [2] rfl)
              · have hf := tc_pos hc hf
                refine lv_aload hx hb dX11_pour_44 (lv_at hl 0 rfl) ?_
                obtain ⟨z25, hg, hf⟩ := tc_bi hf
                refine tc_iV (As := []) (rest := []) (b := qY2 0) (wc := w9 ca qY2 SY2) (wr := w11 ca qC (.ref (qA 0)) (rC4) (rC6) (rC7) (rC10) (rC11) (rC12) (rC14) (rC15) (rC17) (rC18) (rC19) SC ++ wLT ca qA (rf4 (qY0 0) (qY1 0) (qY2 0) (qY3 0)) ++ w9 ca qY0 SY0 ++ w9 ca qY1 SY1 ++ w9 ca qY3 SY3) X hP hD hS (mX9_isMissing hg) okX9_isMissing wl_X11_129 wi_X9_isMissing ws_X9_X9_isMissing_X9_isMissing ⟨rfl, rfl, Nat.le_of_ble_eq_true rfl, Nat.le_of_ble_eq_true rfl⟩ 9 0 rfl rfl [6, 7] [0, 1, 2, 3, 4, 5, 8, 9] ⟨rfl, rfl, rfl, rfl, by decide⟩ rfl hl.1 (Nat.le_of_ble_eq_true rfl) dX11_pour_46 (fun H locs hP hD hS => ?_)
                have hP := hP.sub (ws' := (w11 ca qC (.ref (qA 0)) (rC4) (rC6) (rC7) (rC10) (rC11) (rC12) (rC14) (rC15) (rC17) (rC18) (rC19) SC ++ wLT ca qA (rf4 (qY0 0) (qY1 0) (qY2 0) (qY3 0)) ++ w9 ca qY0 SY0 ++ w9 ca qY1 SY1 ++ w9 ca qY2 SY2 ++ w9 ca qY3 SY3)) [0, 1, 2, 3, 4, 5, 8, 9, 6, 7] rfl
                have hD := hD.sub (ws' := (w11 ca qC (.ref (qA 0)) (rC4) (rC6) (rC7) (rC10) (rC11) (rC12) (rC14) (rC15) (rC17) (rC18) (rC19) SC ++ wLT ca qA (rf4 (qY0 0) (qY1 0) (qY2 0) (qY3 0)) ++ w9 ca qY0 SY0 ++ w9 ca qY1 SY1 ++ w9 ca qY2 SY2 ++ w9 ca qY3 SY3)) [0, 1, 2, 3, 4, 5, 8, 9, 6, 7] rfl rfl
                refine lv_if_eq (tgt := 58) hx hb dX11_pour_49 (by decide) (fun hc => ?_) (fun hc => ?_)
                · have hf := tc_pos hc hf
                  refine lv_aload hx hb dX11_pour_58 (lv_at hl 1 rfl) ?_
                  refine va_get (D := (dC, dI)) (ci := 9) (v := .int (gi SY0 1)) (C := RX9) (T := TX9) (N := 3) hx hb hts i_X9 hown hK hP 2 rfl rfl 1 (by decide) (hts _ wf_X11_132) (fun _ h9 => h9) rfl dX11_pour_60 ?_
                  refine lv_aload hx hb dX11_pour_63 (lv_at hl 0 rfl) ?_
                  refine va_get (D := (dC, dI)) (ci := 9) (v := .int (gi SY2 1)) (C := RX9) (T := TX9) (N := 3) hx hb hts i_X9 hown hK hP 6 rfl rfl 1 (by decide) (hts _ wf_X11_132) (fun _ h9 => h9) rfl dX11_pour_65 ?_
                  refine lv_icmp_eq (tgt := 78) hx hb dX11_pour_68 (by decide) (fun hc => ?_) (fun hc => ?_)
                  · have hf := tc_pos hc hf
                    refine lv_iload hx hb dX11_pour_78 (lv_at hl 7 rfl) ?_
                    refine lv_if_ge (tgt := 90) hx hb dX11_pour_80 (by decide) (fun hc => ?_) (fun hc => ?_)
                    · have hf := tc_pos hc hf
                      refine lv_aload hx hb dX11_pour_90 (lv_at hl 1 rfl) ?_
                      refine lv_iload_n hx hb dX11_pour_92 rfl (lv_at hl 4 rfl) ?_
                      refine lv_iload hx hb dX11_pour_93 (lv_at hl 7 rfl) ?_
                      obtain ⟨z26, hg, hf⟩ := tc_bi hf
                      refine tc_iV (As := [.int (a2), .int (a5)]) (rest := []) (b := qY0 0) (wc := w9 ca qY0 SY0) (wr := w11 ca qC (.ref (qA 0)) (rC4) (rC6) (rC7) (rC10) (rC11) (rC12) (rC14) (rC15) (rC17) (rC18) (rC19) SC ++ wLT ca qA (rf4 (qY0 0) (qY1 0) (qY2 0) (qY3 0)) ++ w9 ca qY1 SY1 ++ w9 ca qY2 SY2 ++ w9 ca qY3 SY3) X hP hD hS (mX9_holds hg) okX9_holds wl_X11_135 wi_X9_holds ws_X9_X9_holds_X9_holds ⟨rfl, rfl, Nat.le_of_ble_eq_true rfl, Nat.le_of_ble_eq_true rfl⟩ 9 0 rfl rfl [2, 3] [0, 1, 4, 5, 6, 7, 8, 9] ⟨rfl, rfl, rfl, rfl, by decide⟩ rfl hl.1 (Nat.le_of_ble_eq_true rfl) dX11_pour_95 (fun H locs hP hD hS => ?_)
                      have hP := hP.sub (ws' := (w11 ca qC (.ref (qA 0)) (rC4) (rC6) (rC7) (rC10) (rC11) (rC12) (rC14) (rC15) (rC17) (rC18) (rC19) SC ++ wLT ca qA (rf4 (qY0 0) (qY1 0) (qY2 0) (qY3 0)) ++ w9 ca qY0 SY0 ++ w9 ca qY1 SY1 ++ w9 ca qY2 SY2 ++ w9 ca qY3 SY3)) [0, 1, 8, 9, 2, 3, 4, 5, 6, 7] rfl
                      have hD := hD.sub (ws' := (w11 ca qC (.ref (qA 0)) (rC4) (rC6) (rC7) (rC10) (rC11) (rC12) (rC14) (rC15) (rC17) (rC18) (rC19) SC ++ wLT ca qA (rf4 (qY0 0) (qY1 0) (qY2 0) (qY3 0)) ++ w9 ca qY0 SY0 ++ w9 ca qY1 SY1 ++ w9 ca qY2 SY2 ++ w9 ca qY3 SY3)) [0, 1, 8, 9, 2, 3, 4, 5, 6, 7] rfl rfl
                      refine lv_if_eq (tgt := 113) hx hb dX11_pour_98 (by decide) (fun hc => ?_) (fun hc => ?_)
                      · have hf := tc_pos hc hf
                        exact tX11_pour_113 X z SC SY0 SY1 SY2 SY3 hf _ _ _ hP hD hS (lv_sub hl [2] rfl)
                      · have hf := tc_neg hc hf
                        refine lv_aload hx hb dX11_pour_101 (lv_at hl 0 rfl) ?_
                        refine lv_iload hx hb dX11_pour_103 (lv_at hl 6 rfl) ?_
                        refine lv_iload hx hb dX11_pour_105 (lv_at hl 7 rfl) ?_
                        obtain ⟨z27, hg, hf⟩ := tc_bi hf
                        refine tc_iV (As := [.int (a4), .int (a5)]) (rest := []) (b := qY2 0) (wc := w9 ca qY2 SY2) (wr := w11 ca qC (.ref (qA 0)) (rC4) (rC6) (rC7) (rC10) (rC11) (rC12) (rC14) (rC15) (rC17) (rC18) (rC19) SC ++ wLT ca qA (rf4 (qY0 0) (qY1 0) (qY2 0) (qY3 0)) ++ w9 ca qY0 SY0 ++ w9 ca qY1 SY1 ++ w9 ca qY3 SY3) X hP hD hS (mX9_holds hg) okX9_holds wl_X11_135 wi_X9_holds ws_X9_X9_holds_X9_holds ⟨rfl, rfl, Nat.le_of_ble_eq_true rfl, Nat.le_of_ble_eq_true rfl⟩ 9 0 rfl rfl [6, 7] [0, 1, 2, 3, 4, 5, 8, 9] ⟨rfl, rfl, rfl, rfl, by decide⟩ rfl hl.1 (Nat.le_of_ble_eq_true rfl) dX11_pour_107 (fun H locs hP hD hS => ?_)
                        have hP := hP.sub (ws' := (w11 ca qC (.ref (qA 0)) (rC4) (rC6) (rC7) (rC10) (rC11) (rC12) (rC14) (rC15) (rC17) (rC18) (rC19) SC ++ wLT ca qA (rf4 (qY0 0) (qY1 0) (qY2 0) (qY3 0)) ++ w9 ca qY0 SY0 ++ w9 ca qY1 SY1 ++ w9 ca qY2 SY2 ++ w9 ca qY3 SY3)) [0, 1, 2, 3, 4, 5, 8, 9, 6, 7] rfl
                        have hD := hD.sub (ws' := (w11 ca qC (.ref (qA 0)) (rC4) (rC6) (rC7) (rC10) (rC11) (rC12) (rC14) (rC15) (rC17) (rC18) (rC19) SC ++ wLT ca qA (rf4 (qY0 0) (qY1 0) (qY2 0) (qY3 0)) ++ w9 ca qY0 SY0 ++ w9 ca qY1 SY1 ++ w9 ca qY2 SY2 ++ w9 ca qY3 SY3)) [0, 1, 2, 3, 4, 5, 8, 9, 6, 7] rfl rfl
                        refine lv_if_ne (tgt := 119) hx hb dX11_pour_110 (by decide) (fun hc => ?_) (fun hc => ?_)
                        · have hf := tc_neg hc hf
                          refine lv_aload hx hb dX11_pour_119 (lv_at hl 1 rfl) ?_
                          refine va_get (D := (dC, dI)) (ci := 9) (v := .ref (qY0 1)) (C := RX9) (T := TX9) (N := 3) hx hb hts i_X9 hown hK hP 2 rfl rfl 0 (by decide) (hts _ wf_X11_125) (fun _ h9 => h9) rfl dX11_pour_121 ?_
                          refine lv_iload_n hx hb dX11_pour_124 rfl (lv_at hl 4 rfl) ?_
                          refine lv_aload hx hb dX11_pour_125 (lv_at hl 0 rfl) ?_
                          refine va_get (D := (dC, dI)) (ci := 9) (v := .ref (qY2 1)) (C := RX9) (T := TX9) (N := 3) hx hb hts i_X9 hown hK hP 6 rfl rfl 0 (by decide) (hts _ wf_X11_125) (fun _ h9 => h9) rfl dX11_pour_127 ?_
                          refine lv_iload hx hb dX11_pour_130 (lv_at hl 6 rfl) ?_
                          refine lv_iload hx hb dX11_pour_132 (lv_at hl 7 rfl) ?_
                          obtain ⟨hc28, hf⟩ := tc_ck hf
                          refine tc_cpl (rest := []) X hl.1 wl_X11_139 hP hD hS 3 7 2 2 rfl rfl rfl rfl hc28 (Nat.le_of_ble_eq_true rfl) (Nat.le_of_ble_eq_true rfl) dX11_pour_134 (fun H locs hP hD hS => ?_)
                          have hP := tc_eP (cwm22_4_1 ca qC qA qY0 qY1 qY2 qY3 (rf4 (qY0 0) (qY1 0) (qY2 0) (qY3 0)) (.ref (qA 0)) (rC4) (rC6) (rC7) (rC10) (rC11) (rC12) (rC14) (rC15) (rC17) (rC18) (rC19) SC SY0 SY1 SY2 SY3 (cpl (rl SY0 1) (rl SY2 1) a2 a4 a5)) hP
                          have hD := tc_eD (cwm22_4_1 ca qC qA qY0 qY1 qY2 qY3 (rf4 (qY0 0) (qY1 0) (qY2 0) (qY3 0)) (.ref (qA 0)) (rC4) (rC6) (rC7) (rC10) (rC11) (rC12) (rC14) (rC15) (rC17) (rC18) (rC19) SC SY0 SY1 SY2 SY3 (cpl (rl SY0 1) (rl SY2 1) a2 a4 a5)) hD
                          refine lv_aload_n hx hb dX11_pour_137 rfl (lv_at hl 2 rfl) ?_
                          obtain ⟨z29, hg, hf⟩ := tc_bi hf
                          refine tc_iV (As := []) (rest := []) (b := qC 0) (wc := w11 ca qC (.ref (qA 0)) (rC4) (rC6) (rC7) (rC10) (rC11) (rC12) (rC14) (rC15) (rC17) (rC18) (rC19) SC) (wr := wLT ca qA (rf4 (qY0 0) (qY1 0) (qY2 0) (qY3 0)) ++ w9 ca qY0 SY0 ++ w9 ca qY1 SY1 ++ w9 ca qY2 (sR SY2 1 (cpl (rl SY0 1) (rl SY2 1) a2 a4 a5)) ++ w9 ca qY3 SY3) X hP hD hS (mX11_grant hg) okX11_grant wl_X11_109 wi_X11_grant ws_X11_X11_grant_X11_grant ⟨rfl, rfl, Nat.le_of_ble_eq_true rfl, Nat.le_of_ble_eq_true rfl⟩ 11 0 rfl rfl [0] [1, 2, 3, 4, 5, 6, 7, 8, 9] ⟨rfl, rfl, rfl, rfl, by decide⟩ rfl hl.1 (Nat.le_of_ble_eq_true rfl) dX11_pour_138 (fun H locs hP hD hS => ?_)
                          have hP := hP.sub (ws' := (w11 ca qC (.ref (qA 0)) (rC4) (rC6) (rC7) (rC10) (rC11) (rC12) (rC14) (rC15) (rC17) (rC18) (rC19) z29.2 ++ wLT ca qA (rf4 (qY0 0) (qY1 0) (qY2 0) (qY3 0)) ++ w9 ca qY0 SY0 ++ w9 ca qY1 SY1 ++ w9 ca qY2 (sR SY2 1 (cpl (rl SY0 1) (rl SY2 1) a2 a4 a5)) ++ w9 ca qY3 SY3)) [9, 0, 1, 2, 3, 4, 5, 6, 7, 8] rfl
                          have hD := hD.sub (ws' := (w11 ca qC (.ref (qA 0)) (rC4) (rC6) (rC7) (rC10) (rC11) (rC12) (rC14) (rC15) (rC17) (rC18) (rC19) z29.2 ++ wLT ca qA (rf4 (qY0 0) (qY1 0) (qY2 0) (qY3 0)) ++ w9 ca qY0 SY0 ++ w9 ca qY1 SY1 ++ w9 ca qY2 (sR SY2 1 (cpl (rl SY0 1) (rl SY2 1) a2 a4 a5)) ++ w9 ca qY3 SY3)) [9, 0, 1, 2, 3, 4, 5, 6, 7, 8] rfl rfl
                          obtain ⟨hz1, hf⟩ := tc_ck hf
                          obtain rfl := Option.some.inj hf
                          exact tc_rz X hP hD hS rfl dX11_pour_141 hz1 rfl rfl
                        · have hf := tc_pos hc hf
                          exact tX11_pour_113 X z SC SY0 SY1 SY2 SY3 hf _ _ _ hP hD hS (lv_sub hl [2] rfl)
                    · have hf := tc_neg hc hf
                      refine lv_aload_n hx hb dX11_pour_83 rfl (lv_at hl 2 rfl) ?_
                      refine lv_bipush (v := (6 : Int32)) hx hb dX11_pour_84 (by decide) ?_
                      obtain ⟨z30, hg, hf⟩ := tc_bi hf
                      refine tc_iV (As := [.int ((6 : Int32))]) (rest := []) (b := qC 0) (wc := w11 ca qC (.ref (qA 0)) (rC4) (rC6) (rC7) (rC10) (rC11) (rC12) (rC14) (rC15) (rC17) (rC18) (rC19) SC) (wr := wLT ca qA (rf4 (qY0 0) (qY1 0) (qY2 0) (qY3 0)) ++ w9 ca qY0 SY0 ++ w9 ca qY1 SY1 ++ w9 ca qY2 SY2 ++ w9 ca qY3 SY3) X hP hD hS (mX11_deny hg) okX11_deny wl_X11_102 wi_X11_deny ws_X11_X11_deny_X11_deny ⟨rfl, rfl, Nat.le_of_ble_eq_true rfl, Nat.le_of_ble_eq_true rfl⟩ 11 0 rfl rfl [0] [1, 2, 3, 4, 5, 6, 7, 8, 9] ⟨rfl, rfl, rfl, rfl, by decide⟩ rfl hl.1 (Nat.le_of_ble_eq_true rfl) dX11_pour_86 (fun H locs hP hD hS => ?_)
                      have hP := hP.sub (ws' := (w11 ca qC (.ref (qA 0)) (rC4) (rC6) (rC7) (rC10) (rC11) (rC12) (rC14) (rC15) (rC17) (rC18) (rC19) z30.2 ++ wLT ca qA (rf4 (qY0 0) (qY1 0) (qY2 0) (qY3 0)) ++ w9 ca qY0 SY0 ++ w9 ca qY1 SY1 ++ w9 ca qY2 SY2 ++ w9 ca qY3 SY3)) [9, 0, 1, 2, 3, 4, 5, 6, 7, 8] rfl
                      have hD := hD.sub (ws' := (w11 ca qC (.ref (qA 0)) (rC4) (rC6) (rC7) (rC10) (rC11) (rC12) (rC14) (rC15) (rC17) (rC18) (rC19) z30.2 ++ wLT ca qA (rf4 (qY0 0) (qY1 0) (qY2 0) (qY3 0)) ++ w9 ca qY0 SY0 ++ w9 ca qY1 SY1 ++ w9 ca qY2 SY2 ++ w9 ca qY3 SY3)) [9, 0, 1, 2, 3, 4, 5, 6, 7, 8] rfl rfl
                      obtain ⟨hz1, hf⟩ := tc_ck hf
                      obtain rfl := Option.some.inj hf
                      exact tc_rz X hP hD hS rfl dX11_pour_89 hz1 rfl rfl
                  · have hf := tc_neg hc hf
                    refine lv_aload_n hx hb dX11_pour_71 rfl (lv_at hl 2 rfl) ?_
                    refine lv_bipush (v := (11 : Int32)) hx hb dX11_pour_72 (by decide) ?_
                    obtain ⟨z31, hg, hf⟩ := tc_bi hf
                    refine tc_iV (As := [.int ((11 : Int32))]) (rest := []) (b := qC 0) (wc := w11 ca qC (.ref (qA 0)) (rC4) (rC6) (rC7) (rC10) (rC11) (rC12) (rC14) (rC15) (rC17) (rC18) (rC19) SC) (wr := wLT ca qA (rf4 (qY0 0) (qY1 0) (qY2 0) (qY3 0)) ++ w9 ca qY0 SY0 ++ w9 ca qY1 SY1 ++ w9 ca qY2 SY2 ++ w9 ca qY3 SY3) X hP hD hS (mX11_deny hg) okX11_deny wl_X11_102 wi_X11_deny ws_X11_X11_deny_X11_deny ⟨rfl, rfl, Nat.le_of_ble_eq_true rfl, Nat.le_of_ble_eq_true rfl⟩ 11 0 rfl rfl [0] [1, 2, 3, 4, 5, 6, 7, 8, 9] ⟨rfl, rfl, rfl, rfl, by decide⟩ rfl hl.1 (Nat.le_of_ble_eq_true rfl) dX11_pour_74 (fun H locs hP hD hS => ?_)
                    have hP := hP.sub (ws' := (w11 ca qC (.ref (qA 0)) (rC4) (rC6) (rC7) (rC10) (rC11) (rC12) (rC14) (rC15) (rC17) (rC18) (rC19) z31.2 ++ wLT ca qA (rf4 (qY0 0) (qY1 0) (qY2 0) (qY3 0)) ++ w9 ca qY0 SY0 ++ w9 ca qY1 SY1 ++ w9 ca qY2 SY2 ++ w9 ca qY3 SY3)) [9, 0, 1, 2, 3, 4, 5, 6, 7, 8] rfl
                    have hD := hD.sub (ws' := (w11 ca qC (.ref (qA 0)) (rC4) (rC6) (rC7) (rC10) (rC11) (rC12) (rC14) (rC15) (rC17) (rC18) (rC19) z31.2 ++ wLT ca qA (rf4 (qY0 0) (qY1 0) (qY2 0) (qY3 0)) ++ w9 ca qY0 SY0 ++ w9 ca qY1 SY1 ++ w9 ca qY2 SY2 ++ w9 ca qY3 SY3)) [9, 0, 1, 2, 3, 4, 5, 6, 7, 8] rfl rfl
                    obtain ⟨hz1, hf⟩ := tc_ck hf
                    obtain rfl := Option.some.inj hf
                    exact tc_rz X hP hD hS rfl dX11_pour_77 hz1 rfl rfl
                · have hf := tc_neg hc hf
                  exact tX11_pour_52 X z SC SY0 SY1 SY2 SY3 hf _ _ _ hP hD hS (lv_sub hl [2] rfl)
            · have hf := tc_neg hq5_2 hf
              by_cases hq5_3 : a3 = (3 : Int32)
              · have hf := tc_pos hq5_3 hf
                refine tc_ald (b := qY3 0) X hP 1 4 rfl rfl 3 (by rw [hq5_3]; decide) (by rw [hq5_3]; exact inb_vp (by decide)) rfl dX11_pour_33 ?_
                refine lv_astore (lv' := [(7, .ref (qY3 0)), (6, .ref (qY0 0)), (0, .ref (qC 0)), (1, .int (a1)), (2, .int (a2)), (3, .int (a3)), (4, .int (a4)), (5, .int (a5))]) hx hb dX11_pour_34 hl (by decide) rfl (fun ls hl => ?_)
                refine lv_aload hx hb dX11_pour_36 (lv_at hl 1 rfl) ?_
                obtain ⟨z32, hg, hf⟩ := tc_bi hf
                refine tc_iV (As := []) (rest := []) (b := qY0 0) (wc := w9 ca qY0 SY0) (wr := w11 ca qC (.ref (qA 0)) (rC4) (rC6) (rC7) (rC10) (rC11) (rC12) (rC14) (rC15) (rC17) (rC18) (rC19) SC ++ wLT ca qA (rf4 (qY0 0) (qY1 0) (qY2 0) (qY3 0)) ++ w9 ca qY1 SY1 ++ w9 ca qY2 SY2 ++ w9 ca qY3 SY3) X hP hD hS (mX9_isMissing hg) okX9_isMissing wl_X11_129 wi_X9_isMissing ws_X9_X9_isMissing_X9_isMissing ⟨rfl, rfl, Nat.le_of_ble_eq_true rfl, Nat.le_of_ble_eq_true rfl⟩ 9 0 rfl rfl [2, 3] [0, 1, 4, 5, 6, 7, 8, 9] ⟨rfl, rfl, rfl, rfl, by decide⟩ rfl hl.1 (Nat.le_of_ble_eq_true rfl) dX11_pour_38 (fun H locs hP hD hS => ?_)
                have hP := hP.sub (ws' := (w11 ca qC (.ref (qA 0)) (rC4) (rC6) (rC7) (rC10) (rC11) (rC12) (rC14) (rC15) (rC17) (rC18) (rC19) SC ++ wLT ca qA (rf4 (qY0 0) (qY1 0) (qY2 0) (qY3 0)) ++ w9 ca qY0 SY0 ++ w9 ca qY1 SY1 ++ w9 ca qY2 SY2 ++ w9 ca qY3 SY3)) [0, 1, 8, 9, 2, 3, 4, 5, 6, 7] rfl
                have hD := hD.sub (ws' := (w11 ca qC (.ref (qA 0)) (rC4) (rC6) (rC7) (rC10) (rC11) (rC12) (rC14) (rC15) (rC17) (rC18) (rC19) SC ++ wLT ca qA (rf4 (qY0 0) (qY1 0) (qY2 0) (qY3 0)) ++ w9 ca qY0 SY0 ++ w9 ca qY1 SY1 ++ w9 ca qY2 SY2 ++ w9 ca qY3 SY3)) [0, 1, 8, 9, 2, 3, 4, 5, 6, 7] rfl rfl
                refine lv_if_ne (tgt := 52) hx hb dX11_pour_41 (by decide) (fun hc => ?_) (fun hc => ?_)
                · have hf := tc_neg hc hf
                  exact tX11_pour_52 X z SC SY0 SY1 SY2 SY3 hf _ _ _ hP hD hS (lv_sub hl [2] rfl)
                · have hf := tc_pos hc hf
                  refine lv_aload hx hb dX11_pour_44 (lv_at hl 0 rfl) ?_
                  obtain ⟨z33, hg, hf⟩ := tc_bi hf
                  refine tc_iV (As := []) (rest := []) (b := qY3 0) (wc := w9 ca qY3 SY3) (wr := w11 ca qC (.ref (qA 0)) (rC4) (rC6) (rC7) (rC10) (rC11) (rC12) (rC14) (rC15) (rC17) (rC18) (rC19) SC ++ wLT ca qA (rf4 (qY0 0) (qY1 0) (qY2 0) (qY3 0)) ++ w9 ca qY0 SY0 ++ w9 ca qY1 SY1 ++ w9 ca qY2 SY2) X hP hD hS (mX9_isMissing hg) okX9_isMissing wl_X11_129 wi_X9_isMissing ws_X9_X9_isMissing_X9_isMissing ⟨rfl, rfl, Nat.le_of_ble_eq_true rfl, Nat.le_of_ble_eq_true rfl⟩ 9 0 rfl rfl [8, 9] [0, 1, 2, 3, 4, 5, 6, 7] ⟨rfl, rfl, rfl, rfl, by decide⟩ rfl hl.1 (Nat.le_of_ble_eq_true rfl) dX11_pour_46 (fun H locs hP hD hS => ?_)
                  have hP := hP.sub (ws' := (w11 ca qC (.ref (qA 0)) (rC4) (rC6) (rC7) (rC10) (rC11) (rC12) (rC14) (rC15) (rC17) (rC18) (rC19) SC ++ wLT ca qA (rf4 (qY0 0) (qY1 0) (qY2 0) (qY3 0)) ++ w9 ca qY0 SY0 ++ w9 ca qY1 SY1 ++ w9 ca qY2 SY2 ++ w9 ca qY3 SY3)) [0, 1, 2, 3, 4, 5, 6, 7, 8, 9] rfl
                  have hD := hD.sub (ws' := (w11 ca qC (.ref (qA 0)) (rC4) (rC6) (rC7) (rC10) (rC11) (rC12) (rC14) (rC15) (rC17) (rC18) (rC19) SC ++ wLT ca qA (rf4 (qY0 0) (qY1 0) (qY2 0) (qY3 0)) ++ w9 ca qY0 SY0 ++ w9 ca qY1 SY1 ++ w9 ca qY2 SY2 ++ w9 ca qY3 SY3)) [0, 1, 2, 3, 4, 5, 6, 7, 8, 9] rfl rfl
                  refine lv_if_eq (tgt := 58) hx hb dX11_pour_49 (by decide) (fun hc => ?_) (fun hc => ?_)
                  · have hf := tc_pos hc hf
                    refine lv_aload hx hb dX11_pour_58 (lv_at hl 1 rfl) ?_
                    refine va_get (D := (dC, dI)) (ci := 9) (v := .int (gi SY0 1)) (C := RX9) (T := TX9) (N := 3) hx hb hts i_X9 hown hK hP 2 rfl rfl 1 (by decide) (hts _ wf_X11_132) (fun _ h9 => h9) rfl dX11_pour_60 ?_
                    refine lv_aload hx hb dX11_pour_63 (lv_at hl 0 rfl) ?_
                    refine va_get (D := (dC, dI)) (ci := 9) (v := .int (gi SY3 1)) (C := RX9) (T := TX9) (N := 3) hx hb hts i_X9 hown hK hP 8 rfl rfl 1 (by decide) (hts _ wf_X11_132) (fun _ h9 => h9) rfl dX11_pour_65 ?_
                    refine lv_icmp_eq (tgt := 78) hx hb dX11_pour_68 (by decide) (fun hc => ?_) (fun hc => ?_)
                    · have hf := tc_pos hc hf
                      refine lv_iload hx hb dX11_pour_78 (lv_at hl 7 rfl) ?_
                      refine lv_if_ge (tgt := 90) hx hb dX11_pour_80 (by decide) (fun hc => ?_) (fun hc => ?_)
                      · have hf := tc_pos hc hf
                        refine lv_aload hx hb dX11_pour_90 (lv_at hl 1 rfl) ?_
                        refine lv_iload_n hx hb dX11_pour_92 rfl (lv_at hl 4 rfl) ?_
                        refine lv_iload hx hb dX11_pour_93 (lv_at hl 7 rfl) ?_
                        obtain ⟨z34, hg, hf⟩ := tc_bi hf
                        refine tc_iV (As := [.int (a2), .int (a5)]) (rest := []) (b := qY0 0) (wc := w9 ca qY0 SY0) (wr := w11 ca qC (.ref (qA 0)) (rC4) (rC6) (rC7) (rC10) (rC11) (rC12) (rC14) (rC15) (rC17) (rC18) (rC19) SC ++ wLT ca qA (rf4 (qY0 0) (qY1 0) (qY2 0) (qY3 0)) ++ w9 ca qY1 SY1 ++ w9 ca qY2 SY2 ++ w9 ca qY3 SY3) X hP hD hS (mX9_holds hg) okX9_holds wl_X11_135 wi_X9_holds ws_X9_X9_holds_X9_holds ⟨rfl, rfl, Nat.le_of_ble_eq_true rfl, Nat.le_of_ble_eq_true rfl⟩ 9 0 rfl rfl [2, 3] [0, 1, 4, 5, 6, 7, 8, 9] ⟨rfl, rfl, rfl, rfl, by decide⟩ rfl hl.1 (Nat.le_of_ble_eq_true rfl) dX11_pour_95 (fun H locs hP hD hS => ?_)
                        have hP := hP.sub (ws' := (w11 ca qC (.ref (qA 0)) (rC4) (rC6) (rC7) (rC10) (rC11) (rC12) (rC14) (rC15) (rC17) (rC18) (rC19) SC ++ wLT ca qA (rf4 (qY0 0) (qY1 0) (qY2 0) (qY3 0)) ++ w9 ca qY0 SY0 ++ w9 ca qY1 SY1 ++ w9 ca qY2 SY2 ++ w9 ca qY3 SY3)) [0, 1, 8, 9, 2, 3, 4, 5, 6, 7] rfl
                        have hD := hD.sub (ws' := (w11 ca qC (.ref (qA 0)) (rC4) (rC6) (rC7) (rC10) (rC11) (rC12) (rC14) (rC15) (rC17) (rC18) (rC19) SC ++ wLT ca qA (rf4 (qY0 0) (qY1 0) (qY2 0) (qY3 0)) ++ w9 ca qY0 SY0 ++ w9 ca qY1 SY1 ++ w9 ca qY2 SY2 ++ w9 ca qY3 SY3)) [0, 1, 8, 9, 2, 3, 4, 5, 6, 7] rfl rfl
                        refine lv_if_eq (tgt := 113) hx hb dX11_pour_98 (by decide) (fun hc => ?_) (fun hc => ?_)
                        · have hf := tc_pos hc hf
                          exact tX11_pour_113 X z SC SY0 SY1 SY2 SY3 hf _ _ _ hP hD hS (lv_sub hl [2] rfl)
                        · have hf := tc_neg hc hf
                          refine lv_aload hx hb dX11_pour_101 (lv_at hl 0 rfl) ?_
                          refine lv_iload hx hb dX11_pour_103 (lv_at hl 6 rfl) ?_
                          refine lv_iload hx hb dX11_pour_105 (lv_at hl 7 rfl) ?_
                          obtain ⟨z35, hg, hf⟩ := tc_bi hf
                          refine tc_iV (As := [.int (a4), .int (a5)]) (rest := []) (b := qY3 0) (wc := w9 ca qY3 SY3) (wr := w11 ca qC (.ref (qA 0)) (rC4) (rC6) (rC7) (rC10) (rC11) (rC12) (rC14) (rC15) (rC17) (rC18) (rC19) SC ++ wLT ca qA (rf4 (qY0 0) (qY1 0) (qY2 0) (qY3 0)) ++ w9 ca qY0 SY0 ++ w9 ca qY1 SY1 ++ w9 ca qY2 SY2) X hP hD hS (mX9_holds hg) okX9_holds wl_X11_135 wi_X9_holds ws_X9_X9_holds_X9_holds ⟨rfl, rfl, Nat.le_of_ble_eq_true rfl, Nat.le_of_ble_eq_true rfl⟩ 9 0 rfl rfl [8, 9] [0, 1, 2, 3, 4, 5, 6, 7] ⟨rfl, rfl, rfl, rfl, by decide⟩ rfl hl.1 (Nat.le_of_ble_eq_true rfl) dX11_pour_107 (fun H locs hP hD hS => ?_)
                          have hP := hP.sub (ws' := (w11 ca qC (.ref (qA 0)) (rC4) (rC6) (rC7) (rC10) (rC11) (rC12) (rC14) (rC15) (rC17) (rC18) (rC19) SC ++ wLT ca qA (rf4 (qY0 0) (qY1 0) (qY2 0) (qY3 0)) ++ w9 ca qY0 SY0 ++ w9 ca qY1 SY1 ++ w9 ca qY2 SY2 ++ w9 ca qY3 SY3)) [0, 1, 2, 3, 4, 5, 6, 7, 8, 9] rfl
                          have hD := hD.sub (ws' := (w11 ca qC (.ref (qA 0)) (rC4) (rC6) (rC7) (rC10) (rC11) (rC12) (rC14) (rC15) (rC17) (rC18) (rC19) SC ++ wLT ca qA (rf4 (qY0 0) (qY1 0) (qY2 0) (qY3 0)) ++ w9 ca qY0 SY0 ++ w9 ca qY1 SY1 ++ w9 ca qY2 SY2 ++ w9 ca qY3 SY3)) [0, 1, 2, 3, 4, 5, 6, 7, 8, 9] rfl rfl
                          refine lv_if_ne (tgt := 119) hx hb dX11_pour_110 (by decide) (fun hc => ?_) (fun hc => ?_)
                          · have hf := tc_neg hc hf
                            refine lv_aload hx hb dX11_pour_119 (lv_at hl 1 rfl) ?_
                            refine va_get (D := (dC, dI)) (ci := 9) (v := .ref (qY0 1)) (C := RX9) (T := TX9) (N := 3) hx hb hts i_X9 hown hK hP 2 rfl rfl 0 (by decide) (hts _ wf_X11_125) (fun _ h9 => h9) rfl dX11_pour_121 ?_
                            refine lv_iload_n hx hb dX11_pour_124 rfl (lv_at hl 4 rfl) ?_
                            refine lv_aload hx hb dX11_pour_125 (lv_at hl 0 rfl) ?_
                            refine va_get (D := (dC, dI)) (ci := 9) (v := .ref (qY3 1)) (C := RX9) (T := TX9) (N := 3) hx hb hts i_X9 hown hK hP 8 rfl rfl 0 (by decide) (hts _ wf_X11_125) (fun _ h9 => h9) rfl dX11_pour_127 ?_
                            refine lv_iload hx hb dX11_pour_130 (lv_at hl 6 rfl) ?_
                            refine lv_iload hx hb dX11_pour_132 (lv_at hl 7 rfl) ?_
                            obtain ⟨hc36, hf⟩ := tc_ck hf
                            refine tc_cpl (rest := []) X hl.1 wl_X11_139 hP hD hS 3 9 2 2 rfl rfl rfl rfl hc36 (Nat.le_of_ble_eq_true rfl) (Nat.le_of_ble_eq_true rfl) dX11_pour_134 (fun H locs hP hD hS => ?_)
                            have hP := tc_eP (cwm22_5_1 ca qC qA qY0 qY1 qY2 qY3 (rf4 (qY0 0) (qY1 0) (qY2 0) (qY3 0)) (.ref (qA 0)) (rC4) (rC6) (rC7) (rC10) (rC11) (rC12) (rC14) (rC15) (rC17) (rC18) (rC19) SC SY0 SY1 SY2 SY3 (cpl (rl SY0 1) (rl SY3 1) a2 a4 a5)) hP
                            have hD := tc_eD (cwm22_5_1 ca qC qA qY0 qY1 qY2 qY3 (rf4 (qY0 0) (qY1 0) (qY2 0) (qY3 0)) (.ref (qA 0)) (rC4) (rC6) (rC7) (rC10) (rC11) (rC12) (rC14) (rC15) (rC17) (rC18) (rC19) SC SY0 SY1 SY2 SY3 (cpl (rl SY0 1) (rl SY3 1) a2 a4 a5)) hD
                            refine lv_aload_n hx hb dX11_pour_137 rfl (lv_at hl 2 rfl) ?_
                            obtain ⟨z37, hg, hf⟩ := tc_bi hf
                            refine tc_iV (As := []) (rest := []) (b := qC 0) (wc := w11 ca qC (.ref (qA 0)) (rC4) (rC6) (rC7) (rC10) (rC11) (rC12) (rC14) (rC15) (rC17) (rC18) (rC19) SC) (wr := wLT ca qA (rf4 (qY0 0) (qY1 0) (qY2 0) (qY3 0)) ++ w9 ca qY0 SY0 ++ w9 ca qY1 SY1 ++ w9 ca qY2 SY2 ++ w9 ca qY3 (sR SY3 1 (cpl (rl SY0 1) (rl SY3 1) a2 a4 a5))) X hP hD hS (mX11_grant hg) okX11_grant wl_X11_109 wi_X11_grant ws_X11_X11_grant_X11_grant ⟨rfl, rfl, Nat.le_of_ble_eq_true rfl, Nat.le_of_ble_eq_true rfl⟩ 11 0 rfl rfl [0] [1, 2, 3, 4, 5, 6, 7, 8, 9] ⟨rfl, rfl, rfl, rfl, by decide⟩ rfl hl.1 (Nat.le_of_ble_eq_true rfl) dX11_pour_138 (fun H locs hP hD hS => ?_)
                            have hP := hP.sub (ws' := (w11 ca qC (.ref (qA 0)) (rC4) (rC6) (rC7) (rC10) (rC11) (rC12) (rC14) (rC15) (rC17) (rC18) (rC19) z37.2 ++ wLT ca qA (rf4 (qY0 0) (qY1 0) (qY2 0) (qY3 0)) ++ w9 ca qY0 SY0 ++ w9 ca qY1 SY1 ++ w9 ca qY2 SY2 ++ w9 ca qY3 (sR SY3 1 (cpl (rl SY0 1) (rl SY3 1) a2 a4 a5)))) [9, 0, 1, 2, 3, 4, 5, 6, 7, 8] rfl
                            have hD := hD.sub (ws' := (w11 ca qC (.ref (qA 0)) (rC4) (rC6) (rC7) (rC10) (rC11) (rC12) (rC14) (rC15) (rC17) (rC18) (rC19) z37.2 ++ wLT ca qA (rf4 (qY0 0) (qY1 0) (qY2 0) (qY3 0)) ++ w9 ca qY0 SY0 ++ w9 ca qY1 SY1 ++ w9 ca qY2 SY2 ++ w9 ca qY3 (sR SY3 1 (cpl (rl SY0 1) (rl SY3 1) a2 a4 a5)))) [9, 0, 1, 2, 3, 4, 5, 6, 7, 8] rfl rfl
                            obtain ⟨hz1, hf⟩ := tc_ck hf
                            obtain rfl := Option.some.inj hf
                            exact tc_rz X hP hD hS rfl dX11_pour_141 hz1 rfl rfl
                          · have hf := tc_pos hc hf
                            exact tX11_pour_113 X z SC SY0 SY1 SY2 SY3 hf _ _ _ hP hD hS (lv_sub hl [2] rfl)
                      · have hf := tc_neg hc hf
                        refine lv_aload_n hx hb dX11_pour_83 rfl (lv_at hl 2 rfl) ?_
                        refine lv_bipush (v := (6 : Int32)) hx hb dX11_pour_84 (by decide) ?_
                        obtain ⟨z38, hg, hf⟩ := tc_bi hf
                        refine tc_iV (As := [.int ((6 : Int32))]) (rest := []) (b := qC 0) (wc := w11 ca qC (.ref (qA 0)) (rC4) (rC6) (rC7) (rC10) (rC11) (rC12) (rC14) (rC15) (rC17) (rC18) (rC19) SC) (wr := wLT ca qA (rf4 (qY0 0) (qY1 0) (qY2 0) (qY3 0)) ++ w9 ca qY0 SY0 ++ w9 ca qY1 SY1 ++ w9 ca qY2 SY2 ++ w9 ca qY3 SY3) X hP hD hS (mX11_deny hg) okX11_deny wl_X11_102 wi_X11_deny ws_X11_X11_deny_X11_deny ⟨rfl, rfl, Nat.le_of_ble_eq_true rfl, Nat.le_of_ble_eq_true rfl⟩ 11 0 rfl rfl [0] [1, 2, 3, 4, 5, 6, 7, 8, 9] ⟨rfl, rfl, rfl, rfl, by decide⟩ rfl hl.1 (Nat.le_of_ble_eq_true rfl) dX11_pour_86 (fun H locs hP hD hS => ?_)
                        have hP := hP.sub (ws' := (w11 ca qC (.ref (qA 0)) (rC4) (rC6) (rC7) (rC10) (rC11) (rC12) (rC14) (rC15) (rC17) (rC18) (rC19) z38.2 ++ wLT ca qA (rf4 (qY0 0) (qY1 0) (qY2 0) (qY3 0)) ++ w9 ca qY0 SY0 ++ w9 ca qY1 SY1 ++ w9 ca qY2 SY2 ++ w9 ca qY3 SY3)) [9, 0, 1, 2, 3, 4, 5, 6, 7, 8] rfl
                        have hD := hD.sub (ws' := (w11 ca qC (.ref (qA 0)) (rC4) (rC6) (rC7) (rC10) (rC11) (rC12) (rC14) (rC15) (rC17) (rC18) (rC19) z38.2 ++ wLT ca qA (rf4 (qY0 0) (qY1 0) (qY2 0) (qY3 0)) ++ w9 ca qY0 SY0 ++ w9 ca qY1 SY1 ++ w9 ca qY2 SY2 ++ w9 ca qY3 SY3)) [9, 0, 1, 2, 3, 4, 5, 6, 7, 8] rfl rfl
                        obtain ⟨hz1, hf⟩ := tc_ck hf
                        obtain rfl := Option.some.inj hf
                        exact tc_rz X hP hD hS rfl dX11_pour_89 hz1 rfl rfl
                    · have hf := tc_neg hc hf
                      refine lv_aload_n hx hb dX11_pour_71 rfl (lv_at hl 2 rfl) ?_
                      refine lv_bipush (v := (11 : Int32)) hx hb dX11_pour_72 (by decide) ?_
                      obtain ⟨z39, hg, hf⟩ := tc_bi hf
                      refine tc_iV (As := [.int ((11 : Int32))]) (rest := []) (b := qC 0) (wc := w11 ca qC (.ref (qA 0)) (rC4) (rC6) (rC7) (rC10) (rC11) (rC12) (rC14) (rC15) (rC17) (rC18) (rC19) SC) (wr := wLT ca qA (rf4 (qY0 0) (qY1 0) (qY2 0) (qY3 0)) ++ w9 ca qY0 SY0 ++ w9 ca qY1 SY1 ++ w9 ca qY2 SY2 ++ w9 ca qY3 SY3) X hP hD hS (mX11_deny hg) okX11_deny wl_X11_102 wi_X11_deny ws_X11_X11_deny_X11_deny ⟨rfl, rfl, Nat.le_of_ble_eq_true rfl, Nat.le_of_ble_eq_true rfl⟩ 11 0 rfl rfl [0] [1, 2, 3, 4, 5, 6, 7, 8, 9] ⟨rfl, rfl, rfl, rfl, by decide⟩ rfl hl.1 (Nat.le_of_ble_eq_true rfl) dX11_pour_74 (fun H locs hP hD hS => ?_)
                      have hP := hP.sub (ws' := (w11 ca qC (.ref (qA 0)) (rC4) (rC6) (rC7) (rC10) (rC11) (rC12) (rC14) (rC15) (rC17) (rC18) (rC19) z39.2 ++ wLT ca qA (rf4 (qY0 0) (qY1 0) (qY2 0) (qY3 0)) ++ w9 ca qY0 SY0 ++ w9 ca qY1 SY1 ++ w9 ca qY2 SY2 ++ w9 ca qY3 SY3)) [9, 0, 1, 2, 3, 4, 5, 6, 7, 8] rfl
                      have hD := hD.sub (ws' := (w11 ca qC (.ref (qA 0)) (rC4) (rC6) (rC7) (rC10) (rC11) (rC12) (rC14) (rC15) (rC17) (rC18) (rC19) z39.2 ++ wLT ca qA (rf4 (qY0 0) (qY1 0) (qY2 0) (qY3 0)) ++ w9 ca qY0 SY0 ++ w9 ca qY1 SY1 ++ w9 ca qY2 SY2 ++ w9 ca qY3 SY3)) [9, 0, 1, 2, 3, 4, 5, 6, 7, 8] rfl rfl
                      obtain ⟨hz1, hf⟩ := tc_ck hf
                      obtain rfl := Option.some.inj hf
                      exact tc_rz X hP hD hS rfl dX11_pour_77 hz1 rfl rfl
                  · have hf := tc_neg hc hf
                    exact tX11_pour_52 X z SC SY0 SY1 SY2 SY3 hf _ _ _ hP hD hS (lv_sub hl [2] rfl)
              · have hf := tc_neg hq5_3 hf
                cases hf
      · have hf := tc_neg hq4_0 hf
        by_cases hq4_1 : a1 = (1 : Int32)
        · have hf := tc_pos hq4_1 hf
          refine tc_ald (b := qY1 0) X hP 1 4 rfl rfl 1 (by rw [hq4_1]; decide) (by rw [hq4_1]; exact inb_vp (by decide)) rfl dX11_pour_25 ?_
          refine lv_astore (lv' := [(6, .ref (qY1 0)), (0, .ref (qC 0)), (1, .int (a1)), (2, .int (a2)), (3, .int (a3)), (4, .int (a4)), (5, .int (a5))]) hx hb dX11_pour_26 hl (by decide) rfl (fun ls hl => ?_)
          refine lv_aload_n hx hb dX11_pour_28 rfl (lv_at hl 1 rfl) ?_
          refine va_get (D := (dC, dI)) (ci := 11) (v := .ref (qA 0)) (C := RX11) (T := TX11) (N := 20) hx hb hts i_X11 hown hK hP 0 rfl rfl 3 (by decide) (hts _ wf_X11_11) (fun _ h9 => h9) rfl dX11_pour_29 ?_
          refine lv_iload_n hx hb dX11_pour_32 rfl (lv_at hl 4 rfl) ?_
          by_cases hq40_0 : a3 = (0 : Int32)
          · have hf := tc_pos hq40_0 hf
            refine tc_ald (b := qY0 0) X hP 1 4 rfl rfl 0 (by rw [hq40_0]; decide) (by rw [hq40_0]; exact inb_vp (by decide)) rfl dX11_pour_33 ?_
            refine lv_astore (lv' := [(7, .ref (qY0 0)), (6, .ref (qY1 0)), (0, .ref (qC 0)), (1, .int (a1)), (2, .int (a2)), (3, .int (a3)), (4, .int (a4)), (5, .int (a5))]) hx hb dX11_pour_34 hl (by decide) rfl (fun ls hl => ?_)
            refine lv_aload hx hb dX11_pour_36 (lv_at hl 1 rfl) ?_
            obtain ⟨z41, hg, hf⟩ := tc_bi hf
            refine tc_iV (As := []) (rest := []) (b := qY1 0) (wc := w9 ca qY1 SY1) (wr := w11 ca qC (.ref (qA 0)) (rC4) (rC6) (rC7) (rC10) (rC11) (rC12) (rC14) (rC15) (rC17) (rC18) (rC19) SC ++ wLT ca qA (rf4 (qY0 0) (qY1 0) (qY2 0) (qY3 0)) ++ w9 ca qY0 SY0 ++ w9 ca qY2 SY2 ++ w9 ca qY3 SY3) X hP hD hS (mX9_isMissing hg) okX9_isMissing wl_X11_129 wi_X9_isMissing ws_X9_X9_isMissing_X9_isMissing ⟨rfl, rfl, Nat.le_of_ble_eq_true rfl, Nat.le_of_ble_eq_true rfl⟩ 9 0 rfl rfl [4, 5] [0, 1, 2, 3, 6, 7, 8, 9] ⟨rfl, rfl, rfl, rfl, by decide⟩ rfl hl.1 (Nat.le_of_ble_eq_true rfl) dX11_pour_38 (fun H locs hP hD hS => ?_)
            have hP := hP.sub (ws' := (w11 ca qC (.ref (qA 0)) (rC4) (rC6) (rC7) (rC10) (rC11) (rC12) (rC14) (rC15) (rC17) (rC18) (rC19) SC ++ wLT ca qA (rf4 (qY0 0) (qY1 0) (qY2 0) (qY3 0)) ++ w9 ca qY0 SY0 ++ w9 ca qY1 SY1 ++ w9 ca qY2 SY2 ++ w9 ca qY3 SY3)) [0, 1, 2, 3, 8, 9, 4, 5, 6, 7] rfl
            have hD := hD.sub (ws' := (w11 ca qC (.ref (qA 0)) (rC4) (rC6) (rC7) (rC10) (rC11) (rC12) (rC14) (rC15) (rC17) (rC18) (rC19) SC ++ wLT ca qA (rf4 (qY0 0) (qY1 0) (qY2 0) (qY3 0)) ++ w9 ca qY0 SY0 ++ w9 ca qY1 SY1 ++ w9 ca qY2 SY2 ++ w9 ca qY3 SY3)) [0, 1, 2, 3, 8, 9, 4, 5, 6, 7] rfl rfl
            refine lv_if_ne (tgt := 52) hx hb dX11_pour_41 (by decide) (fun hc => ?_) (fun hc => ?_)
            · have hf := tc_neg hc hf
              exact tX11_pour_52 X z SC SY0 SY1 SY2 SY3 hf _ _ _ hP hD hS (lv_sub hl [2] rfl)
            · have hf := tc_pos hc hf
              refine lv_aload hx hb dX11_pour_44 (lv_at hl 0 rfl) ?_
              obtain ⟨z42, hg, hf⟩ := tc_bi hf
              refine tc_iV (As := []) (rest := []) (b := qY0 0) (wc := w9 ca qY0 SY0) (wr := w11 ca qC (.ref (qA 0)) (rC4) (rC6) (rC7) (rC10) (rC11) (rC12) (rC14) (rC15) (rC17) (rC18) (rC19) SC ++ wLT ca qA (rf4 (qY0 0) (qY1 0) (qY2 0) (qY3 0)) ++ w9 ca qY1 SY1 ++ w9 ca qY2 SY2 ++ w9 ca qY3 SY3) X hP hD hS (mX9_isMissing hg) okX9_isMissing wl_X11_129 wi_X9_isMissing ws_X9_X9_isMissing_X9_isMissing ⟨rfl, rfl, Nat.le_of_ble_eq_true rfl, Nat.le_of_ble_eq_true rfl⟩ 9 0 rfl rfl [2, 3] [0, 1, 4, 5, 6, 7, 8, 9] ⟨rfl, rfl, rfl, rfl, by decide⟩ rfl hl.1 (Nat.le_of_ble_eq_true rfl) dX11_pour_46 (fun H locs hP hD hS => ?_)
              have hP := hP.sub (ws' := (w11 ca qC (.ref (qA 0)) (rC4) (rC6) (rC7) (rC10) (rC11) (rC12) (rC14) (rC15) (rC17) (rC18) (rC19) SC ++ wLT ca qA (rf4 (qY0 0) (qY1 0) (qY2 0) (qY3 0)) ++ w9 ca qY0 SY0 ++ w9 ca qY1 SY1 ++ w9 ca qY2 SY2 ++ w9 ca qY3 SY3)) [0, 1, 8, 9, 2, 3, 4, 5, 6, 7] rfl
              have hD := hD.sub (ws' := (w11 ca qC (.ref (qA 0)) (rC4) (rC6) (rC7) (rC10) (rC11) (rC12) (rC14) (rC15) (rC17) (rC18) (rC19) SC ++ wLT ca qA (rf4 (qY0 0) (qY1 0) (qY2 0) (qY3 0)) ++ w9 ca qY0 SY0 ++ w9 ca qY1 SY1 ++ w9 ca qY2 SY2 ++ w9 ca qY3 SY3)) [0, 1, 8, 9, 2, 3, 4, 5, 6, 7] rfl rfl
              refine lv_if_eq (tgt := 58) hx hb dX11_pour_49 (by decide) (fun hc => ?_) (fun hc => ?_)
              · have hf := tc_pos hc hf
                refine lv_aload hx hb dX11_pour_58 (lv_at hl 1 rfl) ?_
                refine va_get (D := (dC, dI)) (ci := 9) (v := .int (gi SY1 1)) (C := RX9) (T := TX9) (N := 3) hx hb hts i_X9 hown hK hP 4 rfl rfl 1 (by decide) (hts _ wf_X11_132) (fun _ h9 => h9) rfl dX11_pour_60 ?_
                refine lv_aload hx hb dX11_pour_63 (lv_at hl 0 rfl) ?_
                refine va_get (D := (dC, dI)) (ci := 9) (v := .int (gi SY0 1)) (C := RX9) (T := TX9) (N := 3) hx hb hts i_X9 hown hK hP 2 rfl rfl 1 (by decide) (hts _ wf_X11_132) (fun _ h9 => h9) rfl dX11_pour_65 ?_
                refine lv_icmp_eq (tgt := 78) hx hb dX11_pour_68 (by decide) (fun hc => ?_) (fun hc => ?_)
                · have hf := tc_pos hc hf
                  refine lv_iload hx hb dX11_pour_78 (lv_at hl 7 rfl) ?_
                  refine lv_if_ge (tgt := 90) hx hb dX11_pour_80 (by decide) (fun hc => ?_) (fun hc => ?_)
                  · have hf := tc_pos hc hf
                    refine lv_aload hx hb dX11_pour_90 (lv_at hl 1 rfl) ?_
                    refine lv_iload_n hx hb dX11_pour_92 rfl (lv_at hl 4 rfl) ?_
                    refine lv_iload hx hb dX11_pour_93 (lv_at hl 7 rfl) ?_
                    obtain ⟨z43, hg, hf⟩ := tc_bi hf
                    refine tc_iV (As := [.int (a2), .int (a5)]) (rest := []) (b := qY1 0) (wc := w9 ca qY1 SY1) (wr := w11 ca qC (.ref (qA 0)) (rC4) (rC6) (rC7) (rC10) (rC11) (rC12) (rC14) (rC15) (rC17) (rC18) (rC19) SC ++ wLT ca qA (rf4 (qY0 0) (qY1 0) (qY2 0) (qY3 0)) ++ w9 ca qY0 SY0 ++ w9 ca qY2 SY2 ++ w9 ca qY3 SY3) X hP hD hS (mX9_holds hg) okX9_holds wl_X11_135 wi_X9_holds ws_X9_X9_holds_X9_holds ⟨rfl, rfl, Nat.le_of_ble_eq_true rfl, Nat.le_of_ble_eq_true rfl⟩ 9 0 rfl rfl [4, 5] [0, 1, 2, 3, 6, 7, 8, 9] ⟨rfl, rfl, rfl, rfl, by decide⟩ rfl hl.1 (Nat.le_of_ble_eq_true rfl) dX11_pour_95 (fun H locs hP hD hS => ?_)
                    have hP := hP.sub (ws' := (w11 ca qC (.ref (qA 0)) (rC4) (rC6) (rC7) (rC10) (rC11) (rC12) (rC14) (rC15) (rC17) (rC18) (rC19) SC ++ wLT ca qA (rf4 (qY0 0) (qY1 0) (qY2 0) (qY3 0)) ++ w9 ca qY0 SY0 ++ w9 ca qY1 SY1 ++ w9 ca qY2 SY2 ++ w9 ca qY3 SY3)) [0, 1, 2, 3, 8, 9, 4, 5, 6, 7] rfl
                    have hD := hD.sub (ws' := (w11 ca qC (.ref (qA 0)) (rC4) (rC6) (rC7) (rC10) (rC11) (rC12) (rC14) (rC15) (rC17) (rC18) (rC19) SC ++ wLT ca qA (rf4 (qY0 0) (qY1 0) (qY2 0) (qY3 0)) ++ w9 ca qY0 SY0 ++ w9 ca qY1 SY1 ++ w9 ca qY2 SY2 ++ w9 ca qY3 SY3)) [0, 1, 2, 3, 8, 9, 4, 5, 6, 7] rfl rfl
                    refine lv_if_eq (tgt := 113) hx hb dX11_pour_98 (by decide) (fun hc => ?_) (fun hc => ?_)
                    · have hf := tc_pos hc hf
                      exact tX11_pour_113 X z SC SY0 SY1 SY2 SY3 hf _ _ _ hP hD hS (lv_sub hl [2] rfl)
                    · have hf := tc_neg hc hf
                      refine lv_aload hx hb dX11_pour_101 (lv_at hl 0 rfl) ?_
                      refine lv_iload hx hb dX11_pour_103 (lv_at hl 6 rfl) ?_
                      refine lv_iload hx hb dX11_pour_105 (lv_at hl 7 rfl) ?_
                      obtain ⟨z44, hg, hf⟩ := tc_bi hf
                      refine tc_iV (As := [.int (a4), .int (a5)]) (rest := []) (b := qY0 0) (wc := w9 ca qY0 SY0) (wr := w11 ca qC (.ref (qA 0)) (rC4) (rC6) (rC7) (rC10) (rC11) (rC12) (rC14) (rC15) (rC17) (rC18) (rC19) SC ++ wLT ca qA (rf4 (qY0 0) (qY1 0) (qY2 0) (qY3 0)) ++ w9 ca qY1 SY1 ++ w9 ca qY2 SY2 ++ w9 ca qY3 SY3) X hP hD hS (mX9_holds hg) okX9_holds wl_X11_135 wi_X9_holds ws_X9_X9_holds_X9_holds ⟨rfl, rfl, Nat.le_of_ble_eq_true rfl, Nat.le_of_ble_eq_true rfl⟩ 9 0 rfl rfl [2, 3] [0, 1, 4, 5, 6, 7, 8, 9] ⟨rfl, rfl, rfl, rfl, by decide⟩ rfl hl.1 (Nat.le_of_ble_eq_true rfl) dX11_pour_107 (fun H locs hP hD hS => ?_)
                      have hP := hP.sub (ws' := (w11 ca qC (.ref (qA 0)) (rC4) (rC6) (rC7) (rC10) (rC11) (rC12) (rC14) (rC15) (rC17) (rC18) (rC19) SC ++ wLT ca qA (rf4 (qY0 0) (qY1 0) (qY2 0) (qY3 0)) ++ w9 ca qY0 SY0 ++ w9 ca qY1 SY1 ++ w9 ca qY2 SY2 ++ w9 ca qY3 SY3)) [0, 1, 8, 9, 2, 3, 4, 5, 6, 7] rfl
                      have hD := hD.sub (ws' := (w11 ca qC (.ref (qA 0)) (rC4) (rC6) (rC7) (rC10) (rC11) (rC12) (rC14) (rC15) (rC17) (rC18) (rC19) SC ++ wLT ca qA (rf4 (qY0 0) (qY1 0) (qY2 0) (qY3 0)) ++ w9 ca qY0 SY0 ++ w9 ca qY1 SY1 ++ w9 ca qY2 SY2 ++ w9 ca qY3 SY3)) [0, 1, 8, 9, 2, 3, 4, 5, 6, 7] rfl rfl
                      refine lv_if_ne (tgt := 119) hx hb dX11_pour_110 (by decide) (fun hc => ?_) (fun hc => ?_)
                      · have hf := tc_neg hc hf
                        refine lv_aload hx hb dX11_pour_119 (lv_at hl 1 rfl) ?_
                        refine va_get (D := (dC, dI)) (ci := 9) (v := .ref (qY1 1)) (C := RX9) (T := TX9) (N := 3) hx hb hts i_X9 hown hK hP 4 rfl rfl 0 (by decide) (hts _ wf_X11_125) (fun _ h9 => h9) rfl dX11_pour_121 ?_
                        refine lv_iload_n hx hb dX11_pour_124 rfl (lv_at hl 4 rfl) ?_
                        refine lv_aload hx hb dX11_pour_125 (lv_at hl 0 rfl) ?_
                        refine va_get (D := (dC, dI)) (ci := 9) (v := .ref (qY0 1)) (C := RX9) (T := TX9) (N := 3) hx hb hts i_X9 hown hK hP 2 rfl rfl 0 (by decide) (hts _ wf_X11_125) (fun _ h9 => h9) rfl dX11_pour_127 ?_
                        refine lv_iload hx hb dX11_pour_130 (lv_at hl 6 rfl) ?_
                        refine lv_iload hx hb dX11_pour_132 (lv_at hl 7 rfl) ?_
                        obtain ⟨hc45, hf⟩ := tc_ck hf
                        refine tc_cpl (rest := []) X hl.1 wl_X11_139 hP hD hS 5 3 2 2 rfl rfl rfl rfl hc45 (Nat.le_of_ble_eq_true rfl) (Nat.le_of_ble_eq_true rfl) dX11_pour_134 (fun H locs hP hD hS => ?_)
                        have hP := tc_eP (cwm22_2_1 ca qC qA qY0 qY1 qY2 qY3 (rf4 (qY0 0) (qY1 0) (qY2 0) (qY3 0)) (.ref (qA 0)) (rC4) (rC6) (rC7) (rC10) (rC11) (rC12) (rC14) (rC15) (rC17) (rC18) (rC19) SC SY0 SY1 SY2 SY3 (cpl (rl SY1 1) (rl SY0 1) a2 a4 a5)) hP
                        have hD := tc_eD (cwm22_2_1 ca qC qA qY0 qY1 qY2 qY3 (rf4 (qY0 0) (qY1 0) (qY2 0) (qY3 0)) (.ref (qA 0)) (rC4) (rC6) (rC7) (rC10) (rC11) (rC12) (rC14) (rC15) (rC17) (rC18) (rC19) SC SY0 SY1 SY2 SY3 (cpl (rl SY1 1) (rl SY0 1) a2 a4 a5)) hD
                        refine lv_aload_n hx hb dX11_pour_137 rfl (lv_at hl 2 rfl) ?_
                        obtain ⟨z46, hg, hf⟩ := tc_bi hf
                        refine tc_iV (As := []) (rest := []) (b := qC 0) (wc := w11 ca qC (.ref (qA 0)) (rC4) (rC6) (rC7) (rC10) (rC11) (rC12) (rC14) (rC15) (rC17) (rC18) (rC19) SC) (wr := wLT ca qA (rf4 (qY0 0) (qY1 0) (qY2 0) (qY3 0)) ++ w9 ca qY0 (sR SY0 1 (cpl (rl SY1 1) (rl SY0 1) a2 a4 a5)) ++ w9 ca qY1 SY1 ++ w9 ca qY2 SY2 ++ w9 ca qY3 SY3) X hP hD hS (mX11_grant hg) okX11_grant wl_X11_109 wi_X11_grant ws_X11_X11_grant_X11_grant ⟨rfl, rfl, Nat.le_of_ble_eq_true rfl, Nat.le_of_ble_eq_true rfl⟩ 11 0 rfl rfl [0] [1, 2, 3, 4, 5, 6, 7, 8, 9] ⟨rfl, rfl, rfl, rfl, by decide⟩ rfl hl.1 (Nat.le_of_ble_eq_true rfl) dX11_pour_138 (fun H locs hP hD hS => ?_)
                        have hP := hP.sub (ws' := (w11 ca qC (.ref (qA 0)) (rC4) (rC6) (rC7) (rC10) (rC11) (rC12) (rC14) (rC15) (rC17) (rC18) (rC19) z46.2 ++ wLT ca qA (rf4 (qY0 0) (qY1 0) (qY2 0) (qY3 0)) ++ w9 ca qY0 (sR SY0 1 (cpl (rl SY1 1) (rl SY0 1) a2 a4 a5)) ++ w9 ca qY1 SY1 ++ w9 ca qY2 SY2 ++ w9 ca qY3 SY3)) [9, 0, 1, 2, 3, 4, 5, 6, 7, 8] rfl
                        have hD := hD.sub (ws' := (w11 ca qC (.ref (qA 0)) (rC4) (rC6) (rC7) (rC10) (rC11) (rC12) (rC14) (rC15) (rC17) (rC18) (rC19) z46.2 ++ wLT ca qA (rf4 (qY0 0) (qY1 0) (qY2 0) (qY3 0)) ++ w9 ca qY0 (sR SY0 1 (cpl (rl SY1 1) (rl SY0 1) a2 a4 a5)) ++ w9 ca qY1 SY1 ++ w9 ca qY2 SY2 ++ w9 ca qY3 SY3)) [9, 0, 1, 2, 3, 4, 5, 6, 7, 8] rfl rfl
                        obtain ⟨hz1, hf⟩ := tc_ck hf
                        obtain rfl := Option.some.inj hf
                        exact tc_rz X hP hD hS rfl dX11_pour_141 hz1 rfl rfl
                      · have hf := tc_pos hc hf
                        exact tX11_pour_113 X z SC SY0 SY1 SY2 SY3 hf _ _ _ hP hD hS (lv_sub hl [2] rfl)
                  · have hf := tc_neg hc hf
                    refine lv_aload_n hx hb dX11_pour_83 rfl (lv_at hl 2 rfl) ?_
                    refine lv_bipush (v := (6 : Int32)) hx hb dX11_pour_84 (by decide) ?_
                    obtain ⟨z47, hg, hf⟩ := tc_bi hf
                    refine tc_iV (As := [.int ((6 : Int32))]) (rest := []) (b := qC 0) (wc := w11 ca qC (.ref (qA 0)) (rC4) (rC6) (rC7) (rC10) (rC11) (rC12) (rC14) (rC15) (rC17) (rC18) (rC19) SC) (wr := wLT ca qA (rf4 (qY0 0) (qY1 0) (qY2 0) (qY3 0)) ++ w9 ca qY0 SY0 ++ w9 ca qY1 SY1 ++ w9 ca qY2 SY2 ++ w9 ca qY3 SY3) X hP hD hS (mX11_deny hg) okX11_deny wl_X11_102 wi_X11_deny ws_X11_X11_deny_X11_deny ⟨rfl, rfl, Nat.le_of_ble_eq_true rfl, Nat.le_of_ble_eq_true rfl⟩ 11 0 rfl rfl [0] [1, 2, 3, 4, 5, 6, 7, 8, 9] ⟨rfl, rfl, rfl, rfl, by decide⟩ rfl hl.1 (Nat.le_of_ble_eq_true rfl) dX11_pour_86 (fun H locs hP hD hS => ?_)
                    have hP := hP.sub (ws' := (w11 ca qC (.ref (qA 0)) (rC4) (rC6) (rC7) (rC10) (rC11) (rC12) (rC14) (rC15) (rC17) (rC18) (rC19) z47.2 ++ wLT ca qA (rf4 (qY0 0) (qY1 0) (qY2 0) (qY3 0)) ++ w9 ca qY0 SY0 ++ w9 ca qY1 SY1 ++ w9 ca qY2 SY2 ++ w9 ca qY3 SY3)) [9, 0, 1, 2, 3, 4, 5, 6, 7, 8] rfl
                    have hD := hD.sub (ws' := (w11 ca qC (.ref (qA 0)) (rC4) (rC6) (rC7) (rC10) (rC11) (rC12) (rC14) (rC15) (rC17) (rC18) (rC19) z47.2 ++ wLT ca qA (rf4 (qY0 0) (qY1 0) (qY2 0) (qY3 0)) ++ w9 ca qY0 SY0 ++ w9 ca qY1 SY1 ++ w9 ca qY2 SY2 ++ w9 ca qY3 SY3)) [9, 0, 1, 2, 3, 4, 5, 6, 7, 8] rfl rfl
                    obtain ⟨hz1, hf⟩ := tc_ck hf
                    obtain rfl := Option.some.inj hf
                    exact tc_rz X hP hD hS rfl dX11_pour_89 hz1 rfl rfl
                · have hf := tc_neg hc hf
                  refine lv_aload_n hx hb dX11_pour_71 rfl (lv_at hl 2 rfl) ?_
                  refine lv_bipush (v := (11 : Int32)) hx hb dX11_pour_72 (by decide) ?_
                  obtain ⟨z48, hg, hf⟩ := tc_bi hf
                  refine tc_iV (As := [.int ((11 : Int32))]) (rest := []) (b := qC 0) (wc := w11 ca qC (.ref (qA 0)) (rC4) (rC6) (rC7) (rC10) (rC11) (rC12) (rC14) (rC15) (rC17) (rC18) (rC19) SC) (wr := wLT ca qA (rf4 (qY0 0) (qY1 0) (qY2 0) (qY3 0)) ++ w9 ca qY0 SY0 ++ w9 ca qY1 SY1 ++ w9 ca qY2 SY2 ++ w9 ca qY3 SY3) X hP hD hS (mX11_deny hg) okX11_deny wl_X11_102 wi_X11_deny ws_X11_X11_deny_X11_deny ⟨rfl, rfl, Nat.le_of_ble_eq_true rfl, Nat.le_of_ble_eq_true rfl⟩ 11 0 rfl rfl [0] [1, 2, 3, 4, 5, 6, 7, 8, 9] ⟨rfl, rfl, rfl, rfl, by decide⟩ rfl hl.1 (Nat.le_of_ble_eq_true rfl) dX11_pour_74 (fun H locs hP hD hS => ?_)
                  have hP := hP.sub (ws' := (w11 ca qC (.ref (qA 0)) (rC4) (rC6) (rC7) (rC10) (rC11) (rC12) (rC14) (rC15) (rC17) (rC18) (rC19) z48.2 ++ wLT ca qA (rf4 (qY0 0) (qY1 0) (qY2 0) (qY3 0)) ++ w9 ca qY0 SY0 ++ w9 ca qY1 SY1 ++ w9 ca qY2 SY2 ++ w9 ca qY3 SY3)) [9, 0, 1, 2, 3, 4, 5, 6, 7, 8] rfl
                  have hD := hD.sub (ws' := (w11 ca qC (.ref (qA 0)) (rC4) (rC6) (rC7) (rC10) (rC11) (rC12) (rC14) (rC15) (rC17) (rC18) (rC19) z48.2 ++ wLT ca qA (rf4 (qY0 0) (qY1 0) (qY2 0) (qY3 0)) ++ w9 ca qY0 SY0 ++ w9 ca qY1 SY1 ++ w9 ca qY2 SY2 ++ w9 ca qY3 SY3)) [9, 0, 1, 2, 3, 4, 5, 6, 7, 8] rfl rfl
                  obtain ⟨hz1, hf⟩ := tc_ck hf
                  obtain rfl := Option.some.inj hf
                  exact tc_rz X hP hD hS rfl dX11_pour_77 hz1 rfl rfl
              · have hf := tc_neg hc hf
                exact tX11_pour_52 X z SC SY0 SY1 SY2 SY3 hf _ _ _ hP hD hS (lv_sub hl [2] rfl)
          · have hf := tc_neg hq40_0 hf
            by_cases hq40_1 : a3 = (1 : Int32)
            · have hf := tc_pos hq40_1 hf
              refine tc_ald (b := qY1 0) X hP 1 4 rfl rfl 1 (by rw [hq40_1]; decide) (by rw [hq40_1]; exact inb_vp (by decide)) rfl dX11_pour_33 ?_
              refine lv_astore (lv' := [(7, .ref (qY1 0)), (6, .ref (qY1 0)), (0, .ref (qC 0)), (1, .int (a1)), (2, .int (a2)), (3, .int (a3)), (4, .int (a4)), (5, .int (a5))]) hx hb dX11_pour_34 hl (by decide) rfl (fun ls hl => ?_)
              refine lv_aload hx hb dX11_pour_36 (lv_at hl 1 rfl) ?_
              obtain ⟨z49, hg, hf⟩ := tc_bi hf
              refine tc_iV (As := []) (rest := []) (b := qY1 0) (wc := w9 ca qY1 SY1) (wr := w11 ca qC (.ref (qA 0)) (rC4) (rC6) (rC7) (rC10) (rC11) (rC12) (rC14) (rC15) (rC17) (rC18) (rC19) SC ++ wLT ca qA (rf4 (qY0 0) (qY1 0) (qY2 0) (qY3 0)) ++ w9 ca qY0 SY0 ++ w9 ca qY2 SY2 ++ w9 ca qY3 SY3) X hP hD hS (mX9_isMissing hg) okX9_isMissing wl_X11_129 wi_X9_isMissing ws_X9_X9_isMissing_X9_isMissing ⟨rfl, rfl, Nat.le_of_ble_eq_true rfl, Nat.le_of_ble_eq_true rfl⟩ 9 0 rfl rfl [4, 5] [0, 1, 2, 3, 6, 7, 8, 9] ⟨rfl, rfl, rfl, rfl, by decide⟩ rfl hl.1 (Nat.le_of_ble_eq_true rfl) dX11_pour_38 (fun H locs hP hD hS => ?_)
              have hP := hP.sub (ws' := (w11 ca qC (.ref (qA 0)) (rC4) (rC6) (rC7) (rC10) (rC11) (rC12) (rC14) (rC15) (rC17) (rC18) (rC19) SC ++ wLT ca qA (rf4 (qY0 0) (qY1 0) (qY2 0) (qY3 0)) ++ w9 ca qY0 SY0 ++ w9 ca qY1 SY1 ++ w9 ca qY2 SY2 ++ w9 ca qY3 SY3)) [0, 1, 2, 3, 8, 9, 4, 5, 6, 7] rfl
              have hD := hD.sub (ws' := (w11 ca qC (.ref (qA 0)) (rC4) (rC6) (rC7) (rC10) (rC11) (rC12) (rC14) (rC15) (rC17) (rC18) (rC19) SC ++ wLT ca qA (rf4 (qY0 0) (qY1 0) (qY2 0) (qY3 0)) ++ w9 ca qY0 SY0 ++ w9 ca qY1 SY1 ++ w9 ca qY2 SY2 ++ w9 ca qY3 SY3)) [0, 1, 2, 3, 8, 9, 4, 5, 6, 7] rfl rfl
              refine lv_if_ne (tgt := 52) hx hb dX11_pour_41 (by decide) (fun hc => ?_) (fun hc => ?_)
              · have hf := tc_neg hc hf
                exact tX11_pour_52 X z SC SY0 SY1 SY2 SY3 hf _ _ _ hP hD hS (lv_sub hl [2] rfl)
              · have hf := tc_pos hc hf
                refine lv_aload hx hb dX11_pour_44 (lv_at hl 0 rfl) ?_
                obtain ⟨z50, hg, hf⟩ := tc_bi hf
                refine tc_iV (As := []) (rest := []) (b := qY1 0) (wc := w9 ca qY1 SY1) (wr := w11 ca qC (.ref (qA 0)) (rC4) (rC6) (rC7) (rC10) (rC11) (rC12) (rC14) (rC15) (rC17) (rC18) (rC19) SC ++ wLT ca qA (rf4 (qY0 0) (qY1 0) (qY2 0) (qY3 0)) ++ w9 ca qY0 SY0 ++ w9 ca qY2 SY2 ++ w9 ca qY3 SY3) X hP hD hS (mX9_isMissing hg) okX9_isMissing wl_X11_129 wi_X9_isMissing ws_X9_X9_isMissing_X9_isMissing ⟨rfl, rfl, Nat.le_of_ble_eq_true rfl, Nat.le_of_ble_eq_true rfl⟩ 9 0 rfl rfl [4, 5] [0, 1, 2, 3, 6, 7, 8, 9] ⟨rfl, rfl, rfl, rfl, by decide⟩ rfl hl.1 (Nat.le_of_ble_eq_true rfl) dX11_pour_46 (fun H locs hP hD hS => ?_)
                have hP := hP.sub (ws' := (w11 ca qC (.ref (qA 0)) (rC4) (rC6) (rC7) (rC10) (rC11) (rC12) (rC14) (rC15) (rC17) (rC18) (rC19) SC ++ wLT ca qA (rf4 (qY0 0) (qY1 0) (qY2 0) (qY3 0)) ++ w9 ca qY0 SY0 ++ w9 ca qY1 SY1 ++ w9 ca qY2 SY2 ++ w9 ca qY3 SY3)) [0, 1, 2, 3, 8, 9, 4, 5, 6, 7] rfl
                have hD := hD.sub (ws' := (w11 ca qC (.ref (qA 0)) (rC4) (rC6) (rC7) (rC10) (rC11) (rC12) (rC14) (rC15) (rC17) (rC18) (rC19) SC ++ wLT ca qA (rf4 (qY0 0) (qY1 0) (qY2 0) (qY3 0)) ++ w9 ca qY0 SY0 ++ w9 ca qY1 SY1 ++ w9 ca qY2 SY2 ++ w9 ca qY3 SY3)) [0, 1, 2, 3, 8, 9, 4, 5, 6, 7] rfl rfl
                refine lv_if_eq (tgt := 58) hx hb dX11_pour_49 (by decide) (fun hc => ?_) (fun hc => ?_)
                · have hf := tc_pos hc hf
                  refine lv_aload hx hb dX11_pour_58 (lv_at hl 1 rfl) ?_
                  refine va_get (D := (dC, dI)) (ci := 9) (v := .int (gi SY1 1)) (C := RX9) (T := TX9) (N := 3) hx hb hts i_X9 hown hK hP 4 rfl rfl 1 (by decide) (hts _ wf_X11_132) (fun _ h9 => h9) rfl dX11_pour_60 ?_
                  refine lv_aload hx hb dX11_pour_63 (lv_at hl 0 rfl) ?_
                  refine va_get (D := (dC, dI)) (ci := 9) (v := .int (gi SY1 1)) (C := RX9) (T := TX9) (N := 3) hx hb hts i_X9 hown hK hP 4 rfl rfl 1 (by decide) (hts _ wf_X11_132) (fun _ h9 => h9) rfl dX11_pour_65 ?_
                  refine lv_icmp_eq (tgt := 78) hx hb dX11_pour_68 (by decide) (fun hc => ?_) (fun hc => ?_)
                  · have hf := tc_pos hc hf
                    refine lv_iload hx hb dX11_pour_78 (lv_at hl 7 rfl) ?_
                    refine lv_if_ge (tgt := 90) hx hb dX11_pour_80 (by decide) (fun hc => ?_) (fun hc => ?_)
                    · have hf := tc_pos hc hf
                      refine lv_aload hx hb dX11_pour_90 (lv_at hl 1 rfl) ?_
                      refine lv_iload_n hx hb dX11_pour_92 rfl (lv_at hl 4 rfl) ?_
                      refine lv_iload hx hb dX11_pour_93 (lv_at hl 7 rfl) ?_
                      obtain ⟨z51, hg, hf⟩ := tc_bi hf
                      refine tc_iV (As := [.int (a2), .int (a5)]) (rest := []) (b := qY1 0) (wc := w9 ca qY1 SY1) (wr := w11 ca qC (.ref (qA 0)) (rC4) (rC6) (rC7) (rC10) (rC11) (rC12) (rC14) (rC15) (rC17) (rC18) (rC19) SC ++ wLT ca qA (rf4 (qY0 0) (qY1 0) (qY2 0) (qY3 0)) ++ w9 ca qY0 SY0 ++ w9 ca qY2 SY2 ++ w9 ca qY3 SY3) X hP hD hS (mX9_holds hg) okX9_holds wl_X11_135 wi_X9_holds ws_X9_X9_holds_X9_holds ⟨rfl, rfl, Nat.le_of_ble_eq_true rfl, Nat.le_of_ble_eq_true rfl⟩ 9 0 rfl rfl [4, 5] [0, 1, 2, 3, 6, 7, 8, 9] ⟨rfl, rfl, rfl, rfl, by decide⟩ rfl hl.1 (Nat.le_of_ble_eq_true rfl) dX11_pour_95 (fun H locs hP hD hS => ?_)
                      have hP := hP.sub (ws' := (w11 ca qC (.ref (qA 0)) (rC4) (rC6) (rC7) (rC10) (rC11) (rC12) (rC14) (rC15) (rC17) (rC18) (rC19) SC ++ wLT ca qA (rf4 (qY0 0) (qY1 0) (qY2 0) (qY3 0)) ++ w9 ca qY0 SY0 ++ w9 ca qY1 SY1 ++ w9 ca qY2 SY2 ++ w9 ca qY3 SY3)) [0, 1, 2, 3, 8, 9, 4, 5, 6, 7] rfl
                      have hD := hD.sub (ws' := (w11 ca qC (.ref (qA 0)) (rC4) (rC6) (rC7) (rC10) (rC11) (rC12) (rC14) (rC15) (rC17) (rC18) (rC19) SC ++ wLT ca qA (rf4 (qY0 0) (qY1 0) (qY2 0) (qY3 0)) ++ w9 ca qY0 SY0 ++ w9 ca qY1 SY1 ++ w9 ca qY2 SY2 ++ w9 ca qY3 SY3)) [0, 1, 2, 3, 8, 9, 4, 5, 6, 7] rfl rfl
                      refine lv_if_eq (tgt := 113) hx hb dX11_pour_98 (by decide) (fun hc => ?_) (fun hc => ?_)
                      · have hf := tc_pos hc hf
                        exact tX11_pour_113 X z SC SY0 SY1 SY2 SY3 hf _ _ _ hP hD hS (lv_sub hl [2] rfl)
                      · have hf := tc_neg hc hf
                        refine lv_aload hx hb dX11_pour_101 (lv_at hl 0 rfl) ?_
                        refine lv_iload hx hb dX11_pour_103 (lv_at hl 6 rfl) ?_
                        refine lv_iload hx hb dX11_pour_105 (lv_at hl 7 rfl) ?_
                        obtain ⟨z52, hg, hf⟩ := tc_bi hf
                        refine tc_iV (As := [.int (a4), .int (a5)]) (rest := []) (b := qY1 0) (wc := w9 ca qY1 SY1) (wr := w11 ca qC (.ref (qA 0)) (rC4) (rC6) (rC7) (rC10) (rC11) (rC12) (rC14) (rC15) (rC17) (rC18) (rC19) SC ++ wLT ca qA (rf4 (qY0 0) (qY1 0) (qY2 0) (qY3 0)) ++ w9 ca qY0 SY0 ++ w9 ca qY2 SY2 ++ w9 ca qY3 SY3) X hP hD hS (mX9_holds hg) okX9_holds wl_X11_135 wi_X9_holds ws_X9_X9_holds_X9_holds ⟨rfl, rfl, Nat.le_of_ble_eq_true rfl, Nat.le_of_ble_eq_true rfl⟩ 9 0 rfl rfl [4, 5] [0, 1, 2, 3, 6, 7, 8, 9] ⟨rfl, rfl, rfl, rfl, by decide⟩ rfl hl.1 (Nat.le_of_ble_eq_true rfl) dX11_pour_107 (fun H locs hP hD hS => ?_)
                        have hP := hP.sub (ws' := (w11 ca qC (.ref (qA 0)) (rC4) (rC6) (rC7) (rC10) (rC11) (rC12) (rC14) (rC15) (rC17) (rC18) (rC19) SC ++ wLT ca qA (rf4 (qY0 0) (qY1 0) (qY2 0) (qY3 0)) ++ w9 ca qY0 SY0 ++ w9 ca qY1 SY1 ++ w9 ca qY2 SY2 ++ w9 ca qY3 SY3)) [0, 1, 2, 3, 8, 9, 4, 5, 6, 7] rfl
                        have hD := hD.sub (ws' := (w11 ca qC (.ref (qA 0)) (rC4) (rC6) (rC7) (rC10) (rC11) (rC12) (rC14) (rC15) (rC17) (rC18) (rC19) SC ++ wLT ca qA (rf4 (qY0 0) (qY1 0) (qY2 0) (qY3 0)) ++ w9 ca qY0 SY0 ++ w9 ca qY1 SY1 ++ w9 ca qY2 SY2 ++ w9 ca qY3 SY3)) [0, 1, 2, 3, 8, 9, 4, 5, 6, 7] rfl rfl
                        refine lv_if_ne (tgt := 119) hx hb dX11_pour_110 (by decide) (fun hc => ?_) (fun hc => ?_)
                        · have hf := tc_neg hc hf
                          refine lv_aload hx hb dX11_pour_119 (lv_at hl 1 rfl) ?_
                          refine va_get (D := (dC, dI)) (ci := 9) (v := .ref (qY1 1)) (C := RX9) (T := TX9) (N := 3) hx hb hts i_X9 hown hK hP 4 rfl rfl 0 (by decide) (hts _ wf_X11_125) (fun _ h9 => h9) rfl dX11_pour_121 ?_
                          refine lv_iload_n hx hb dX11_pour_124 rfl (lv_at hl 4 rfl) ?_
                          refine lv_aload hx hb dX11_pour_125 (lv_at hl 0 rfl) ?_
                          refine va_get (D := (dC, dI)) (ci := 9) (v := .ref (qY1 1)) (C := RX9) (T := TX9) (N := 3) hx hb hts i_X9 hown hK hP 4 rfl rfl 0 (by decide) (hts _ wf_X11_125) (fun _ h9 => h9) rfl dX11_pour_127 ?_
                          refine lv_iload hx hb dX11_pour_130 (lv_at hl 6 rfl) ?_
                          refine lv_iload hx hb dX11_pour_132 (lv_at hl 7 rfl) ?_
                          obtain ⟨hc53, hf⟩ := tc_ck hf
                          refine tc_cpl (rest := []) X hl.1 wl_X11_139 hP hD hS 5 5 2 2 rfl rfl rfl rfl hc53 (Nat.le_of_ble_eq_true rfl) (Nat.le_of_ble_eq_true rfl) dX11_pour_134 (fun H locs hP hD hS => ?_)
                          have hP := tc_eP (cwm22_3_1 ca qC qA qY0 qY1 qY2 qY3 (rf4 (qY0 0) (qY1 0) (qY2 0) (qY3 0)) (.ref (qA 0)) (rC4) (rC6) (rC7) (rC10) (rC11) (rC12) (rC14) (rC15) (rC17) (rC18) (rC19) SC SY0 SY1 SY2 SY3 (cpl (rl SY1 1) (rl SY1 1) a2 a4 a5)) hP
                          have hD := tc_eD (cwm22_3_1 ca qC qA qY0 qY1 qY2 qY3 (rf4 (qY0 0) (qY1 0) (qY2 0) (qY3 0)) (.ref (qA 0)) (rC4) (rC6) (rC7) (rC10) (rC11) (rC12) (rC14) (rC15) (rC17) (rC18) (rC19) SC SY0 SY1 SY2 SY3 (cpl (rl SY1 1) (rl SY1 1) a2 a4 a5)) hD
                          refine lv_aload_n hx hb dX11_pour_137 rfl (lv_at hl 2 rfl) ?_
                          obtain ⟨z54, hg, hf⟩ := tc_bi hf
                          refine tc_iV (As := []) (rest := []) (b := qC 0) (wc := w11 ca qC (.ref (qA 0)) (rC4) (rC6) (rC7) (rC10) (rC11) (rC12) (rC14) (rC15) (rC17) (rC18) (rC19) SC) (wr := wLT ca qA (rf4 (qY0 0) (qY1 0) (qY2 0) (qY3 0)) ++ w9 ca qY0 SY0 ++ w9 ca qY1 (sR SY1 1 (cpl (rl SY1 1) (rl SY1 1) a2 a4 a5)) ++ w9 ca qY2 SY2 ++ w9 ca qY3 SY3) X hP hD hS (mX11_grant hg) okX11_grant wl_X11_109 wi_X11_grant ws_X11_X11_grant_X11_grant ⟨rfl, rfl, Nat.le_of_ble_eq_true rfl, Nat.le_of_ble_eq_true rfl⟩ 11 0 rfl rfl [0] [1, 2, 3, 4, 5, 6, 7, 8, 9] ⟨rfl, rfl, rfl, rfl, by decide⟩ rfl hl.1 (Nat.le_of_ble_eq_true rfl) dX11_pour_138 (fun H locs hP hD hS => ?_)
                          have hP := hP.sub (ws' := (w11 ca qC (.ref (qA 0)) (rC4) (rC6) (rC7) (rC10) (rC11) (rC12) (rC14) (rC15) (rC17) (rC18) (rC19) z54.2 ++ wLT ca qA (rf4 (qY0 0) (qY1 0) (qY2 0) (qY3 0)) ++ w9 ca qY0 SY0 ++ w9 ca qY1 (sR SY1 1 (cpl (rl SY1 1) (rl SY1 1) a2 a4 a5)) ++ w9 ca qY2 SY2 ++ w9 ca qY3 SY3)) [9, 0, 1, 2, 3, 4, 5, 6, 7, 8] rfl
                          have hD := hD.sub (ws' := (w11 ca qC (.ref (qA 0)) (rC4) (rC6) (rC7) (rC10) (rC11) (rC12) (rC14) (rC15) (rC17) (rC18) (rC19) z54.2 ++ wLT ca qA (rf4 (qY0 0) (qY1 0) (qY2 0) (qY3 0)) ++ w9 ca qY0 SY0 ++ w9 ca qY1 (sR SY1 1 (cpl (rl SY1 1) (rl SY1 1) a2 a4 a5)) ++ w9 ca qY2 SY2 ++ w9 ca qY3 SY3)) [9, 0, 1, 2, 3, 4, 5, 6, 7, 8] rfl rfl
                          obtain ⟨hz1, hf⟩ := tc_ck hf
                          obtain rfl := Option.some.inj hf
                          exact tc_rz X hP hD hS rfl dX11_pour_141 hz1 rfl rfl
                        · have hf := tc_pos hc hf
                          exact tX11_pour_113 X z SC SY0 SY1 SY2 SY3 hf _ _ _ hP hD hS (lv_sub hl [2] rfl)
                    · have hf := tc_neg hc hf
                      refine lv_aload_n hx hb dX11_pour_83 rfl (lv_at hl 2 rfl) ?_
                      refine lv_bipush (v := (6 : Int32)) hx hb dX11_pour_84 (by decide) ?_
                      obtain ⟨z55, hg, hf⟩ := tc_bi hf
                      refine tc_iV (As := [.int ((6 : Int32))]) (rest := []) (b := qC 0) (wc := w11 ca qC (.ref (qA 0)) (rC4) (rC6) (rC7) (rC10) (rC11) (rC12) (rC14) (rC15) (rC17) (rC18) (rC19) SC) (wr := wLT ca qA (rf4 (qY0 0) (qY1 0) (qY2 0) (qY3 0)) ++ w9 ca qY0 SY0 ++ w9 ca qY1 SY1 ++ w9 ca qY2 SY2 ++ w9 ca qY3 SY3) X hP hD hS (mX11_deny hg) okX11_deny wl_X11_102 wi_X11_deny ws_X11_X11_deny_X11_deny ⟨rfl, rfl, Nat.le_of_ble_eq_true rfl, Nat.le_of_ble_eq_true rfl⟩ 11 0 rfl rfl [0] [1, 2, 3, 4, 5, 6, 7, 8, 9] ⟨rfl, rfl, rfl, rfl, by decide⟩ rfl hl.1 (Nat.le_of_ble_eq_true rfl) dX11_pour_86 (fun H locs hP hD hS => ?_)
                      have hP := hP.sub (ws' := (w11 ca qC (.ref (qA 0)) (rC4) (rC6) (rC7) (rC10) (rC11) (rC12) (rC14) (rC15) (rC17) (rC18) (rC19) z55.2 ++ wLT ca qA (rf4 (qY0 0) (qY1 0) (qY2 0) (qY3 0)) ++ w9 ca qY0 SY0 ++ w9 ca qY1 SY1 ++ w9 ca qY2 SY2 ++ w9 ca qY3 SY3)) [9, 0, 1, 2, 3, 4, 5, 6, 7, 8] rfl
                      have hD := hD.sub (ws' := (w11 ca qC (.ref (qA 0)) (rC4) (rC6) (rC7) (rC10) (rC11) (rC12) (rC14) (rC15) (rC17) (rC18) (rC19) z55.2 ++ wLT ca qA (rf4 (qY0 0) (qY1 0) (qY2 0) (qY3 0)) ++ w9 ca qY0 SY0 ++ w9 ca qY1 SY1 ++ w9 ca qY2 SY2 ++ w9 ca qY3 SY3)) [9, 0, 1, 2, 3, 4, 5, 6, 7, 8] rfl rfl
                      obtain ⟨hz1, hf⟩ := tc_ck hf
                      obtain rfl := Option.some.inj hf
                      exact tc_rz X hP hD hS rfl dX11_pour_89 hz1 rfl rfl
                  · have hf := tc_neg hc hf
                    refine lv_aload_n hx hb dX11_pour_71 rfl (lv_at hl 2 rfl) ?_
                    refine lv_bipush (v := (11 : Int32)) hx hb dX11_pour_72 (by decide) ?_
                    obtain ⟨z56, hg, hf⟩ := tc_bi hf
                    refine tc_iV (As := [.int ((11 : Int32))]) (rest := []) (b := qC 0) (wc := w11 ca qC (.ref (qA 0)) (rC4) (rC6) (rC7) (rC10) (rC11) (rC12) (rC14) (rC15) (rC17) (rC18) (rC19) SC) (wr := wLT ca qA (rf4 (qY0 0) (qY1 0) (qY2 0) (qY3 0)) ++ w9 ca qY0 SY0 ++ w9 ca qY1 SY1 ++ w9 ca qY2 SY2 ++ w9 ca qY3 SY3) X hP hD hS (mX11_deny hg) okX11_deny wl_X11_102 wi_X11_deny ws_X11_X11_deny_X11_deny ⟨rfl, rfl, Nat.le_of_ble_eq_true rfl, Nat.le_of_ble_eq_true rfl⟩ 11 0 rfl rfl [0] [1, 2, 3, 4, 5, 6, 7, 8, 9] ⟨rfl, rfl, rfl, rfl, by decide⟩ rfl hl.1 (Nat.le_of_ble_eq_true rfl) dX11_pour_74 (fun H locs hP hD hS => ?_)
                    have hP := hP.sub (ws' := (w11 ca qC (.ref (qA 0)) (rC4) (rC6) (rC7) (rC10) (rC11) (rC12) (rC14) (rC15) (rC17) (rC18) (rC19) z56.2 ++ wLT ca qA (rf4 (qY0 0) (qY1 0) (qY2 0) (qY3 0)) ++ w9 ca qY0 SY0 ++ w9 ca qY1 SY1 ++ w9 ca qY2 SY2 ++ w9 ca qY3 SY3)) [9, 0, 1, 2, 3, 4, 5, 6, 7, 8] rfl
                    have hD := hD.sub (ws' := (w11 ca qC (.ref (qA 0)) (rC4) (rC6) (rC7) (rC10) (rC11) (rC12) (rC14) (rC15) (rC17) (rC18) (rC19) z56.2 ++ wLT ca qA (rf4 (qY0 0) (qY1 0) (qY2 0) (qY3 0)) ++ w9 ca qY0 SY0 ++ w9 ca qY1 SY1 ++ w9 ca qY2 SY2 ++ w9 ca qY3 SY3)) [9, 0, 1, 2, 3, 4, 5, 6, 7, 8] rfl rfl
                    obtain ⟨hz1, hf⟩ := tc_ck hf
                    obtain rfl := Option.some.inj hf
                    exact tc_rz X hP hD hS rfl dX11_pour_77 hz1 rfl rfl
                · have hf := tc_neg hc hf
                  exact tX11_pour_52 X z SC SY0 SY1 SY2 SY3 hf _ _ _ hP hD hS (lv_sub hl [2] rfl)
            · have hf := tc_neg hq40_1 hf
              by_cases hq40_2 : a3 = (2 : Int32)
              · have hf := tc_pos hq40_2 hf
                refine tc_ald (b := qY2 0) X hP 1 4 rfl rfl 2 (by rw [hq40_2]; decide) (by rw [hq40_2]; exact inb_vp (by decide)) rfl dX11_pour_33 ?_
                refine lv_astore (lv' := [(7, .ref (qY2 0)), (6, .ref (qY1 0)), (0, .ref (qC 0)), (1, .int (a1)), (2, .int (a2)), (3, .int (a3)), (4, .int (a4)), (5, .int (a5))]) hx hb dX11_pour_34 hl (by decide) rfl (fun ls hl => ?_)
                refine lv_aload hx hb dX11_pour_36 (lv_at hl 1 rfl) ?_
                obtain ⟨z57, hg, hf⟩ := tc_bi hf
                refine tc_iV (As := []) (rest := []) (b := qY1 0) (wc := w9 ca qY1 SY1) (wr := w11 ca qC (.ref (qA 0)) (rC4) (rC6) (rC7) (rC10) (rC11) (rC12) (rC14) (rC15) (rC17) (rC18) (rC19) SC ++ wLT ca qA (rf4 (qY0 0) (qY1 0) (qY2 0) (qY3 0)) ++ w9 ca qY0 SY0 ++ w9 ca qY2 SY2 ++ w9 ca qY3 SY3) X hP hD hS (mX9_isMissing hg) okX9_isMissing wl_X11_129 wi_X9_isMissing ws_X9_X9_isMissing_X9_isMissing ⟨rfl, rfl, Nat.le_of_ble_eq_true rfl, Nat.le_of_ble_eq_true rfl⟩ 9 0 rfl rfl [4, 5] [0, 1, 2, 3, 6, 7, 8, 9] ⟨rfl, rfl, rfl, rfl, by decide⟩ rfl hl.1 (Nat.le_of_ble_eq_true rfl) dX11_pour_38 (fun H locs hP hD hS => ?_)
                have hP := hP.sub (ws' := (w11 ca qC (.ref (qA 0)) (rC4) (rC6) (rC7) (rC10) (rC11) (rC12) (rC14) (rC15) (rC17) (rC18) (rC19) SC ++ wLT ca qA (rf4 (qY0 0) (qY1 0) (qY2 0) (qY3 0)) ++ w9 ca qY0 SY0 ++ w9 ca qY1 SY1 ++ w9 ca qY2 SY2 ++ w9 ca qY3 SY3)) [0, 1, 2, 3, 8, 9, 4, 5, 6, 7] rfl
                have hD := hD.sub (ws' := (w11 ca qC (.ref (qA 0)) (rC4) (rC6) (rC7) (rC10) (rC11) (rC12) (rC14) (rC15) (rC17) (rC18) (rC19) SC ++ wLT ca qA (rf4 (qY0 0) (qY1 0) (qY2 0) (qY3 0)) ++ w9 ca qY0 SY0 ++ w9 ca qY1 SY1 ++ w9 ca qY2 SY2 ++ w9 ca qY3 SY3)) [0, 1, 2, 3, 8, 9, 4, 5, 6, 7] rfl rfl
                refine lv_if_ne (tgt := 52) hx hb dX11_pour_41 (by decide) (fun hc => ?_) (fun hc => ?_)
                · have hf := tc_neg hc hf
                  exact tX11_pour_52 X z SC SY0 SY1 SY2 SY3 hf _ _ _ hP hD hS (lv_sub hl [2] rfl)
                · have hf := tc_pos hc hf
                  refine lv_aload hx hb dX11_pour_44 (lv_at hl 0 rfl) ?_
                  obtain ⟨z58, hg, hf⟩ := tc_bi hf
                  refine tc_iV (As := []) (rest := []) (b := qY2 0) (wc := w9 ca qY2 SY2) (wr := w11 ca qC (.ref (qA 0)) (rC4) (rC6) (rC7) (rC10) (rC11) (rC12) (rC14) (rC15) (rC17) (rC18) (rC19) SC ++ wLT ca qA (rf4 (qY0 0) (qY1 0) (qY2 0) (qY3 0)) ++ w9 ca qY0 SY0 ++ w9 ca qY1 SY1 ++ w9 ca qY3 SY3) X hP hD hS (mX9_isMissing hg) okX9_isMissing wl_X11_129 wi_X9_isMissing ws_X9_X9_isMissing_X9_isMissing ⟨rfl, rfl, Nat.le_of_ble_eq_true rfl, Nat.le_of_ble_eq_true rfl⟩ 9 0 rfl rfl [6, 7] [0, 1, 2, 3, 4, 5, 8, 9] ⟨rfl, rfl, rfl, rfl, by decide⟩ rfl hl.1 (Nat.le_of_ble_eq_true rfl) dX11_pour_46 (fun H locs hP hD hS => ?_)
                  have hP := hP.sub (ws' := (w11 ca qC (.ref (qA 0)) (rC4) (rC6) (rC7) (rC10) (rC11) (rC12) (rC14) (rC15) (rC17) (rC18) (rC19) SC ++ wLT ca qA (rf4 (qY0 0) (qY1 0) (qY2 0) (qY3 0)) ++ w9 ca qY0 SY0 ++ w9 ca qY1 SY1 ++ w9 ca qY2 SY2 ++ w9 ca qY3 SY3)) [0, 1, 2, 3, 4, 5, 8, 9, 6, 7] rfl
                  have hD := hD.sub (ws' := (w11 ca qC (.ref (qA 0)) (rC4) (rC6) (rC7) (rC10) (rC11) (rC12) (rC14) (rC15) (rC17) (rC18) (rC19) SC ++ wLT ca qA (rf4 (qY0 0) (qY1 0) (qY2 0) (qY3 0)) ++ w9 ca qY0 SY0 ++ w9 ca qY1 SY1 ++ w9 ca qY2 SY2 ++ w9 ca qY3 SY3)) [0, 1, 2, 3, 4, 5, 8, 9, 6, 7] rfl rfl
                  refine lv_if_eq (tgt := 58) hx hb dX11_pour_49 (by decide) (fun hc => ?_) (fun hc => ?_)
                  · have hf := tc_pos hc hf
                    refine lv_aload hx hb dX11_pour_58 (lv_at hl 1 rfl) ?_
                    refine va_get (D := (dC, dI)) (ci := 9) (v := .int (gi SY1 1)) (C := RX9) (T := TX9) (N := 3) hx hb hts i_X9 hown hK hP 4 rfl rfl 1 (by decide) (hts _ wf_X11_132) (fun _ h9 => h9) rfl dX11_pour_60 ?_
                    refine lv_aload hx hb dX11_pour_63 (lv_at hl 0 rfl) ?_
                    refine va_get (D := (dC, dI)) (ci := 9) (v := .int (gi SY2 1)) (C := RX9) (T := TX9) (N := 3) hx hb hts i_X9 hown hK hP 6 rfl rfl 1 (by decide) (hts _ wf_X11_132) (fun _ h9 => h9) rfl dX11_pour_65 ?_
                    refine lv_icmp_eq (tgt := 78) hx hb dX11_pour_68 (by decide) (fun hc => ?_) (fun hc => ?_)
                    · have hf := tc_pos hc hf
                      refine lv_iload hx hb dX11_pour_78 (lv_at hl 7 rfl) ?_
                      refine lv_if_ge (tgt := 90) hx hb dX11_pour_80 (by decide) (fun hc => ?_) (fun hc => ?_)
                      · have hf := tc_pos hc hf
                        refine lv_aload hx hb dX11_pour_90 (lv_at hl 1 rfl) ?_
                        refine lv_iload_n hx hb dX11_pour_92 rfl (lv_at hl 4 rfl) ?_
                        refine lv_iload hx hb dX11_pour_93 (lv_at hl 7 rfl) ?_
                        obtain ⟨z59, hg, hf⟩ := tc_bi hf
                        refine tc_iV (As := [.int (a2), .int (a5)]) (rest := []) (b := qY1 0) (wc := w9 ca qY1 SY1) (wr := w11 ca qC (.ref (qA 0)) (rC4) (rC6) (rC7) (rC10) (rC11) (rC12) (rC14) (rC15) (rC17) (rC18) (rC19) SC ++ wLT ca qA (rf4 (qY0 0) (qY1 0) (qY2 0) (qY3 0)) ++ w9 ca qY0 SY0 ++ w9 ca qY2 SY2 ++ w9 ca qY3 SY3) X hP hD hS (mX9_holds hg) okX9_holds wl_X11_135 wi_X9_holds ws_X9_X9_holds_X9_holds ⟨rfl, rfl, Nat.le_of_ble_eq_true rfl, Nat.le_of_ble_eq_true rfl⟩ 9 0 rfl rfl [4, 5] [0, 1, 2, 3, 6, 7, 8, 9] ⟨rfl, rfl, rfl, rfl, by decide⟩ rfl hl.1 (Nat.le_of_ble_eq_true rfl) dX11_pour_95 (fun H locs hP hD hS => ?_)
                        have hP := hP.sub (ws' := (w11 ca qC (.ref (qA 0)) (rC4) (rC6) (rC7) (rC10) (rC11) (rC12) (rC14) (rC15) (rC17) (rC18) (rC19) SC ++ wLT ca qA (rf4 (qY0 0) (qY1 0) (qY2 0) (qY3 0)) ++ w9 ca qY0 SY0 ++ w9 ca qY1 SY1 ++ w9 ca qY2 SY2 ++ w9 ca qY3 SY3)) [0, 1, 2, 3, 8, 9, 4, 5, 6, 7] rfl
                        have hD := hD.sub (ws' := (w11 ca qC (.ref (qA 0)) (rC4) (rC6) (rC7) (rC10) (rC11) (rC12) (rC14) (rC15) (rC17) (rC18) (rC19) SC ++ wLT ca qA (rf4 (qY0 0) (qY1 0) (qY2 0) (qY3 0)) ++ w9 ca qY0 SY0 ++ w9 ca qY1 SY1 ++ w9 ca qY2 SY2 ++ w9 ca qY3 SY3)) [0, 1, 2, 3, 8, 9, 4, 5, 6, 7] rfl rfl
                        refine lv_if_eq (tgt := 113) hx hb dX11_pour_98 (by decide) (fun hc => ?_) (fun hc => ?_)
                        · have hf := tc_pos hc hf
                          exact tX11_pour_113 X z SC SY0 SY1 SY2 SY3 hf _ _ _ hP hD hS (lv_sub hl [2] rfl)
                        · have hf := tc_neg hc hf
                          refine lv_aload hx hb dX11_pour_101 (lv_at hl 0 rfl) ?_
                          refine lv_iload hx hb dX11_pour_103 (lv_at hl 6 rfl) ?_
                          refine lv_iload hx hb dX11_pour_105 (lv_at hl 7 rfl) ?_
                          obtain ⟨z60, hg, hf⟩ := tc_bi hf
                          refine tc_iV (As := [.int (a4), .int (a5)]) (rest := []) (b := qY2 0) (wc := w9 ca qY2 SY2) (wr := w11 ca qC (.ref (qA 0)) (rC4) (rC6) (rC7) (rC10) (rC11) (rC12) (rC14) (rC15) (rC17) (rC18) (rC19) SC ++ wLT ca qA (rf4 (qY0 0) (qY1 0) (qY2 0) (qY3 0)) ++ w9 ca qY0 SY0 ++ w9 ca qY1 SY1 ++ w9 ca qY3 SY3) X hP hD hS (mX9_holds hg) okX9_holds wl_X11_135 wi_X9_holds ws_X9_X9_holds_X9_holds ⟨rfl, rfl, Nat.le_of_ble_eq_true rfl, Nat.le_of_ble_eq_true rfl⟩ 9 0 rfl rfl [6, 7] [0, 1, 2, 3, 4, 5, 8, 9] ⟨rfl, rfl, rfl, rfl, by decide⟩ rfl hl.1 (Nat.le_of_ble_eq_true rfl) dX11_pour_107 (fun H locs hP hD hS => ?_)
                          have hP := hP.sub (ws' := (w11 ca qC (.ref (qA 0)) (rC4) (rC6) (rC7) (rC10) (rC11) (rC12) (rC14) (rC15) (rC17) (rC18) (rC19) SC ++ wLT ca qA (rf4 (qY0 0) (qY1 0) (qY2 0) (qY3 0)) ++ w9 ca qY0 SY0 ++ w9 ca qY1 SY1 ++ w9 ca qY2 SY2 ++ w9 ca qY3 SY3)) [0, 1, 2, 3, 4, 5, 8, 9, 6, 7] rfl
                          have hD := hD.sub (ws' := (w11 ca qC (.ref (qA 0)) (rC4) (rC6) (rC7) (rC10) (rC11) (rC12) (rC14) (rC15) (rC17) (rC18) (rC19) SC ++ wLT ca qA (rf4 (qY0 0) (qY1 0) (qY2 0) (qY3 0)) ++ w9 ca qY0 SY0 ++ w9 ca qY1 SY1 ++ w9 ca qY2 SY2 ++ w9 ca qY3 SY3)) [0, 1, 2, 3, 4, 5, 8, 9, 6, 7] rfl rfl
                          refine lv_if_ne (tgt := 119) hx hb dX11_pour_110 (by decide) (fun hc => ?_) (fun hc => ?_)
                          · have hf := tc_neg hc hf
                            refine lv_aload hx hb dX11_pour_119 (lv_at hl 1 rfl) ?_
                            refine va_get (D := (dC, dI)) (ci := 9) (v := .ref (qY1 1)) (C := RX9) (T := TX9) (N := 3) hx hb hts i_X9 hown hK hP 4 rfl rfl 0 (by decide) (hts _ wf_X11_125) (fun _ h9 => h9) rfl dX11_pour_121 ?_
                            refine lv_iload_n hx hb dX11_pour_124 rfl (lv_at hl 4 rfl) ?_
                            refine lv_aload hx hb dX11_pour_125 (lv_at hl 0 rfl) ?_
                            refine va_get (D := (dC, dI)) (ci := 9) (v := .ref (qY2 1)) (C := RX9) (T := TX9) (N := 3) hx hb hts i_X9 hown hK hP 6 rfl rfl 0 (by decide) (hts _ wf_X11_125) (fun _ h9 => h9) rfl dX11_pour_127 ?_
                            refine lv_iload hx hb dX11_pour_130 (lv_at hl 6 rfl) ?_
                            refine lv_iload hx hb dX11_pour_132 (lv_at hl 7 rfl) ?_
                            obtain ⟨hc61, hf⟩ := tc_ck hf
                            refine tc_cpl (rest := []) X hl.1 wl_X11_139 hP hD hS 5 7 2 2 rfl rfl rfl rfl hc61 (Nat.le_of_ble_eq_true rfl) (Nat.le_of_ble_eq_true rfl) dX11_pour_134 (fun H locs hP hD hS => ?_)
                            have hP := tc_eP (cwm22_4_1 ca qC qA qY0 qY1 qY2 qY3 (rf4 (qY0 0) (qY1 0) (qY2 0) (qY3 0)) (.ref (qA 0)) (rC4) (rC6) (rC7) (rC10) (rC11) (rC12) (rC14) (rC15) (rC17) (rC18) (rC19) SC SY0 SY1 SY2 SY3 (cpl (rl SY1 1) (rl SY2 1) a2 a4 a5)) hP
                            have hD := tc_eD (cwm22_4_1 ca qC qA qY0 qY1 qY2 qY3 (rf4 (qY0 0) (qY1 0) (qY2 0) (qY3 0)) (.ref (qA 0)) (rC4) (rC6) (rC7) (rC10) (rC11) (rC12) (rC14) (rC15) (rC17) (rC18) (rC19) SC SY0 SY1 SY2 SY3 (cpl (rl SY1 1) (rl SY2 1) a2 a4 a5)) hD
                            refine lv_aload_n hx hb dX11_pour_137 rfl (lv_at hl 2 rfl) ?_
                            obtain ⟨z62, hg, hf⟩ := tc_bi hf
                            refine tc_iV (As := []) (rest := []) (b := qC 0) (wc := w11 ca qC (.ref (qA 0)) (rC4) (rC6) (rC7) (rC10) (rC11) (rC12) (rC14) (rC15) (rC17) (rC18) (rC19) SC) (wr := wLT ca qA (rf4 (qY0 0) (qY1 0) (qY2 0) (qY3 0)) ++ w9 ca qY0 SY0 ++ w9 ca qY1 SY1 ++ w9 ca qY2 (sR SY2 1 (cpl (rl SY1 1) (rl SY2 1) a2 a4 a5)) ++ w9 ca qY3 SY3) X hP hD hS (mX11_grant hg) okX11_grant wl_X11_109 wi_X11_grant ws_X11_X11_grant_X11_grant ⟨rfl, rfl, Nat.le_of_ble_eq_true rfl, Nat.le_of_ble_eq_true rfl⟩ 11 0 rfl rfl [0] [1, 2, 3, 4, 5, 6, 7, 8, 9] ⟨rfl, rfl, rfl, rfl, by decide⟩ rfl hl.1 (Nat.le_of_ble_eq_true rfl) dX11_pour_138 (fun H locs hP hD hS => ?_)
                            have hP := hP.sub (ws' := (w11 ca qC (.ref (qA 0)) (rC4) (rC6) (rC7) (rC10) (rC11) (rC12) (rC14) (rC15) (rC17) (rC18) (rC19) z62.2 ++ wLT ca qA (rf4 (qY0 0) (qY1 0) (qY2 0) (qY3 0)) ++ w9 ca qY0 SY0 ++ w9 ca qY1 SY1 ++ w9 ca qY2 (sR SY2 1 (cpl (rl SY1 1) (rl SY2 1) a2 a4 a5)) ++ w9 ca qY3 SY3)) [9, 0, 1, 2, 3, 4, 5, 6, 7, 8] rfl
                            have hD := hD.sub (ws' := (w11 ca qC (.ref (qA 0)) (rC4) (rC6) (rC7) (rC10) (rC11) (rC12) (rC14) (rC15) (rC17) (rC18) (rC19) z62.2 ++ wLT ca qA (rf4 (qY0 0) (qY1 0) (qY2 0) (qY3 0)) ++ w9 ca qY0 SY0 ++ w9 ca qY1 SY1 ++ w9 ca qY2 (sR SY2 1 (cpl (rl SY1 1) (rl SY2 1) a2 a4 a5)) ++ w9 ca qY3 SY3)) [9, 0, 1, 2, 3, 4, 5, 6, 7, 8] rfl rfl
                            obtain ⟨hz1, hf⟩ := tc_ck hf
                            obtain rfl := Option.some.inj hf
                            exact tc_rz X hP hD hS rfl dX11_pour_141 hz1 rfl rfl
                          · have hf := tc_pos hc hf
                            exact tX11_pour_113 X z SC SY0 SY1 SY2 SY3 hf _ _ _ hP hD hS (lv_sub hl [2] rfl)
                      · have hf := tc_neg hc hf
                        refine lv_aload_n hx hb dX11_pour_83 rfl (lv_at hl 2 rfl) ?_
                        refine lv_bipush (v := (6 : Int32)) hx hb dX11_pour_84 (by decide) ?_
                        obtain ⟨z63, hg, hf⟩ := tc_bi hf
                        refine tc_iV (As := [.int ((6 : Int32))]) (rest := []) (b := qC 0) (wc := w11 ca qC (.ref (qA 0)) (rC4) (rC6) (rC7) (rC10) (rC11) (rC12) (rC14) (rC15) (rC17) (rC18) (rC19) SC) (wr := wLT ca qA (rf4 (qY0 0) (qY1 0) (qY2 0) (qY3 0)) ++ w9 ca qY0 SY0 ++ w9 ca qY1 SY1 ++ w9 ca qY2 SY2 ++ w9 ca qY3 SY3) X hP hD hS (mX11_deny hg) okX11_deny wl_X11_102 wi_X11_deny ws_X11_X11_deny_X11_deny ⟨rfl, rfl, Nat.le_of_ble_eq_true rfl, Nat.le_of_ble_eq_true rfl⟩ 11 0 rfl rfl [0] [1, 2, 3, 4, 5, 6, 7, 8, 9] ⟨rfl, rfl, rfl, rfl, by decide⟩ rfl hl.1 (Nat.le_of_ble_eq_true rfl) dX11_pour_86 (fun H locs hP hD hS => ?_)
                        have hP := hP.sub (ws' := (w11 ca qC (.ref (qA 0)) (rC4) (rC6) (rC7) (rC10) (rC11) (rC12) (rC14) (rC15) (rC17) (rC18) (rC19) z63.2 ++ wLT ca qA (rf4 (qY0 0) (qY1 0) (qY2 0) (qY3 0)) ++ w9 ca qY0 SY0 ++ w9 ca qY1 SY1 ++ w9 ca qY2 SY2 ++ w9 ca qY3 SY3)) [9, 0, 1, 2, 3, 4, 5, 6, 7, 8] rfl
                        have hD := hD.sub (ws' := (w11 ca qC (.ref (qA 0)) (rC4) (rC6) (rC7) (rC10) (rC11) (rC12) (rC14) (rC15) (rC17) (rC18) (rC19) z63.2 ++ wLT ca qA (rf4 (qY0 0) (qY1 0) (qY2 0) (qY3 0)) ++ w9 ca qY0 SY0 ++ w9 ca qY1 SY1 ++ w9 ca qY2 SY2 ++ w9 ca qY3 SY3)) [9, 0, 1, 2, 3, 4, 5, 6, 7, 8] rfl rfl
                        obtain ⟨hz1, hf⟩ := tc_ck hf
                        obtain rfl := Option.some.inj hf
                        exact tc_rz X hP hD hS rfl dX11_pour_89 hz1 rfl rfl
                    · have hf := tc_neg hc hf
                      refine lv_aload_n hx hb dX11_pour_71 rfl (lv_at hl 2 rfl) ?_
                      refine lv_bipush (v := (11 : Int32)) hx hb dX11_pour_72 (by decide) ?_
                      obtain ⟨z64, hg, hf⟩ := tc_bi hf
                      refine tc_iV (As := [.int ((11 : Int32))]) (rest := []) (b := qC 0) (wc := w11 ca qC (.ref (qA 0)) (rC4) (rC6) (rC7) (rC10) (rC11) (rC12) (rC14) (rC15) (rC17) (rC18) (rC19) SC) (wr := wLT ca qA (rf4 (qY0 0) (qY1 0) (qY2 0) (qY3 0)) ++ w9 ca qY0 SY0 ++ w9 ca qY1 SY1 ++ w9 ca qY2 SY2 ++ w9 ca qY3 SY3) X hP hD hS (mX11_deny hg) okX11_deny wl_X11_102 wi_X11_deny ws_X11_X11_deny_X11_deny ⟨rfl, rfl, Nat.le_of_ble_eq_true rfl, Nat.le_of_ble_eq_true rfl⟩ 11 0 rfl rfl [0] [1, 2, 3, 4, 5, 6, 7, 8, 9] ⟨rfl, rfl, rfl, rfl, by decide⟩ rfl hl.1 (Nat.le_of_ble_eq_true rfl) dX11_pour_74 (fun H locs hP hD hS => ?_)
                      have hP := hP.sub (ws' := (w11 ca qC (.ref (qA 0)) (rC4) (rC6) (rC7) (rC10) (rC11) (rC12) (rC14) (rC15) (rC17) (rC18) (rC19) z64.2 ++ wLT ca qA (rf4 (qY0 0) (qY1 0) (qY2 0) (qY3 0)) ++ w9 ca qY0 SY0 ++ w9 ca qY1 SY1 ++ w9 ca qY2 SY2 ++ w9 ca qY3 SY3)) [9, 0, 1, 2, 3, 4, 5, 6, 7, 8] rfl
                      have hD := hD.sub (ws' := (w11 ca qC (.ref (qA 0)) (rC4) (rC6) (rC7) (rC10) (rC11) (rC12) (rC14) (rC15) (rC17) (rC18) (rC19) z64.2 ++ wLT ca qA (rf4 (qY0 0) (qY1 0) (qY2 0) (qY3 0)) ++ w9 ca qY0 SY0 ++ w9 ca qY1 SY1 ++ w9 ca qY2 SY2 ++ w9 ca qY3 SY3)) [9, 0, 1, 2, 3, 4, 5, 6, 7, 8] rfl rfl
                      obtain ⟨hz1, hf⟩ := tc_ck hf
                      obtain rfl := Option.some.inj hf
                      exact tc_rz X hP hD hS rfl dX11_pour_77 hz1 rfl rfl
                  · have hf := tc_neg hc hf
                    exact tX11_pour_52 X z SC SY0 SY1 SY2 SY3 hf _ _ _ hP hD hS (lv_sub hl [2] rfl)
              · have hf := tc_neg hq40_2 hf
                by_cases hq40_3 : a3 = (3 : Int32)
                · have hf := tc_pos hq40_3 hf
                  refine tc_ald (b := qY3 0) X hP 1 4 rfl rfl 3 (by rw [hq40_3]; decide) (by rw [hq40_3]; exact inb_vp (by decide)) rfl dX11_pour_33 ?_
                  refine lv_astore (lv' := [(7, .ref (qY3 0)), (6, .ref (qY1 0)), (0, .ref (qC 0)), (1, .int (a1)), (2, .int (a2)), (3, .int (a3)), (4, .int (a4)), (5, .int (a5))]) hx hb dX11_pour_34 hl (by decide) rfl (fun ls hl => ?_)
                  refine lv_aload hx hb dX11_pour_36 (lv_at hl 1 rfl) ?_
                  obtain ⟨z65, hg, hf⟩ := tc_bi hf
                  refine tc_iV (As := []) (rest := []) (b := qY1 0) (wc := w9 ca qY1 SY1) (wr := w11 ca qC (.ref (qA 0)) (rC4) (rC6) (rC7) (rC10) (rC11) (rC12) (rC14) (rC15) (rC17) (rC18) (rC19) SC ++ wLT ca qA (rf4 (qY0 0) (qY1 0) (qY2 0) (qY3 0)) ++ w9 ca qY0 SY0 ++ w9 ca qY2 SY2 ++ w9 ca qY3 SY3) X hP hD hS (mX9_isMissing hg) okX9_isMissing wl_X11_129 wi_X9_isMissing ws_X9_X9_isMissing_X9_isMissing ⟨rfl, rfl, Nat.le_of_ble_eq_true rfl, Nat.le_of_ble_eq_true rfl⟩ 9 0 rfl rfl [4, 5] [0, 1, 2, 3, 6, 7, 8, 9] ⟨rfl, rfl, rfl, rfl, by decide⟩ rfl hl.1 (Nat.le_of_ble_eq_true rfl) dX11_pour_38 (fun H locs hP hD hS => ?_)
                  have hP := hP.sub (ws' := (w11 ca qC (.ref (qA 0)) (rC4) (rC6) (rC7) (rC10) (rC11) (rC12) (rC14) (rC15) (rC17) (rC18) (rC19) SC ++ wLT ca qA (rf4 (qY0 0) (qY1 0) (qY2 0) (qY3 0)) ++ w9 ca qY0 SY0 ++ w9 ca qY1 SY1 ++ w9 ca qY2 SY2 ++ w9 ca qY3 SY3)) [0, 1, 2, 3, 8, 9, 4, 5, 6, 7] rfl
                  have hD := hD.sub (ws' := (w11 ca qC (.ref (qA 0)) (rC4) (rC6) (rC7) (rC10) (rC11) (rC12) (rC14) (rC15) (rC17) (rC18) (rC19) SC ++ wLT ca qA (rf4 (qY0 0) (qY1 0) (qY2 0) (qY3 0)) ++ w9 ca qY0 SY0 ++ w9 ca qY1 SY1 ++ w9 ca qY2 SY2 ++ w9 ca qY3 SY3)) [0, 1, 2, 3, 8, 9, 4, 5, 6, 7] rfl rfl
                  refine lv_if_ne (tgt := 52) hx hb dX11_pour_41 (by decide) (fun hc => ?_) (fun hc => ?_)
                  · have hf := tc_neg hc hf
                    exact tX11_pour_52 X z SC SY0 SY1 SY2 SY3 hf _ _ _ hP hD hS (lv_sub hl [2] rfl)
                  · have hf := tc_pos hc hf
                    refine lv_aload hx hb dX11_pour_44 (lv_at hl 0 rfl) ?_
                    obtain ⟨z66, hg, hf⟩ := tc_bi hf
                    refine tc_iV (As := []) (rest := []) (b := qY3 0) (wc := w9 ca qY3 SY3) (wr := w11 ca qC (.ref (qA 0)) (rC4) (rC6) (rC7) (rC10) (rC11) (rC12) (rC14) (rC15) (rC17) (rC18) (rC19) SC ++ wLT ca qA (rf4 (qY0 0) (qY1 0) (qY2 0) (qY3 0)) ++ w9 ca qY0 SY0 ++ w9 ca qY1 SY1 ++ w9 ca qY2 SY2) X hP hD hS (mX9_isMissing hg) okX9_isMissing wl_X11_129 wi_X9_isMissing ws_X9_X9_isMissing_X9_isMissing ⟨rfl, rfl, Nat.le_of_ble_eq_true rfl, Nat.le_of_ble_eq_true rfl⟩ 9 0 rfl rfl [8, 9] [0, 1, 2, 3, 4, 5, 6, 7] ⟨rfl, rfl, rfl, rfl, by decide⟩ rfl hl.1 (Nat.le_of_ble_eq_true rfl) dX11_pour_46 (fun H locs hP hD hS => ?_)
                    have hP := hP.sub (ws' := (w11 ca qC (.ref (qA 0)) (rC4) (rC6) (rC7) (rC10) (rC11) (rC12) (rC14) (rC15) (rC17) (rC18) (rC19) SC ++ wLT ca qA (rf4 (qY0 0) (qY1 0) (qY2 0) (qY3 0)) ++ w9 ca qY0 SY0 ++ w9 ca qY1 SY1 ++ w9 ca qY2 SY2 ++ w9 ca qY3 SY3)) [0, 1, 2, 3, 4, 5, 6, 7, 8, 9] rfl
                    have hD := hD.sub (ws' := (w11 ca qC (.ref (qA 0)) (rC4) (rC6) (rC7) (rC10) (rC11) (rC12) (rC14) (rC15) (rC17) (rC18) (rC19) SC ++ wLT ca qA (rf4 (qY0 0) (qY1 0) (qY2 0) (qY3 0)) ++ w9 ca qY0 SY0 ++ w9 ca qY1 SY1 ++ w9 ca qY2 SY2 ++ w9 ca qY3 SY3)) [0, 1, 2, 3, 4, 5, 6, 7, 8, 9] rfl rfl
                    refine lv_if_eq (tgt := 58) hx hb dX11_pour_49 (by decide) (fun hc => ?_) (fun hc => ?_)
                    · have hf := tc_pos hc hf
                      refine lv_aload hx hb dX11_pour_58 (lv_at hl 1 rfl) ?_
                      refine va_get (D := (dC, dI)) (ci := 9) (v := .int (gi SY1 1)) (C := RX9) (T := TX9) (N := 3) hx hb hts i_X9 hown hK hP 4 rfl rfl 1 (by decide) (hts _ wf_X11_132) (fun _ h9 => h9) rfl dX11_pour_60 ?_
                      refine lv_aload hx hb dX11_pour_63 (lv_at hl 0 rfl) ?_
                      refine va_get (D := (dC, dI)) (ci := 9) (v := .int (gi SY3 1)) (C := RX9) (T := TX9) (N := 3) hx hb hts i_X9 hown hK hP 8 rfl rfl 1 (by decide) (hts _ wf_X11_132) (fun _ h9 => h9) rfl dX11_pour_65 ?_
                      refine lv_icmp_eq (tgt := 78) hx hb dX11_pour_68 (by decide) (fun hc => ?_) (fun hc => ?_)
                      · have hf := tc_pos hc hf
                        refine lv_iload hx hb dX11_pour_78 (lv_at hl 7 rfl) ?_
                        refine lv_if_ge (tgt := 90) hx hb dX11_pour_80 (by decide) (fun hc => ?_) (fun hc => ?_)
                        · have hf := tc_pos hc hf
                          refine lv_aload hx hb dX11_pour_90 (lv_at hl 1 rfl) ?_
                          refine lv_iload_n hx hb dX11_pour_92 rfl (lv_at hl 4 rfl) ?_
                          refine lv_iload hx hb dX11_pour_93 (lv_at hl 7 rfl) ?_
                          obtain ⟨z67, hg, hf⟩ := tc_bi hf
                          refine tc_iV (As := [.int (a2), .int (a5)]) (rest := []) (b := qY1 0) (wc := w9 ca qY1 SY1) (wr := w11 ca qC (.ref (qA 0)) (rC4) (rC6) (rC7) (rC10) (rC11) (rC12) (rC14) (rC15) (rC17) (rC18) (rC19) SC ++ wLT ca qA (rf4 (qY0 0) (qY1 0) (qY2 0) (qY3 0)) ++ w9 ca qY0 SY0 ++ w9 ca qY2 SY2 ++ w9 ca qY3 SY3) X hP hD hS (mX9_holds hg) okX9_holds wl_X11_135 wi_X9_holds ws_X9_X9_holds_X9_holds ⟨rfl, rfl, Nat.le_of_ble_eq_true rfl, Nat.le_of_ble_eq_true rfl⟩ 9 0 rfl rfl [4, 5] [0, 1, 2, 3, 6, 7, 8, 9] ⟨rfl, rfl, rfl, rfl, by decide⟩ rfl hl.1 (Nat.le_of_ble_eq_true rfl) dX11_pour_95 (fun H locs hP hD hS => ?_)
                          have hP := hP.sub (ws' := (w11 ca qC (.ref (qA 0)) (rC4) (rC6) (rC7) (rC10) (rC11) (rC12) (rC14) (rC15) (rC17) (rC18) (rC19) SC ++ wLT ca qA (rf4 (qY0 0) (qY1 0) (qY2 0) (qY3 0)) ++ w9 ca qY0 SY0 ++ w9 ca qY1 SY1 ++ w9 ca qY2 SY2 ++ w9 ca qY3 SY3)) [0, 1, 2, 3, 8, 9, 4, 5, 6, 7] rfl
                          have hD := hD.sub (ws' := (w11 ca qC (.ref (qA 0)) (rC4) (rC6) (rC7) (rC10) (rC11) (rC12) (rC14) (rC15) (rC17) (rC18) (rC19) SC ++ wLT ca qA (rf4 (qY0 0) (qY1 0) (qY2 0) (qY3 0)) ++ w9 ca qY0 SY0 ++ w9 ca qY1 SY1 ++ w9 ca qY2 SY2 ++ w9 ca qY3 SY3)) [0, 1, 2, 3, 8, 9, 4, 5, 6, 7] rfl rfl
                          refine lv_if_eq (tgt := 113) hx hb dX11_pour_98 (by decide) (fun hc => ?_) (fun hc => ?_)
                          · have hf := tc_pos hc hf
                            exact tX11_pour_113 X z SC SY0 SY1 SY2 SY3 hf _ _ _ hP hD hS (lv_sub hl [2] rfl)
                          · have hf := tc_neg hc hf
                            refine lv_aload hx hb dX11_pour_101 (lv_at hl 0 rfl) ?_
                            refine lv_iload hx hb dX11_pour_103 (lv_at hl 6 rfl) ?_
                            refine lv_iload hx hb dX11_pour_105 (lv_at hl 7 rfl) ?_
                            obtain ⟨z68, hg, hf⟩ := tc_bi hf
                            refine tc_iV (As := [.int (a4), .int (a5)]) (rest := []) (b := qY3 0) (wc := w9 ca qY3 SY3) (wr := w11 ca qC (.ref (qA 0)) (rC4) (rC6) (rC7) (rC10) (rC11) (rC12) (rC14) (rC15) (rC17) (rC18) (rC19) SC ++ wLT ca qA (rf4 (qY0 0) (qY1 0) (qY2 0) (qY3 0)) ++ w9 ca qY0 SY0 ++ w9 ca qY1 SY1 ++ w9 ca qY2 SY2) X hP hD hS (mX9_holds hg) okX9_holds wl_X11_135 wi_X9_holds ws_X9_X9_holds_X9_holds ⟨rfl, rfl, Nat.le_of_ble_eq_true rfl, Nat.le_of_ble_eq_true rfl⟩ 9 0 rfl rfl [8, 9] [0, 1, 2, 3, 4, 5, 6, 7] ⟨rfl, rfl, rfl, rfl, by decide⟩ rfl hl.1 (Nat.le_of_ble_eq_true rfl) dX11_pour_107 (fun H locs hP hD hS => ?_)
                            have hP := hP.sub (ws' := (w11 ca qC (.ref (qA 0)) (rC4) (rC6) (rC7) (rC10) (rC11) (rC12) (rC14) (rC15) (rC17) (rC18) (rC19) SC ++ wLT ca qA (rf4 (qY0 0) (qY1 0) (qY2 0) (qY3 0)) ++ w9 ca qY0 SY0 ++ w9 ca qY1 SY1 ++ w9 ca qY2 SY2 ++ w9 ca qY3 SY3)) [0, 1, 2, 3, 4, 5, 6, 7, 8, 9] rfl
                            have hD := hD.sub (ws' := (w11 ca qC (.ref (qA 0)) (rC4) (rC6) (rC7) (rC10) (rC11) (rC12) (rC14) (rC15) (rC17) (rC18) (rC19) SC ++ wLT ca qA (rf4 (qY0 0) (qY1 0) (qY2 0) (qY3 0)) ++ w9 ca qY0 SY0 ++ w9 ca qY1 SY1 ++ w9 ca qY2 SY2 ++ w9 ca qY3 SY3)) [0, 1, 2, 3, 4, 5, 6, 7, 8, 9] rfl rfl
                            refine lv_if_ne (tgt := 119) hx hb dX11_pour_110 (by decide) (fun hc => ?_) (fun hc => ?_)
                            · have hf := tc_neg hc hf
                              refine lv_aload hx hb dX11_pour_119 (lv_at hl 1 rfl) ?_
                              refine va_get (D := (dC, dI)) (ci := 9) (v := .ref (qY1 1)) (C := RX9) (T := TX9) (N := 3) hx hb hts i_X9 hown hK hP 4 rfl rfl 0 (by decide) (hts _ wf_X11_125) (fun _ h9 => h9) rfl dX11_pour_121 ?_
                              refine lv_iload_n hx hb dX11_pour_124 rfl (lv_at hl 4 rfl) ?_
                              refine lv_aload hx hb dX11_pour_125 (lv_at hl 0 rfl) ?_
                              refine va_get (D := (dC, dI)) (ci := 9) (v := .ref (qY3 1)) (C := RX9) (T := TX9) (N := 3) hx hb hts i_X9 hown hK hP 8 rfl rfl 0 (by decide) (hts _ wf_X11_125) (fun _ h9 => h9) rfl dX11_pour_127 ?_
                              refine lv_iload hx hb dX11_pour_130 (lv_at hl 6 rfl) ?_
                              refine lv_iload hx hb dX11_pour_132 (lv_at hl 7 rfl) ?_
                              obtain ⟨hc69, hf⟩ := tc_ck hf
                              refine tc_cpl (rest := []) X hl.1 wl_X11_139 hP hD hS 5 9 2 2 rfl rfl rfl rfl hc69 (Nat.le_of_ble_eq_true rfl) (Nat.le_of_ble_eq_true rfl) dX11_pour_134 (fun H locs hP hD hS => ?_)
                              have hP := tc_eP (cwm22_5_1 ca qC qA qY0 qY1 qY2 qY3 (rf4 (qY0 0) (qY1 0) (qY2 0) (qY3 0)) (.ref (qA 0)) (rC4) (rC6) (rC7) (rC10) (rC11) (rC12) (rC14) (rC15) (rC17) (rC18) (rC19) SC SY0 SY1 SY2 SY3 (cpl (rl SY1 1) (rl SY3 1) a2 a4 a5)) hP
                              have hD := tc_eD (cwm22_5_1 ca qC qA qY0 qY1 qY2 qY3 (rf4 (qY0 0) (qY1 0) (qY2 0) (qY3 0)) (.ref (qA 0)) (rC4) (rC6) (rC7) (rC10) (rC11) (rC12) (rC14) (rC15) (rC17) (rC18) (rC19) SC SY0 SY1 SY2 SY3 (cpl (rl SY1 1) (rl SY3 1) a2 a4 a5)) hD
                              refine lv_aload_n hx hb dX11_pour_137 rfl (lv_at hl 2 rfl) ?_
                              obtain ⟨z70, hg, hf⟩ := tc_bi hf
                              refine tc_iV (As := []) (rest := []) (b := qC 0) (wc := w11 ca qC (.ref (qA 0)) (rC4) (rC6) (rC7) (rC10) (rC11) (rC12) (rC14) (rC15) (rC17) (rC18) (rC19) SC) (wr := wLT ca qA (rf4 (qY0 0) (qY1 0) (qY2 0) (qY3 0)) ++ w9 ca qY0 SY0 ++ w9 ca qY1 SY1 ++ w9 ca qY2 SY2 ++ w9 ca qY3 (sR SY3 1 (cpl (rl SY1 1) (rl SY3 1) a2 a4 a5))) X hP hD hS (mX11_grant hg) okX11_grant wl_X11_109 wi_X11_grant ws_X11_X11_grant_X11_grant ⟨rfl, rfl, Nat.le_of_ble_eq_true rfl, Nat.le_of_ble_eq_true rfl⟩ 11 0 rfl rfl [0] [1, 2, 3, 4, 5, 6, 7, 8, 9] ⟨rfl, rfl, rfl, rfl, by decide⟩ rfl hl.1 (Nat.le_of_ble_eq_true rfl) dX11_pour_138 (fun H locs hP hD hS => ?_)
                              have hP := hP.sub (ws' := (w11 ca qC (.ref (qA 0)) (rC4) (rC6) (rC7) (rC10) (rC11) (rC12) (rC14) (rC15) (rC17) (rC18) (rC19) z70.2 ++ wLT ca qA (rf4 (qY0 0) (qY1 0) (qY2 0) (qY3 0)) ++ w9 ca qY0 SY0 ++ w9 ca qY1 SY1 ++ w9 ca qY2 SY2 ++ w9 ca qY3 (sR SY3 1 (cpl (rl SY1 1) (rl SY3 1) a2 a4 a5)))) [9, 0, 1, 2, 3, 4, 5, 6, 7, 8] rfl
                              have hD := hD.sub (ws' := (w11 ca qC (.ref (qA 0)) (rC4) (rC6) (rC7) (rC10) (rC11) (rC12) (rC14) (rC15) (rC17) (rC18) (rC19) z70.2 ++ wLT ca qA (rf4 (qY0 0) (qY1 0) (qY2 0) (qY3 0)) ++ w9 ca qY0 SY0 ++ w9 ca qY1 SY1 ++ w9 ca qY2 SY2 ++ w9 ca qY3 (sR SY3 1 (cpl (rl SY1 1) (rl SY3 1) a2 a4 a5)))) [9, 0, 1, 2, 3, 4, 5, 6, 7, 8] rfl rfl
                              obtain ⟨hz1, hf⟩ := tc_ck hf
                              obtain rfl := Option.some.inj hf
                              exact tc_rz X hP hD hS rfl dX11_pour_141 hz1 rfl rfl
                            · have hf := tc_pos hc hf
                              exact tX11_pour_113 X z SC SY0 SY1 SY2 SY3 hf _ _ _ hP hD hS (lv_sub hl [2] rfl)
                        · have hf := tc_neg hc hf
                          refine lv_aload_n hx hb dX11_pour_83 rfl (lv_at hl 2 rfl) ?_
                          refine lv_bipush (v := (6 : Int32)) hx hb dX11_pour_84 (by decide) ?_
                          obtain ⟨z71, hg, hf⟩ := tc_bi hf
                          refine tc_iV (As := [.int ((6 : Int32))]) (rest := []) (b := qC 0) (wc := w11 ca qC (.ref (qA 0)) (rC4) (rC6) (rC7) (rC10) (rC11) (rC12) (rC14) (rC15) (rC17) (rC18) (rC19) SC) (wr := wLT ca qA (rf4 (qY0 0) (qY1 0) (qY2 0) (qY3 0)) ++ w9 ca qY0 SY0 ++ w9 ca qY1 SY1 ++ w9 ca qY2 SY2 ++ w9 ca qY3 SY3) X hP hD hS (mX11_deny hg) okX11_deny wl_X11_102 wi_X11_deny ws_X11_X11_deny_X11_deny ⟨rfl, rfl, Nat.le_of_ble_eq_true rfl, Nat.le_of_ble_eq_true rfl⟩ 11 0 rfl rfl [0] [1, 2, 3, 4, 5, 6, 7, 8, 9] ⟨rfl, rfl, rfl, rfl, by decide⟩ rfl hl.1 (Nat.le_of_ble_eq_true rfl) dX11_pour_86 (fun H locs hP hD hS => ?_)
                          have hP := hP.sub (ws' := (w11 ca qC (.ref (qA 0)) (rC4) (rC6) (rC7) (rC10) (rC11) (rC12) (rC14) (rC15) (rC17) (rC18) (rC19) z71.2 ++ wLT ca qA (rf4 (qY0 0) (qY1 0) (qY2 0) (qY3 0)) ++ w9 ca qY0 SY0 ++ w9 ca qY1 SY1 ++ w9 ca qY2 SY2 ++ w9 ca qY3 SY3)) [9, 0, 1, 2, 3, 4, 5, 6, 7, 8] rfl
                          have hD := hD.sub (ws' := (w11 ca qC (.ref (qA 0)) (rC4) (rC6) (rC7) (rC10) (rC11) (rC12) (rC14) (rC15) (rC17) (rC18) (rC19) z71.2 ++ wLT ca qA (rf4 (qY0 0) (qY1 0) (qY2 0) (qY3 0)) ++ w9 ca qY0 SY0 ++ w9 ca qY1 SY1 ++ w9 ca qY2 SY2 ++ w9 ca qY3 SY3)) [9, 0, 1, 2, 3, 4, 5, 6, 7, 8] rfl rfl
                          obtain ⟨hz1, hf⟩ := tc_ck hf
                          obtain rfl := Option.some.inj hf
                          exact tc_rz X hP hD hS rfl dX11_pour_89 hz1 rfl rfl
                      · have hf := tc_neg hc hf
                        refine lv_aload_n hx hb dX11_pour_71 rfl (lv_at hl 2 rfl) ?_
                        refine lv_bipush (v := (11 : Int32)) hx hb dX11_pour_72 (by decide) ?_
                        obtain ⟨z72, hg, hf⟩ := tc_bi hf
                        refine tc_iV (As := [.int ((11 : Int32))]) (rest := []) (b := qC 0) (wc := w11 ca qC (.ref (qA 0)) (rC4) (rC6) (rC7) (rC10) (rC11) (rC12) (rC14) (rC15) (rC17) (rC18) (rC19) SC) (wr := wLT ca qA (rf4 (qY0 0) (qY1 0) (qY2 0) (qY3 0)) ++ w9 ca qY0 SY0 ++ w9 ca qY1 SY1 ++ w9 ca qY2 SY2 ++ w9 ca qY3 SY3) X hP hD hS (mX11_deny hg) okX11_deny wl_X11_102 wi_X11_deny ws_X11_X11_deny_X11_deny ⟨rfl, rfl, Nat.le_of_ble_eq_true rfl, Nat.le_of_ble_eq_true rfl⟩ 11 0 rfl rfl [0] [1, 2, 3, 4, 5, 6, 7, 8, 9] ⟨rfl, rfl, rfl, rfl, by decide⟩ rfl hl.1 (Nat.le_of_ble_eq_true rfl) dX11_pour_74 (fun H locs hP hD hS => ?_)
                        have hP := hP.sub (ws' := (w11 ca qC (.ref (qA 0)) (rC4) (rC6) (rC7) (rC10) (rC11) (rC12) (rC14) (rC15) (rC17) (rC18) (rC19) z72.2 ++ wLT ca qA (rf4 (qY0 0) (qY1 0) (qY2 0) (qY3 0)) ++ w9 ca qY0 SY0 ++ w9 ca qY1 SY1 ++ w9 ca qY2 SY2 ++ w9 ca qY3 SY3)) [9, 0, 1, 2, 3, 4, 5, 6, 7, 8] rfl
                        have hD := hD.sub (ws' := (w11 ca qC (.ref (qA 0)) (rC4) (rC6) (rC7) (rC10) (rC11) (rC12) (rC14) (rC15) (rC17) (rC18) (rC19) z72.2 ++ wLT ca qA (rf4 (qY0 0) (qY1 0) (qY2 0) (qY3 0)) ++ w9 ca qY0 SY0 ++ w9 ca qY1 SY1 ++ w9 ca qY2 SY2 ++ w9 ca qY3 SY3)) [9, 0, 1, 2, 3, 4, 5, 6, 7, 8] rfl rfl
                        obtain ⟨hz1, hf⟩ := tc_ck hf
                        obtain rfl := Option.some.inj hf
                        exact tc_rz X hP hD hS rfl dX11_pour_77 hz1 rfl rfl
                    · have hf := tc_neg hc hf
                      exact tX11_pour_52 X z SC SY0 SY1 SY2 SY3 hf _ _ _ hP hD hS (lv_sub hl [2] rfl)
                · have hf := tc_neg hq40_3 hf
                  cases hf
        · have hf := tc_neg hq4_1 hf
          by_cases hq4_2 : a1 = (2 : Int32)
          · have hf := tc_pos hq4_2 hf
            refine tc_ald (b := qY2 0) X hP 1 4 rfl rfl 2 (by rw [hq4_2]; decide) (by rw [hq4_2]; exact inb_vp (by decide)) rfl dX11_pour_25 ?_
            refine lv_astore (lv' := [(6, .ref (qY2 0)), (0, .ref (qC 0)), (1, .int (a1)), (2, .int (a2)), (3, .int (a3)), (4, .int (a4)), (5, .int (a5))]) hx hb dX11_pour_26 hl (by decide) rfl (fun ls hl => ?_)
            refine lv_aload_n hx hb dX11_pour_28 rfl (lv_at hl 1 rfl) ?_
            refine va_get (D := (dC, dI)) (ci := 11) (v := .ref (qA 0)) (C := RX11) (T := TX11) (N := 20) hx hb hts i_X11 hown hK hP 0 rfl rfl 3 (by decide) (hts _ wf_X11_11) (fun _ h9 => h9) rfl dX11_pour_29 ?_
            refine lv_iload_n hx hb dX11_pour_32 rfl (lv_at hl 4 rfl) ?_
            by_cases hq73_0 : a3 = (0 : Int32)
            · have hf := tc_pos hq73_0 hf
              refine tc_ald (b := qY0 0) X hP 1 4 rfl rfl 0 (by rw [hq73_0]; decide) (by rw [hq73_0]; exact inb_vp (by decide)) rfl dX11_pour_33 ?_
              refine lv_astore (lv' := [(7, .ref (qY0 0)), (6, .ref (qY2 0)), (0, .ref (qC 0)), (1, .int (a1)), (2, .int (a2)), (3, .int (a3)), (4, .int (a4)), (5, .int (a5))]) hx hb dX11_pour_34 hl (by decide) rfl (fun ls hl => ?_)
              refine lv_aload hx hb dX11_pour_36 (lv_at hl 1 rfl) ?_
              obtain ⟨z74, hg, hf⟩ := tc_bi hf
              refine tc_iV (As := []) (rest := []) (b := qY2 0) (wc := w9 ca qY2 SY2) (wr := w11 ca qC (.ref (qA 0)) (rC4) (rC6) (rC7) (rC10) (rC11) (rC12) (rC14) (rC15) (rC17) (rC18) (rC19) SC ++ wLT ca qA (rf4 (qY0 0) (qY1 0) (qY2 0) (qY3 0)) ++ w9 ca qY0 SY0 ++ w9 ca qY1 SY1 ++ w9 ca qY3 SY3) X hP hD hS (mX9_isMissing hg) okX9_isMissing wl_X11_129 wi_X9_isMissing ws_X9_X9_isMissing_X9_isMissing ⟨rfl, rfl, Nat.le_of_ble_eq_true rfl, Nat.le_of_ble_eq_true rfl⟩ 9 0 rfl rfl [6, 7] [0, 1, 2, 3, 4, 5, 8, 9] ⟨rfl, rfl, rfl, rfl, by decide⟩ rfl hl.1 (Nat.le_of_ble_eq_true rfl) dX11_pour_38 (fun H locs hP hD hS => ?_)
              have hP := hP.sub (ws' := (w11 ca qC (.ref (qA 0)) (rC4) (rC6) (rC7) (rC10) (rC11) (rC12) (rC14) (rC15) (rC17) (rC18) (rC19) SC ++ wLT ca qA (rf4 (qY0 0) (qY1 0) (qY2 0) (qY3 0)) ++ w9 ca qY0 SY0 ++ w9 ca qY1 SY1 ++ w9 ca qY2 SY2 ++ w9 ca qY3 SY3)) [0, 1, 2, 3, 4, 5, 8, 9, 6, 7] rfl
              have hD := hD.sub (ws' := (w11 ca qC (.ref (qA 0)) (rC4) (rC6) (rC7) (rC10) (rC11) (rC12) (rC14) (rC15) (rC17) (rC18) (rC19) SC ++ wLT ca qA (rf4 (qY0 0) (qY1 0) (qY2 0) (qY3 0)) ++ w9 ca qY0 SY0 ++ w9 ca qY1 SY1 ++ w9 ca qY2 SY2 ++ w9 ca qY3 SY3)) [0, 1, 2, 3, 4, 5, 8, 9, 6, 7] rfl rfl
              refine lv_if_ne (tgt := 52) hx hb dX11_pour_41 (by decide) (fun hc => ?_) (fun hc => ?_)
              · have hf := tc_neg hc hf
                exact tX11_pour_52 X z SC SY0 SY1 SY2 SY3 hf _ _ _ hP hD hS (lv_sub hl [2] rfl)
              · have hf := tc_pos hc hf
                refine lv_aload hx hb dX11_pour_44 (lv_at hl 0 rfl) ?_
                obtain ⟨z75, hg, hf⟩ := tc_bi hf
                refine tc_iV (As := []) (rest := []) (b := qY0 0) (wc := w9 ca qY0 SY0) (wr := w11 ca qC (.ref (qA 0)) (rC4) (rC6) (rC7) (rC10) (rC11) (rC12) (rC14) (rC15) (rC17) (rC18) (rC19) SC ++ wLT ca qA (rf4 (qY0 0) (qY1 0) (qY2 0) (qY3 0)) ++ w9 ca qY1 SY1 ++ w9 ca qY2 SY2 ++ w9 ca qY3 SY3) X hP hD hS (mX9_isMissing hg) okX9_isMissing wl_X11_129 wi_X9_isMissing ws_X9_X9_isMissing_X9_isMissing ⟨rfl, rfl, Nat.le_of_ble_eq_true rfl, Nat.le_of_ble_eq_true rfl⟩ 9 0 rfl rfl [2, 3] [0, 1, 4, 5, 6, 7, 8, 9] ⟨rfl, rfl, rfl, rfl, by decide⟩ rfl hl.1 (Nat.le_of_ble_eq_true rfl) dX11_pour_46 (fun H locs hP hD hS => ?_)
                have hP := hP.sub (ws' := (w11 ca qC (.ref (qA 0)) (rC4) (rC6) (rC7) (rC10) (rC11) (rC12) (rC14) (rC15) (rC17) (rC18) (rC19) SC ++ wLT ca qA (rf4 (qY0 0) (qY1 0) (qY2 0) (qY3 0)) ++ w9 ca qY0 SY0 ++ w9 ca qY1 SY1 ++ w9 ca qY2 SY2 ++ w9 ca qY3 SY3)) [0, 1, 8, 9, 2, 3, 4, 5, 6, 7] rfl
                have hD := hD.sub (ws' := (w11 ca qC (.ref (qA 0)) (rC4) (rC6) (rC7) (rC10) (rC11) (rC12) (rC14) (rC15) (rC17) (rC18) (rC19) SC ++ wLT ca qA (rf4 (qY0 0) (qY1 0) (qY2 0) (qY3 0)) ++ w9 ca qY0 SY0 ++ w9 ca qY1 SY1 ++ w9 ca qY2 SY2 ++ w9 ca qY3 SY3)) [0, 1, 8, 9, 2, 3, 4, 5, 6, 7] rfl rfl
                refine lv_if_eq (tgt := 58) hx hb dX11_pour_49 (by decide) (fun hc => ?_) (fun hc => ?_)
                · have hf := tc_pos hc hf
                  refine lv_aload hx hb dX11_pour_58 (lv_at hl 1 rfl) ?_
                  refine va_get (D := (dC, dI)) (ci := 9) (v := .int (gi SY2 1)) (C := RX9) (T := TX9) (N := 3) hx hb hts i_X9 hown hK hP 6 rfl rfl 1 (by decide) (hts _ wf_X11_132) (fun _ h9 => h9) rfl dX11_pour_60 ?_
                  refine lv_aload hx hb dX11_pour_63 (lv_at hl 0 rfl) ?_
                  refine va_get (D := (dC, dI)) (ci := 9) (v := .int (gi SY0 1)) (C := RX9) (T := TX9) (N := 3) hx hb hts i_X9 hown hK hP 2 rfl rfl 1 (by decide) (hts _ wf_X11_132) (fun _ h9 => h9) rfl dX11_pour_65 ?_
                  refine lv_icmp_eq (tgt := 78) hx hb dX11_pour_68 (by decide) (fun hc => ?_) (fun hc => ?_)
                  · have hf := tc_pos hc hf
                    refine lv_iload hx hb dX11_pour_78 (lv_at hl 7 rfl) ?_
                    refine lv_if_ge (tgt := 90) hx hb dX11_pour_80 (by decide) (fun hc => ?_) (fun hc => ?_)
                    · have hf := tc_pos hc hf
                      refine lv_aload hx hb dX11_pour_90 (lv_at hl 1 rfl) ?_
                      refine lv_iload_n hx hb dX11_pour_92 rfl (lv_at hl 4 rfl) ?_
                      refine lv_iload hx hb dX11_pour_93 (lv_at hl 7 rfl) ?_
                      obtain ⟨z76, hg, hf⟩ := tc_bi hf
                      refine tc_iV (As := [.int (a2), .int (a5)]) (rest := []) (b := qY2 0) (wc := w9 ca qY2 SY2) (wr := w11 ca qC (.ref (qA 0)) (rC4) (rC6) (rC7) (rC10) (rC11) (rC12) (rC14) (rC15) (rC17) (rC18) (rC19) SC ++ wLT ca qA (rf4 (qY0 0) (qY1 0) (qY2 0) (qY3 0)) ++ w9 ca qY0 SY0 ++ w9 ca qY1 SY1 ++ w9 ca qY3 SY3) X hP hD hS (mX9_holds hg) okX9_holds wl_X11_135 wi_X9_holds ws_X9_X9_holds_X9_holds ⟨rfl, rfl, Nat.le_of_ble_eq_true rfl, Nat.le_of_ble_eq_true rfl⟩ 9 0 rfl rfl [6, 7] [0, 1, 2, 3, 4, 5, 8, 9] ⟨rfl, rfl, rfl, rfl, by decide⟩ rfl hl.1 (Nat.le_of_ble_eq_true rfl) dX11_pour_95 (fun H locs hP hD hS => ?_)
                      have hP := hP.sub (ws' := (w11 ca qC (.ref (qA 0)) (rC4) (rC6) (rC7) (rC10) (rC11) (rC12) (rC14) (rC15) (rC17) (rC18) (rC19) SC ++ wLT ca qA (rf4 (qY0 0) (qY1 0) (qY2 0) (qY3 0)) ++ w9 ca qY0 SY0 ++ w9 ca qY1 SY1 ++ w9 ca qY2 SY2 ++ w9 ca qY3 SY3)) [0, 1, 2, 3, 4, 5, 8, 9, 6, 7] rfl
                      have hD := hD.sub (ws' := (w11 ca qC (.ref (qA 0)) (rC4) (rC6) (rC7) (rC10) (rC11) (rC12) (rC14) (rC15) (rC17) (rC18) (rC19) SC ++ wLT ca qA (rf4 (qY0 0) (qY1 0) (qY2 0) (qY3 0)) ++ w9 ca qY0 SY0 ++ w9 ca qY1 SY1 ++ w9 ca qY2 SY2 ++ w9 ca qY3 SY3)) [0, 1, 2, 3, 4, 5, 8, 9, 6, 7] rfl rfl
                      refine lv_if_eq (tgt := 113) hx hb dX11_pour_98 (by decide) (fun hc => ?_) (fun hc => ?_)
                      · have hf := tc_pos hc hf
                        exact tX11_pour_113 X z SC SY0 SY1 SY2 SY3 hf _ _ _ hP hD hS (lv_sub hl [2] rfl)
                      · have hf := tc_neg hc hf
                        refine lv_aload hx hb dX11_pour_101 (lv_at hl 0 rfl) ?_
                        refine lv_iload hx hb dX11_pour_103 (lv_at hl 6 rfl) ?_
                        refine lv_iload hx hb dX11_pour_105 (lv_at hl 7 rfl) ?_
                        obtain ⟨z77, hg, hf⟩ := tc_bi hf
                        refine tc_iV (As := [.int (a4), .int (a5)]) (rest := []) (b := qY0 0) (wc := w9 ca qY0 SY0) (wr := w11 ca qC (.ref (qA 0)) (rC4) (rC6) (rC7) (rC10) (rC11) (rC12) (rC14) (rC15) (rC17) (rC18) (rC19) SC ++ wLT ca qA (rf4 (qY0 0) (qY1 0) (qY2 0) (qY3 0)) ++ w9 ca qY1 SY1 ++ w9 ca qY2 SY2 ++ w9 ca qY3 SY3) X hP hD hS (mX9_holds hg) okX9_holds wl_X11_135 wi_X9_holds ws_X9_X9_holds_X9_holds ⟨rfl, rfl, Nat.le_of_ble_eq_true rfl, Nat.le_of_ble_eq_true rfl⟩ 9 0 rfl rfl [2, 3] [0, 1, 4, 5, 6, 7, 8, 9] ⟨rfl, rfl, rfl, rfl, by decide⟩ rfl hl.1 (Nat.le_of_ble_eq_true rfl) dX11_pour_107 (fun H locs hP hD hS => ?_)
                        have hP := hP.sub (ws' := (w11 ca qC (.ref (qA 0)) (rC4) (rC6) (rC7) (rC10) (rC11) (rC12) (rC14) (rC15) (rC17) (rC18) (rC19) SC ++ wLT ca qA (rf4 (qY0 0) (qY1 0) (qY2 0) (qY3 0)) ++ w9 ca qY0 SY0 ++ w9 ca qY1 SY1 ++ w9 ca qY2 SY2 ++ w9 ca qY3 SY3)) [0, 1, 8, 9, 2, 3, 4, 5, 6, 7] rfl
                        have hD := hD.sub (ws' := (w11 ca qC (.ref (qA 0)) (rC4) (rC6) (rC7) (rC10) (rC11) (rC12) (rC14) (rC15) (rC17) (rC18) (rC19) SC ++ wLT ca qA (rf4 (qY0 0) (qY1 0) (qY2 0) (qY3 0)) ++ w9 ca qY0 SY0 ++ w9 ca qY1 SY1 ++ w9 ca qY2 SY2 ++ w9 ca qY3 SY3)) [0, 1, 8, 9, 2, 3, 4, 5, 6, 7] rfl rfl
                        refine lv_if_ne (tgt := 119) hx hb dX11_pour_110 (by decide) (fun hc => ?_) (fun hc => ?_)
                        · have hf := tc_neg hc hf
                          refine lv_aload hx hb dX11_pour_119 (lv_at hl 1 rfl) ?_
                          refine va_get (D := (dC, dI)) (ci := 9) (v := .ref (qY2 1)) (C := RX9) (T := TX9) (N := 3) hx hb hts i_X9 hown hK hP 6 rfl rfl 0 (by decide) (hts _ wf_X11_125) (fun _ h9 => h9) rfl dX11_pour_121 ?_
                          refine lv_iload_n hx hb dX11_pour_124 rfl (lv_at hl 4 rfl) ?_
                          refine lv_aload hx hb dX11_pour_125 (lv_at hl 0 rfl) ?_
                          refine va_get (D := (dC, dI)) (ci := 9) (v := .ref (qY0 1)) (C := RX9) (T := TX9) (N := 3) hx hb hts i_X9 hown hK hP 2 rfl rfl 0 (by decide) (hts _ wf_X11_125) (fun _ h9 => h9) rfl dX11_pour_127 ?_
                          refine lv_iload hx hb dX11_pour_130 (lv_at hl 6 rfl) ?_
                          refine lv_iload hx hb dX11_pour_132 (lv_at hl 7 rfl) ?_
                          obtain ⟨hc78, hf⟩ := tc_ck hf
                          refine tc_cpl (rest := []) X hl.1 wl_X11_139 hP hD hS 7 3 2 2 rfl rfl rfl rfl hc78 (Nat.le_of_ble_eq_true rfl) (Nat.le_of_ble_eq_true rfl) dX11_pour_134 (fun H locs hP hD hS => ?_)
                          have hP := tc_eP (cwm22_2_1 ca qC qA qY0 qY1 qY2 qY3 (rf4 (qY0 0) (qY1 0) (qY2 0) (qY3 0)) (.ref (qA 0)) (rC4) (rC6) (rC7) (rC10) (rC11) (rC12) (rC14) (rC15) (rC17) (rC18) (rC19) SC SY0 SY1 SY2 SY3 (cpl (rl SY2 1) (rl SY0 1) a2 a4 a5)) hP
                          have hD := tc_eD (cwm22_2_1 ca qC qA qY0 qY1 qY2 qY3 (rf4 (qY0 0) (qY1 0) (qY2 0) (qY3 0)) (.ref (qA 0)) (rC4) (rC6) (rC7) (rC10) (rC11) (rC12) (rC14) (rC15) (rC17) (rC18) (rC19) SC SY0 SY1 SY2 SY3 (cpl (rl SY2 1) (rl SY0 1) a2 a4 a5)) hD
                          refine lv_aload_n hx hb dX11_pour_137 rfl (lv_at hl 2 rfl) ?_
                          obtain ⟨z79, hg, hf⟩ := tc_bi hf
                          refine tc_iV (As := []) (rest := []) (b := qC 0) (wc := w11 ca qC (.ref (qA 0)) (rC4) (rC6) (rC7) (rC10) (rC11) (rC12) (rC14) (rC15) (rC17) (rC18) (rC19) SC) (wr := wLT ca qA (rf4 (qY0 0) (qY1 0) (qY2 0) (qY3 0)) ++ w9 ca qY0 (sR SY0 1 (cpl (rl SY2 1) (rl SY0 1) a2 a4 a5)) ++ w9 ca qY1 SY1 ++ w9 ca qY2 SY2 ++ w9 ca qY3 SY3) X hP hD hS (mX11_grant hg) okX11_grant wl_X11_109 wi_X11_grant ws_X11_X11_grant_X11_grant ⟨rfl, rfl, Nat.le_of_ble_eq_true rfl, Nat.le_of_ble_eq_true rfl⟩ 11 0 rfl rfl [0] [1, 2, 3, 4, 5, 6, 7, 8, 9] ⟨rfl, rfl, rfl, rfl, by decide⟩ rfl hl.1 (Nat.le_of_ble_eq_true rfl) dX11_pour_138 (fun H locs hP hD hS => ?_)
                          have hP := hP.sub (ws' := (w11 ca qC (.ref (qA 0)) (rC4) (rC6) (rC7) (rC10) (rC11) (rC12) (rC14) (rC15) (rC17) (rC18) (rC19) z79.2 ++ wLT ca qA (rf4 (qY0 0) (qY1 0) (qY2 0) (qY3 0)) ++ w9 ca qY0 (sR SY0 1 (cpl (rl SY2 1) (rl SY0 1) a2 a4 a5)) ++ w9 ca qY1 SY1 ++ w9 ca qY2 SY2 ++ w9 ca qY3 SY3)) [9, 0, 1, 2, 3, 4, 5, 6, 7, 8] rfl
                          have hD := hD.sub (ws' := (w11 ca qC (.ref (qA 0)) (rC4) (rC6) (rC7) (rC10) (rC11) (rC12) (rC14) (rC15) (rC17) (rC18) (rC19) z79.2 ++ wLT ca qA (rf4 (qY0 0) (qY1 0) (qY2 0) (qY3 0)) ++ w9 ca qY0 (sR SY0 1 (cpl (rl SY2 1) (rl SY0 1) a2 a4 a5)) ++ w9 ca qY1 SY1 ++ w9 ca qY2 SY2 ++ w9 ca qY3 SY3)) [9, 0, 1, 2, 3, 4, 5, 6, 7, 8] rfl rfl
                          obtain ⟨hz1, hf⟩ := tc_ck hf
                          obtain rfl := Option.some.inj hf
                          exact tc_rz X hP hD hS rfl dX11_pour_141 hz1 rfl rfl
                        · have hf := tc_pos hc hf
                          exact tX11_pour_113 X z SC SY0 SY1 SY2 SY3 hf _ _ _ hP hD hS (lv_sub hl [2] rfl)
                    · have hf := tc_neg hc hf
                      refine lv_aload_n hx hb dX11_pour_83 rfl (lv_at hl 2 rfl) ?_
                      refine lv_bipush (v := (6 : Int32)) hx hb dX11_pour_84 (by decide) ?_
                      obtain ⟨z80, hg, hf⟩ := tc_bi hf
                      refine tc_iV (As := [.int ((6 : Int32))]) (rest := []) (b := qC 0) (wc := w11 ca qC (.ref (qA 0)) (rC4) (rC6) (rC7) (rC10) (rC11) (rC12) (rC14) (rC15) (rC17) (rC18) (rC19) SC) (wr := wLT ca qA (rf4 (qY0 0) (qY1 0) (qY2 0) (qY3 0)) ++ w9 ca qY0 SY0 ++ w9 ca qY1 SY1 ++ w9 ca qY2 SY2 ++ w9 ca qY3 SY3) X hP hD hS (mX11_deny hg) okX11_deny wl_X11_102 wi_X11_deny ws_X11_X11_deny_X11_deny ⟨rfl, rfl, Nat.le_of_ble_eq_true rfl, Nat.le_of_ble_eq_true rfl⟩ 11 0 rfl rfl [0] [1, 2, 3, 4, 5, 6, 7, 8, 9] ⟨rfl, rfl, rfl, rfl, by decide⟩ rfl hl.1 (Nat.le_of_ble_eq_true rfl) dX11_pour_86 (fun H locs hP hD hS => ?_)
                      have hP := hP.sub (ws' := (w11 ca qC (.ref (qA 0)) (rC4) (rC6) (rC7) (rC10) (rC11) (rC12) (rC14) (rC15) (rC17) (rC18) (rC19) z80.2 ++ wLT ca qA (rf4 (qY0 0) (qY1 0) (qY2 0) (qY3 0)) ++ w9 ca qY0 SY0 ++ w9 ca qY1 SY1 ++ w9 ca qY2 SY2 ++ w9 ca qY3 SY3)) [9, 0, 1, 2, 3, 4, 5, 6, 7, 8] rfl
                      have hD := hD.sub (ws' := (w11 ca qC (.ref (qA 0)) (rC4) (rC6) (rC7) (rC10) (rC11) (rC12) (rC14) (rC15) (rC17) (rC18) (rC19) z80.2 ++ wLT ca qA (rf4 (qY0 0) (qY1 0) (qY2 0) (qY3 0)) ++ w9 ca qY0 SY0 ++ w9 ca qY1 SY1 ++ w9 ca qY2 SY2 ++ w9 ca qY3 SY3)) [9, 0, 1, 2, 3, 4, 5, 6, 7, 8] rfl rfl
                      obtain ⟨hz1, hf⟩ := tc_ck hf
                      obtain rfl := Option.some.inj hf
                      exact tc_rz X hP hD hS rfl dX11_pour_89 hz1 rfl rfl
                  · have hf := tc_neg hc hf
                    refine lv_aload_n hx hb dX11_pour_71 rfl (lv_at hl 2 rfl) ?_
                    refine lv_bipush (v := (11 : Int32)) hx hb dX11_pour_72 (by decide) ?_
                    obtain ⟨z81, hg, hf⟩ := tc_bi hf
                    refine tc_iV (As := [.int ((11 : Int32))]) (rest := []) (b := qC 0) (wc := w11 ca qC (.ref (qA 0)) (rC4) (rC6) (rC7) (rC10) (rC11) (rC12) (rC14) (rC15) (rC17) (rC18) (rC19) SC) (wr := wLT ca qA (rf4 (qY0 0) (qY1 0) (qY2 0) (qY3 0)) ++ w9 ca qY0 SY0 ++ w9 ca qY1 SY1 ++ w9 ca qY2 SY2 ++ w9 ca qY3 SY3) X hP hD hS (mX11_deny hg) okX11_deny wl_X11_102 wi_X11_deny ws_X11_X11_deny_X11_deny ⟨rfl, rfl, Nat.le_of_ble_eq_true rfl, Nat.le_of_ble_eq_true rfl⟩ 11 0 rfl rfl [0] [1, 2, 3, 4, 5, 6, 7, 8, 9] ⟨rfl, rfl, rfl, rfl, by decide⟩ rfl hl.1 (Nat.le_of_ble_eq_true rfl) dX11_pour_74 (fun H locs hP hD hS => ?_)
                    have hP := hP.sub (ws' := (w11 ca qC (.ref (qA 0)) (rC4) (rC6) (rC7) (rC10) (rC11) (rC12) (rC14) (rC15) (rC17) (rC18) (rC19) z81.2 ++ wLT ca qA (rf4 (qY0 0) (qY1 0) (qY2 0) (qY3 0)) ++ w9 ca qY0 SY0 ++ w9 ca qY1 SY1 ++ w9 ca qY2 SY2 ++ w9 ca qY3 SY3)) [9, 0, 1, 2, 3, 4, 5, 6, 7, 8] rfl
                    have hD := hD.sub (ws' := (w11 ca qC (.ref (qA 0)) (rC4) (rC6) (rC7) (rC10) (rC11) (rC12) (rC14) (rC15) (rC17) (rC18) (rC19) z81.2 ++ wLT ca qA (rf4 (qY0 0) (qY1 0) (qY2 0) (qY3 0)) ++ w9 ca qY0 SY0 ++ w9 ca qY1 SY1 ++ w9 ca qY2 SY2 ++ w9 ca qY3 SY3)) [9, 0, 1, 2, 3, 4, 5, 6, 7, 8] rfl rfl
                    obtain ⟨hz1, hf⟩ := tc_ck hf
                    obtain rfl := Option.some.inj hf
                    exact tc_rz X hP hD hS rfl dX11_pour_77 hz1 rfl rfl
                · have hf := tc_neg hc hf
                  exact tX11_pour_52 X z SC SY0 SY1 SY2 SY3 hf _ _ _ hP hD hS (lv_sub hl [2] rfl)
            · have hf := tc_neg hq73_0 hf
              by_cases hq73_1 : a3 = (1 : Int32)
              · have hf := tc_pos hq73_1 hf
                refine tc_ald (b := qY1 0) X hP 1 4 rfl rfl 1 (by rw [hq73_1]; decide) (by rw [hq73_1]; exact inb_vp (by decide)) rfl dX11_pour_33 ?_
                refine lv_astore (lv' := [(7, .ref (qY1 0)), (6, .ref (qY2 0)), (0, .ref (qC 0)), (1, .int (a1)), (2, .int (a2)), (3, .int (a3)), (4, .int (a4)), (5, .int (a5))]) hx hb dX11_pour_34 hl (by decide) rfl (fun ls hl => ?_)
                refine lv_aload hx hb dX11_pour_36 (lv_at hl 1 rfl) ?_
                obtain ⟨z82, hg, hf⟩ := tc_bi hf
                refine tc_iV (As := []) (rest := []) (b := qY2 0) (wc := w9 ca qY2 SY2) (wr := w11 ca qC (.ref (qA 0)) (rC4) (rC6) (rC7) (rC10) (rC11) (rC12) (rC14) (rC15) (rC17) (rC18) (rC19) SC ++ wLT ca qA (rf4 (qY0 0) (qY1 0) (qY2 0) (qY3 0)) ++ w9 ca qY0 SY0 ++ w9 ca qY1 SY1 ++ w9 ca qY3 SY3) X hP hD hS (mX9_isMissing hg) okX9_isMissing wl_X11_129 wi_X9_isMissing ws_X9_X9_isMissing_X9_isMissing ⟨rfl, rfl, Nat.le_of_ble_eq_true rfl, Nat.le_of_ble_eq_true rfl⟩ 9 0 rfl rfl [6, 7] [0, 1, 2, 3, 4, 5, 8, 9] ⟨rfl, rfl, rfl, rfl, by decide⟩ rfl hl.1 (Nat.le_of_ble_eq_true rfl) dX11_pour_38 (fun H locs hP hD hS => ?_)
                have hP := hP.sub (ws' := (w11 ca qC (.ref (qA 0)) (rC4) (rC6) (rC7) (rC10) (rC11) (rC12) (rC14) (rC15) (rC17) (rC18) (rC19) SC ++ wLT ca qA (rf4 (qY0 0) (qY1 0) (qY2 0) (qY3 0)) ++ w9 ca qY0 SY0 ++ w9 ca qY1 SY1 ++ w9 ca qY2 SY2 ++ w9 ca qY3 SY3)) [0, 1, 2, 3, 4, 5, 8, 9, 6, 7] rfl
                have hD := hD.sub (ws' := (w11 ca qC (.ref (qA 0)) (rC4) (rC6) (rC7) (rC10) (rC11) (rC12) (rC14) (rC15) (rC17) (rC18) (rC19) SC ++ wLT ca qA (rf4 (qY0 0) (qY1 0) (qY2 0) (qY3 0)) ++ w9 ca qY0 SY0 ++ w9 ca qY1 SY1 ++ w9 ca qY2 SY2 ++ w9 ca qY3 SY3)) [0, 1, 2, 3, 4, 5, 8, 9, 6, 7] rfl rfl
                refine lv_if_ne (tgt := 52) hx hb dX11_pour_41 (by decide) (fun hc => ?_) (fun hc => ?_)
                · have hf := tc_neg hc hf
                  exact tX11_pour_52 X z SC SY0 SY1 SY2 SY3 hf _ _ _ hP hD hS (lv_sub hl [2] rfl)
                · have hf := tc_pos hc hf
                  refine lv_aload hx hb dX11_pour_44 (lv_at hl 0 rfl) ?_
                  obtain ⟨z83, hg, hf⟩ := tc_bi hf
                  refine tc_iV (As := []) (rest := []) (b := qY1 0) (wc := w9 ca qY1 SY1) (wr := w11 ca qC (.ref (qA 0)) (rC4) (rC6) (rC7) (rC10) (rC11) (rC12) (rC14) (rC15) (rC17) (rC18) (rC19) SC ++ wLT ca qA (rf4 (qY0 0) (qY1 0) (qY2 0) (qY3 0)) ++ w9 ca qY0 SY0 ++ w9 ca qY2 SY2 ++ w9 ca qY3 SY3) X hP hD hS (mX9_isMissing hg) okX9_isMissing wl_X11_129 wi_X9_isMissing ws_X9_X9_isMissing_X9_isMissing ⟨rfl, rfl, Nat.le_of_ble_eq_true rfl, Nat.le_of_ble_eq_true rfl⟩ 9 0 rfl rfl [4, 5] [0, 1, 2, 3, 6, 7, 8, 9] ⟨rfl, rfl, rfl, rfl, by decide⟩ rfl hl.1 (Nat.le_of_ble_eq_true rfl) dX11_pour_46 (fun H locs hP hD hS => ?_)
                  have hP := hP.sub (ws' := (w11 ca qC (.ref (qA 0)) (rC4) (rC6) (rC7) (rC10) (rC11) (rC12) (rC14) (rC15) (rC17) (rC18) (rC19) SC ++ wLT ca qA (rf4 (qY0 0) (qY1 0) (qY2 0) (qY3 0)) ++ w9 ca qY0 SY0 ++ w9 ca qY1 SY1 ++ w9 ca qY2 SY2 ++ w9 ca qY3 SY3)) [0, 1, 2, 3, 8, 9, 4, 5, 6, 7] rfl
                  have hD := hD.sub (ws' := (w11 ca qC (.ref (qA 0)) (rC4) (rC6) (rC7) (rC10) (rC11) (rC12) (rC14) (rC15) (rC17) (rC18) (rC19) SC ++ wLT ca qA (rf4 (qY0 0) (qY1 0) (qY2 0) (qY3 0)) ++ w9 ca qY0 SY0 ++ w9 ca qY1 SY1 ++ w9 ca qY2 SY2 ++ w9 ca qY3 SY3)) [0, 1, 2, 3, 8, 9, 4, 5, 6, 7] rfl rfl
                  refine lv_if_eq (tgt := 58) hx hb dX11_pour_49 (by decide) (fun hc => ?_) (fun hc => ?_)
                  · have hf := tc_pos hc hf
                    refine lv_aload hx hb dX11_pour_58 (lv_at hl 1 rfl) ?_
                    refine va_get (D := (dC, dI)) (ci := 9) (v := .int (gi SY2 1)) (C := RX9) (T := TX9) (N := 3) hx hb hts i_X9 hown hK hP 6 rfl rfl 1 (by decide) (hts _ wf_X11_132) (fun _ h9 => h9) rfl dX11_pour_60 ?_
                    refine lv_aload hx hb dX11_pour_63 (lv_at hl 0 rfl) ?_
                    refine va_get (D := (dC, dI)) (ci := 9) (v := .int (gi SY1 1)) (C := RX9) (T := TX9) (N := 3) hx hb hts i_X9 hown hK hP 4 rfl rfl 1 (by decide) (hts _ wf_X11_132) (fun _ h9 => h9) rfl dX11_pour_65 ?_
                    refine lv_icmp_eq (tgt := 78) hx hb dX11_pour_68 (by decide) (fun hc => ?_) (fun hc => ?_)
                    · have hf := tc_pos hc hf
                      refine lv_iload hx hb dX11_pour_78 (lv_at hl 7 rfl) ?_
                      refine lv_if_ge (tgt := 90) hx hb dX11_pour_80 (by decide) (fun hc => ?_) (fun hc => ?_)
                      · have hf := tc_pos hc hf
                        refine lv_aload hx hb dX11_pour_90 (lv_at hl 1 rfl) ?_
                        refine lv_iload_n hx hb dX11_pour_92 rfl (lv_at hl 4 rfl) ?_
                        refine lv_iload hx hb dX11_pour_93 (lv_at hl 7 rfl) ?_
                        obtain ⟨z84, hg, hf⟩ := tc_bi hf
                        refine tc_iV (As := [.int (a2), .int (a5)]) (rest := []) (b := qY2 0) (wc := w9 ca qY2 SY2) (wr := w11 ca qC (.ref (qA 0)) (rC4) (rC6) (rC7) (rC10) (rC11) (rC12) (rC14) (rC15) (rC17) (rC18) (rC19) SC ++ wLT ca qA (rf4 (qY0 0) (qY1 0) (qY2 0) (qY3 0)) ++ w9 ca qY0 SY0 ++ w9 ca qY1 SY1 ++ w9 ca qY3 SY3) X hP hD hS (mX9_holds hg) okX9_holds wl_X11_135 wi_X9_holds ws_X9_X9_holds_X9_holds ⟨rfl, rfl, Nat.le_of_ble_eq_true rfl, Nat.le_of_ble_eq_true rfl⟩ 9 0 rfl rfl [6, 7] [0, 1, 2, 3, 4, 5, 8, 9] ⟨rfl, rfl, rfl, rfl, by decide⟩ rfl hl.1 (Nat.le_of_ble_eq_true rfl) dX11_pour_95 (fun H locs hP hD hS => ?_)
                        have hP := hP.sub (ws' := (w11 ca qC (.ref (qA 0)) (rC4) (rC6) (rC7) (rC10) (rC11) (rC12) (rC14) (rC15) (rC17) (rC18) (rC19) SC ++ wLT ca qA (rf4 (qY0 0) (qY1 0) (qY2 0) (qY3 0)) ++ w9 ca qY0 SY0 ++ w9 ca qY1 SY1 ++ w9 ca qY2 SY2 ++ w9 ca qY3 SY3)) [0, 1, 2, 3, 4, 5, 8, 9, 6, 7] rfl
                        have hD := hD.sub (ws' := (w11 ca qC (.ref (qA 0)) (rC4) (rC6) (rC7) (rC10) (rC11) (rC12) (rC14) (rC15) (rC17) (rC18) (rC19) SC ++ wLT ca qA (rf4 (qY0 0) (qY1 0) (qY2 0) (qY3 0)) ++ w9 ca qY0 SY0 ++ w9 ca qY1 SY1 ++ w9 ca qY2 SY2 ++ w9 ca qY3 SY3)) [0, 1, 2, 3, 4, 5, 8, 9, 6, 7] rfl rfl
                        refine lv_if_eq (tgt := 113) hx hb dX11_pour_98 (by decide) (fun hc => ?_) (fun hc => ?_)
                        · have hf := tc_pos hc hf
                          exact tX11_pour_113 X z SC SY0 SY1 SY2 SY3 hf _ _ _ hP hD hS (lv_sub hl [2] rfl)
                        · have hf := tc_neg hc hf
                          refine lv_aload hx hb dX11_pour_101 (lv_at hl 0 rfl) ?_
                          refine lv_iload hx hb dX11_pour_103 (lv_at hl 6 rfl) ?_
                          refine lv_iload hx hb dX11_pour_105 (lv_at hl 7 rfl) ?_
                          obtain ⟨z85, hg, hf⟩ := tc_bi hf
                          refine tc_iV (As := [.int (a4), .int (a5)]) (rest := []) (b := qY1 0) (wc := w9 ca qY1 SY1) (wr := w11 ca qC (.ref (qA 0)) (rC4) (rC6) (rC7) (rC10) (rC11) (rC12) (rC14) (rC15) (rC17) (rC18) (rC19) SC ++ wLT ca qA (rf4 (qY0 0) (qY1 0) (qY2 0) (qY3 0)) ++ w9 ca qY0 SY0 ++ w9 ca qY2 SY2 ++ w9 ca qY3 SY3) X hP hD hS (mX9_holds hg) okX9_holds wl_X11_135 wi_X9_holds ws_X9_X9_holds_X9_holds ⟨rfl, rfl, Nat.le_of_ble_eq_true rfl, Nat.le_of_ble_eq_true rfl⟩ 9 0 rfl rfl [4, 5] [0, 1, 2, 3, 6, 7, 8, 9] ⟨rfl, rfl, rfl, rfl, by decide⟩ rfl hl.1 (Nat.le_of_ble_eq_true rfl) dX11_pour_107 (fun H locs hP hD hS => ?_)
                          have hP := hP.sub (ws' := (w11 ca qC (.ref (qA 0)) (rC4) (rC6) (rC7) (rC10) (rC11) (rC12) (rC14) (rC15) (rC17) (rC18) (rC19) SC ++ wLT ca qA (rf4 (qY0 0) (qY1 0) (qY2 0) (qY3 0)) ++ w9 ca qY0 SY0 ++ w9 ca qY1 SY1 ++ w9 ca qY2 SY2 ++ w9 ca qY3 SY3)) [0, 1, 2, 3, 8, 9, 4, 5, 6, 7] rfl
                          have hD := hD.sub (ws' := (w11 ca qC (.ref (qA 0)) (rC4) (rC6) (rC7) (rC10) (rC11) (rC12) (rC14) (rC15) (rC17) (rC18) (rC19) SC ++ wLT ca qA (rf4 (qY0 0) (qY1 0) (qY2 0) (qY3 0)) ++ w9 ca qY0 SY0 ++ w9 ca qY1 SY1 ++ w9 ca qY2 SY2 ++ w9 ca qY3 SY3)) [0, 1, 2, 3, 8, 9, 4, 5, 6, 7] rfl rfl
                          refine lv_if_ne (tgt := 119) hx hb dX11_pour_110 (by decide) (fun hc => ?_) (fun hc => ?_)
                          · have hf := tc_neg hc hf
                            refine lv_aload hx hb dX11_pour_119 (lv_at hl 1 rfl) ?_
                            refine va_get (D := (dC, dI)) (ci := 9) (v := .ref (qY2 1)) (C := RX9) (T := TX9) (N := 3) hx hb hts i_X9 hown hK hP 6 rfl rfl 0 (by decide) (hts _ wf_X11_125) (fun _ h9 => h9) rfl dX11_pour_121 ?_
                            refine lv_iload_n hx hb dX11_pour_124 rfl (lv_at hl 4 rfl) ?_
                            refine lv_aload hx hb dX11_pour_125 (lv_at hl 0 rfl) ?_
                            refine va_get (D := (dC, dI)) (ci := 9) (v := .ref (qY1 1)) (C := RX9) (T := TX9) (N := 3) hx hb hts i_X9 hown hK hP 4 rfl rfl 0 (by decide) (hts _ wf_X11_125) (fun _ h9 => h9) rfl dX11_pour_127 ?_
                            refine lv_iload hx hb dX11_pour_130 (lv_at hl 6 rfl) ?_
                            refine lv_iload hx hb dX11_pour_132 (lv_at hl 7 rfl) ?_
                            obtain ⟨hc86, hf⟩ := tc_ck hf
                            refine tc_cpl (rest := []) X hl.1 wl_X11_139 hP hD hS 7 5 2 2 rfl rfl rfl rfl hc86 (Nat.le_of_ble_eq_true rfl) (Nat.le_of_ble_eq_true rfl) dX11_pour_134 (fun H locs hP hD hS => ?_)
                            have hP := tc_eP (cwm22_3_1 ca qC qA qY0 qY1 qY2 qY3 (rf4 (qY0 0) (qY1 0) (qY2 0) (qY3 0)) (.ref (qA 0)) (rC4) (rC6) (rC7) (rC10) (rC11) (rC12) (rC14) (rC15) (rC17) (rC18) (rC19) SC SY0 SY1 SY2 SY3 (cpl (rl SY2 1) (rl SY1 1) a2 a4 a5)) hP
                            have hD := tc_eD (cwm22_3_1 ca qC qA qY0 qY1 qY2 qY3 (rf4 (qY0 0) (qY1 0) (qY2 0) (qY3 0)) (.ref (qA 0)) (rC4) (rC6) (rC7) (rC10) (rC11) (rC12) (rC14) (rC15) (rC17) (rC18) (rC19) SC SY0 SY1 SY2 SY3 (cpl (rl SY2 1) (rl SY1 1) a2 a4 a5)) hD
                            refine lv_aload_n hx hb dX11_pour_137 rfl (lv_at hl 2 rfl) ?_
                            obtain ⟨z87, hg, hf⟩ := tc_bi hf
                            refine tc_iV (As := []) (rest := []) (b := qC 0) (wc := w11 ca qC (.ref (qA 0)) (rC4) (rC6) (rC7) (rC10) (rC11) (rC12) (rC14) (rC15) (rC17) (rC18) (rC19) SC) (wr := wLT ca qA (rf4 (qY0 0) (qY1 0) (qY2 0) (qY3 0)) ++ w9 ca qY0 SY0 ++ w9 ca qY1 (sR SY1 1 (cpl (rl SY2 1) (rl SY1 1) a2 a4 a5)) ++ w9 ca qY2 SY2 ++ w9 ca qY3 SY3) X hP hD hS (mX11_grant hg) okX11_grant wl_X11_109 wi_X11_grant ws_X11_X11_grant_X11_grant ⟨rfl, rfl, Nat.le_of_ble_eq_true rfl, Nat.le_of_ble_eq_true rfl⟩ 11 0 rfl rfl [0] [1, 2, 3, 4, 5, 6, 7, 8, 9] ⟨rfl, rfl, rfl, rfl, by decide⟩ rfl hl.1 (Nat.le_of_ble_eq_true rfl) dX11_pour_138 (fun H locs hP hD hS => ?_)
                            have hP := hP.sub (ws' := (w11 ca qC (.ref (qA 0)) (rC4) (rC6) (rC7) (rC10) (rC11) (rC12) (rC14) (rC15) (rC17) (rC18) (rC19) z87.2 ++ wLT ca qA (rf4 (qY0 0) (qY1 0) (qY2 0) (qY3 0)) ++ w9 ca qY0 SY0 ++ w9 ca qY1 (sR SY1 1 (cpl (rl SY2 1) (rl SY1 1) a2 a4 a5)) ++ w9 ca qY2 SY2 ++ w9 ca qY3 SY3)) [9, 0, 1, 2, 3, 4, 5, 6, 7, 8] rfl
                            have hD := hD.sub (ws' := (w11 ca qC (.ref (qA 0)) (rC4) (rC6) (rC7) (rC10) (rC11) (rC12) (rC14) (rC15) (rC17) (rC18) (rC19) z87.2 ++ wLT ca qA (rf4 (qY0 0) (qY1 0) (qY2 0) (qY3 0)) ++ w9 ca qY0 SY0 ++ w9 ca qY1 (sR SY1 1 (cpl (rl SY2 1) (rl SY1 1) a2 a4 a5)) ++ w9 ca qY2 SY2 ++ w9 ca qY3 SY3)) [9, 0, 1, 2, 3, 4, 5, 6, 7, 8] rfl rfl
                            obtain ⟨hz1, hf⟩ := tc_ck hf
                            obtain rfl := Option.some.inj hf
                            exact tc_rz X hP hD hS rfl dX11_pour_141 hz1 rfl rfl
                          · have hf := tc_pos hc hf
                            exact tX11_pour_113 X z SC SY0 SY1 SY2 SY3 hf _ _ _ hP hD hS (lv_sub hl [2] rfl)
                      · have hf := tc_neg hc hf
                        refine lv_aload_n hx hb dX11_pour_83 rfl (lv_at hl 2 rfl) ?_
                        refine lv_bipush (v := (6 : Int32)) hx hb dX11_pour_84 (by decide) ?_
                        obtain ⟨z88, hg, hf⟩ := tc_bi hf
                        refine tc_iV (As := [.int ((6 : Int32))]) (rest := []) (b := qC 0) (wc := w11 ca qC (.ref (qA 0)) (rC4) (rC6) (rC7) (rC10) (rC11) (rC12) (rC14) (rC15) (rC17) (rC18) (rC19) SC) (wr := wLT ca qA (rf4 (qY0 0) (qY1 0) (qY2 0) (qY3 0)) ++ w9 ca qY0 SY0 ++ w9 ca qY1 SY1 ++ w9 ca qY2 SY2 ++ w9 ca qY3 SY3) X hP hD hS (mX11_deny hg) okX11_deny wl_X11_102 wi_X11_deny ws_X11_X11_deny_X11_deny ⟨rfl, rfl, Nat.le_of_ble_eq_true rfl, Nat.le_of_ble_eq_true rfl⟩ 11 0 rfl rfl [0] [1, 2, 3, 4, 5, 6, 7, 8, 9] ⟨rfl, rfl, rfl, rfl, by decide⟩ rfl hl.1 (Nat.le_of_ble_eq_true rfl) dX11_pour_86 (fun H locs hP hD hS => ?_)
                        have hP := hP.sub (ws' := (w11 ca qC (.ref (qA 0)) (rC4) (rC6) (rC7) (rC10) (rC11) (rC12) (rC14) (rC15) (rC17) (rC18) (rC19) z88.2 ++ wLT ca qA (rf4 (qY0 0) (qY1 0) (qY2 0) (qY3 0)) ++ w9 ca qY0 SY0 ++ w9 ca qY1 SY1 ++ w9 ca qY2 SY2 ++ w9 ca qY3 SY3)) [9, 0, 1, 2, 3, 4, 5, 6, 7, 8] rfl
                        have hD := hD.sub (ws' := (w11 ca qC (.ref (qA 0)) (rC4) (rC6) (rC7) (rC10) (rC11) (rC12) (rC14) (rC15) (rC17) (rC18) (rC19) z88.2 ++ wLT ca qA (rf4 (qY0 0) (qY1 0) (qY2 0) (qY3 0)) ++ w9 ca qY0 SY0 ++ w9 ca qY1 SY1 ++ w9 ca qY2 SY2 ++ w9 ca qY3 SY3)) [9, 0, 1, 2, 3, 4, 5, 6, 7, 8] rfl rfl
                        obtain ⟨hz1, hf⟩ := tc_ck hf
                        obtain rfl := Option.some.inj hf
                        exact tc_rz X hP hD hS rfl dX11_pour_89 hz1 rfl rfl
                    · have hf := tc_neg hc hf
                      refine lv_aload_n hx hb dX11_pour_71 rfl (lv_at hl 2 rfl) ?_
                      refine lv_bipush (v := (11 : Int32)) hx hb dX11_pour_72 (by decide) ?_
                      obtain ⟨z89, hg, hf⟩ := tc_bi hf
                      refine tc_iV (As := [.int ((11 : Int32))]) (rest := []) (b := qC 0) (wc := w11 ca qC (.ref (qA 0)) (rC4) (rC6) (rC7) (rC10) (rC11) (rC12) (rC14) (rC15) (rC17) (rC18) (rC19) SC) (wr := wLT ca qA (rf4 (qY0 0) (qY1 0) (qY2 0) (qY3 0)) ++ w9 ca qY0 SY0 ++ w9 ca qY1 SY1 ++ w9 ca qY2 SY2 ++ w9 ca qY3 SY3) X hP hD hS (mX11_deny hg) okX11_deny wl_X11_102 wi_X11_deny ws_X11_X11_deny_X11_deny ⟨rfl, rfl, Nat.le_of_ble_eq_true rfl, Nat.le_of_ble_eq_true rfl⟩ 11 0 rfl rfl [0] [1, 2, 3, 4, 5, 6, 7, 8, 9] ⟨rfl, rfl, rfl, rfl, by decide⟩ rfl hl.1 (Nat.le_of_ble_eq_true rfl) dX11_pour_74 (fun H locs hP hD hS => ?_)
                      have hP := hP.sub (ws' := (w11 ca qC (.ref (qA 0)) (rC4) (rC6) (rC7) (rC10) (rC11) (rC12) (rC14) (rC15) (rC17) (rC18) (rC19) z89.2 ++ wLT ca qA (rf4 (qY0 0) (qY1 0) (qY2 0) (qY3 0)) ++ w9 ca qY0 SY0 ++ w9 ca qY1 SY1 ++ w9 ca qY2 SY2 ++ w9 ca qY3 SY3)) [9, 0, 1, 2, 3, 4, 5, 6, 7, 8] rfl
                      have hD := hD.sub (ws' := (w11 ca qC (.ref (qA 0)) (rC4) (rC6) (rC7) (rC10) (rC11) (rC12) (rC14) (rC15) (rC17) (rC18) (rC19) z89.2 ++ wLT ca qA (rf4 (qY0 0) (qY1 0) (qY2 0) (qY3 0)) ++ w9 ca qY0 SY0 ++ w9 ca qY1 SY1 ++ w9 ca qY2 SY2 ++ w9 ca qY3 SY3)) [9, 0, 1, 2, 3, 4, 5, 6, 7, 8] rfl rfl
                      obtain ⟨hz1, hf⟩ := tc_ck hf
                      obtain rfl := Option.some.inj hf
                      exact tc_rz X hP hD hS rfl dX11_pour_77 hz1 rfl rfl
                  · have hf := tc_neg hc hf
                    exact tX11_pour_52 X z SC SY0 SY1 SY2 SY3 hf _ _ _ hP hD hS (lv_sub hl [2] rfl)
              · have hf := tc_neg hq73_1 hf
                by_cases hq73_2 : a3 = (2 : Int32)
                · have hf := tc_pos hq73_2 hf
                  refine tc_ald (b := qY2 0) X hP 1 4 rfl rfl 2 (by rw [hq73_2]; decide) (by rw [hq73_2]; exact inb_vp (by decide)) rfl dX11_pour_33 ?_
                  refine lv_astore (lv' := [(7, .ref (qY2 0)), (6, .ref (qY2 0)), (0, .ref (qC 0)), (1, .int (a1)), (2, .int (a2)), (3, .int (a3)), (4, .int (a4)), (5, .int (a5))]) hx hb dX11_pour_34 hl (by decide) rfl (fun ls hl => ?_)
                  refine lv_aload hx hb dX11_pour_36 (lv_at hl 1 rfl) ?_
                  obtain ⟨z90, hg, hf⟩ := tc_bi hf
                  refine tc_iV (As := []) (rest := []) (b := qY2 0) (wc := w9 ca qY2 SY2) (wr := w11 ca qC (.ref (qA 0)) (rC4) (rC6) (rC7) (rC10) (rC11) (rC12) (rC14) (rC15) (rC17) (rC18) (rC19) SC ++ wLT ca qA (rf4 (qY0 0) (qY1 0) (qY2 0) (qY3 0)) ++ w9 ca qY0 SY0 ++ w9 ca qY1 SY1 ++ w9 ca qY3 SY3) X hP hD hS (mX9_isMissing hg) okX9_isMissing wl_X11_129 wi_X9_isMissing ws_X9_X9_isMissing_X9_isMissing ⟨rfl, rfl, Nat.le_of_ble_eq_true rfl, Nat.le_of_ble_eq_true rfl⟩ 9 0 rfl rfl [6, 7] [0, 1, 2, 3, 4, 5, 8, 9] ⟨rfl, rfl, rfl, rfl, by decide⟩ rfl hl.1 (Nat.le_of_ble_eq_true rfl) dX11_pour_38 (fun H locs hP hD hS => ?_)
                  have hP := hP.sub (ws' := (w11 ca qC (.ref (qA 0)) (rC4) (rC6) (rC7) (rC10) (rC11) (rC12) (rC14) (rC15) (rC17) (rC18) (rC19) SC ++ wLT ca qA (rf4 (qY0 0) (qY1 0) (qY2 0) (qY3 0)) ++ w9 ca qY0 SY0 ++ w9 ca qY1 SY1 ++ w9 ca qY2 SY2 ++ w9 ca qY3 SY3)) [0, 1, 2, 3, 4, 5, 8, 9, 6, 7] rfl
                  have hD := hD.sub (ws' := (w11 ca qC (.ref (qA 0)) (rC4) (rC6) (rC7) (rC10) (rC11) (rC12) (rC14) (rC15) (rC17) (rC18) (rC19) SC ++ wLT ca qA (rf4 (qY0 0) (qY1 0) (qY2 0) (qY3 0)) ++ w9 ca qY0 SY0 ++ w9 ca qY1 SY1 ++ w9 ca qY2 SY2 ++ w9 ca qY3 SY3)) [0, 1, 2, 3, 4, 5, 8, 9, 6, 7] rfl rfl
                  refine lv_if_ne (tgt := 52) hx hb dX11_pour_41 (by decide) (fun hc => ?_) (fun hc => ?_)
                  · have hf := tc_neg hc hf
                    exact tX11_pour_52 X z SC SY0 SY1 SY2 SY3 hf _ _ _ hP hD hS (lv_sub hl [2] rfl)
                  · have hf := tc_pos hc hf
                    refine lv_aload hx hb dX11_pour_44 (lv_at hl 0 rfl) ?_
                    obtain ⟨z91, hg, hf⟩ := tc_bi hf
                    refine tc_iV (As := []) (rest := []) (b := qY2 0) (wc := w9 ca qY2 SY2) (wr := w11 ca qC (.ref (qA 0)) (rC4) (rC6) (rC7) (rC10) (rC11) (rC12) (rC14) (rC15) (rC17) (rC18) (rC19) SC ++ wLT ca qA (rf4 (qY0 0) (qY1 0) (qY2 0) (qY3 0)) ++ w9 ca qY0 SY0 ++ w9 ca qY1 SY1 ++ w9 ca qY3 SY3) X hP hD hS (mX9_isMissing hg) okX9_isMissing wl_X11_129 wi_X9_isMissing ws_X9_X9_isMissing_X9_isMissing ⟨rfl, rfl, Nat.le_of_ble_eq_true rfl, Nat.le_of_ble_eq_true rfl⟩ 9 0 rfl rfl [6, 7] [0, 1, 2, 3, 4, 5, 8, 9] ⟨rfl, rfl, rfl, rfl, by decide⟩ rfl hl.1 (Nat.le_of_ble_eq_true rfl) dX11_pour_46 (fun H locs hP hD hS => ?_)
                    have hP := hP.sub (ws' := (w11 ca qC (.ref (qA 0)) (rC4) (rC6) (rC7) (rC10) (rC11) (rC12) (rC14) (rC15) (rC17) (rC18) (rC19) SC ++ wLT ca qA (rf4 (qY0 0) (qY1 0) (qY2 0) (qY3 0)) ++ w9 ca qY0 SY0 ++ w9 ca qY1 SY1 ++ w9 ca qY2 SY2 ++ w9 ca qY3 SY3)) [0, 1, 2, 3, 4, 5, 8, 9, 6, 7] rfl
                    have hD := hD.sub (ws' := (w11 ca qC (.ref (qA 0)) (rC4) (rC6) (rC7) (rC10) (rC11) (rC12) (rC14) (rC15) (rC17) (rC18) (rC19) SC ++ wLT ca qA (rf4 (qY0 0) (qY1 0) (qY2 0) (qY3 0)) ++ w9 ca qY0 SY0 ++ w9 ca qY1 SY1 ++ w9 ca qY2 SY2 ++ w9 ca qY3 SY3)) [0, 1, 2, 3, 4, 5, 8, 9, 6, 7] rfl rfl
                    refine lv_if_eq (tgt := 58) hx hb dX11_pour_49 (by decide) (fun hc => ?_) (fun hc => ?_)
                    · have hf := tc_pos hc hf
                      refine lv_aload hx hb dX11_pour_58 (lv_at hl 1 rfl) ?_
                      refine va_get (D := (dC, dI)) (ci := 9) (v := .int (gi SY2 1)) (C := RX9) (T := TX9) (N := 3) hx hb hts i_X9 hown hK hP 6 rfl rfl 1 (by decide) (hts _ wf_X11_132) (fun _ h9 => h9) rfl dX11_pour_60 ?_
                      refine lv_aload hx hb dX11_pour_63 (lv_at hl 0 rfl) ?_
                      refine va_get (D := (dC, dI)) (ci := 9) (v := .int (gi SY2 1)) (C := RX9) (T := TX9) (N := 3) hx hb hts i_X9 hown hK hP 6 rfl rfl 1 (by decide) (hts _ wf_X11_132) (fun _ h9 => h9) rfl dX11_pour_65 ?_
                      refine lv_icmp_eq (tgt := 78) hx hb dX11_pour_68 (by decide) (fun hc => ?_) (fun hc => ?_)
                      · have hf := tc_pos hc hf
                        refine lv_iload hx hb dX11_pour_78 (lv_at hl 7 rfl) ?_
                        refine lv_if_ge (tgt := 90) hx hb dX11_pour_80 (by decide) (fun hc => ?_) (fun hc => ?_)
                        · have hf := tc_pos hc hf
                          refine lv_aload hx hb dX11_pour_90 (lv_at hl 1 rfl) ?_
                          refine lv_iload_n hx hb dX11_pour_92 rfl (lv_at hl 4 rfl) ?_
                          refine lv_iload hx hb dX11_pour_93 (lv_at hl 7 rfl) ?_
                          obtain ⟨z92, hg, hf⟩ := tc_bi hf
                          refine tc_iV (As := [.int (a2), .int (a5)]) (rest := []) (b := qY2 0) (wc := w9 ca qY2 SY2) (wr := w11 ca qC (.ref (qA 0)) (rC4) (rC6) (rC7) (rC10) (rC11) (rC12) (rC14) (rC15) (rC17) (rC18) (rC19) SC ++ wLT ca qA (rf4 (qY0 0) (qY1 0) (qY2 0) (qY3 0)) ++ w9 ca qY0 SY0 ++ w9 ca qY1 SY1 ++ w9 ca qY3 SY3) X hP hD hS (mX9_holds hg) okX9_holds wl_X11_135 wi_X9_holds ws_X9_X9_holds_X9_holds ⟨rfl, rfl, Nat.le_of_ble_eq_true rfl, Nat.le_of_ble_eq_true rfl⟩ 9 0 rfl rfl [6, 7] [0, 1, 2, 3, 4, 5, 8, 9] ⟨rfl, rfl, rfl, rfl, by decide⟩ rfl hl.1 (Nat.le_of_ble_eq_true rfl) dX11_pour_95 (fun H locs hP hD hS => ?_)
                          have hP := hP.sub (ws' := (w11 ca qC (.ref (qA 0)) (rC4) (rC6) (rC7) (rC10) (rC11) (rC12) (rC14) (rC15) (rC17) (rC18) (rC19) SC ++ wLT ca qA (rf4 (qY0 0) (qY1 0) (qY2 0) (qY3 0)) ++ w9 ca qY0 SY0 ++ w9 ca qY1 SY1 ++ w9 ca qY2 SY2 ++ w9 ca qY3 SY3)) [0, 1, 2, 3, 4, 5, 8, 9, 6, 7] rfl
                          have hD := hD.sub (ws' := (w11 ca qC (.ref (qA 0)) (rC4) (rC6) (rC7) (rC10) (rC11) (rC12) (rC14) (rC15) (rC17) (rC18) (rC19) SC ++ wLT ca qA (rf4 (qY0 0) (qY1 0) (qY2 0) (qY3 0)) ++ w9 ca qY0 SY0 ++ w9 ca qY1 SY1 ++ w9 ca qY2 SY2 ++ w9 ca qY3 SY3)) [0, 1, 2, 3, 4, 5, 8, 9, 6, 7] rfl rfl
                          refine lv_if_eq (tgt := 113) hx hb dX11_pour_98 (by decide) (fun hc => ?_) (fun hc => ?_)
                          · have hf := tc_pos hc hf
                            exact tX11_pour_113 X z SC SY0 SY1 SY2 SY3 hf _ _ _ hP hD hS (lv_sub hl [2] rfl)
                          · have hf := tc_neg hc hf
                            refine lv_aload hx hb dX11_pour_101 (lv_at hl 0 rfl) ?_
                            refine lv_iload hx hb dX11_pour_103 (lv_at hl 6 rfl) ?_
                            refine lv_iload hx hb dX11_pour_105 (lv_at hl 7 rfl) ?_
                            obtain ⟨z93, hg, hf⟩ := tc_bi hf
                            refine tc_iV (As := [.int (a4), .int (a5)]) (rest := []) (b := qY2 0) (wc := w9 ca qY2 SY2) (wr := w11 ca qC (.ref (qA 0)) (rC4) (rC6) (rC7) (rC10) (rC11) (rC12) (rC14) (rC15) (rC17) (rC18) (rC19) SC ++ wLT ca qA (rf4 (qY0 0) (qY1 0) (qY2 0) (qY3 0)) ++ w9 ca qY0 SY0 ++ w9 ca qY1 SY1 ++ w9 ca qY3 SY3) X hP hD hS (mX9_holds hg) okX9_holds wl_X11_135 wi_X9_holds ws_X9_X9_holds_X9_holds ⟨rfl, rfl, Nat.le_of_ble_eq_true rfl, Nat.le_of_ble_eq_true rfl⟩ 9 0 rfl rfl [6, 7] [0, 1, 2, 3, 4, 5, 8, 9] ⟨rfl, rfl, rfl, rfl, by decide⟩ rfl hl.1 (Nat.le_of_ble_eq_true rfl) dX11_pour_107 (fun H locs hP hD hS => ?_)
                            have hP := hP.sub (ws' := (w11 ca qC (.ref (qA 0)) (rC4) (rC6) (rC7) (rC10) (rC11) (rC12) (rC14) (rC15) (rC17) (rC18) (rC19) SC ++ wLT ca qA (rf4 (qY0 0) (qY1 0) (qY2 0) (qY3 0)) ++ w9 ca qY0 SY0 ++ w9 ca qY1 SY1 ++ w9 ca qY2 SY2 ++ w9 ca qY3 SY3)) [0, 1, 2, 3, 4, 5, 8, 9, 6, 7] rfl
                            have hD := hD.sub (ws' := (w11 ca qC (.ref (qA 0)) (rC4) (rC6) (rC7) (rC10) (rC11) (rC12) (rC14) (rC15) (rC17) (rC18) (rC19) SC ++ wLT ca qA (rf4 (qY0 0) (qY1 0) (qY2 0) (qY3 0)) ++ w9 ca qY0 SY0 ++ w9 ca qY1 SY1 ++ w9 ca qY2 SY2 ++ w9 ca qY3 SY3)) [0, 1, 2, 3, 4, 5, 8, 9, 6, 7] rfl rfl
                            refine lv_if_ne (tgt := 119) hx hb dX11_pour_110 (by decide) (fun hc => ?_) (fun hc => ?_)
                            · have hf := tc_neg hc hf
                              refine lv_aload hx hb dX11_pour_119 (lv_at hl 1 rfl) ?_
                              refine va_get (D := (dC, dI)) (ci := 9) (v := .ref (qY2 1)) (C := RX9) (T := TX9) (N := 3) hx hb hts i_X9 hown hK hP 6 rfl rfl 0 (by decide) (hts _ wf_X11_125) (fun _ h9 => h9) rfl dX11_pour_121 ?_
                              refine lv_iload_n hx hb dX11_pour_124 rfl (lv_at hl 4 rfl) ?_
                              refine lv_aload hx hb dX11_pour_125 (lv_at hl 0 rfl) ?_
                              refine va_get (D := (dC, dI)) (ci := 9) (v := .ref (qY2 1)) (C := RX9) (T := TX9) (N := 3) hx hb hts i_X9 hown hK hP 6 rfl rfl 0 (by decide) (hts _ wf_X11_125) (fun _ h9 => h9) rfl dX11_pour_127 ?_
                              refine lv_iload hx hb dX11_pour_130 (lv_at hl 6 rfl) ?_
                              refine lv_iload hx hb dX11_pour_132 (lv_at hl 7 rfl) ?_
                              obtain ⟨hc94, hf⟩ := tc_ck hf
                              refine tc_cpl (rest := []) X hl.1 wl_X11_139 hP hD hS 7 7 2 2 rfl rfl rfl rfl hc94 (Nat.le_of_ble_eq_true rfl) (Nat.le_of_ble_eq_true rfl) dX11_pour_134 (fun H locs hP hD hS => ?_)
                              have hP := tc_eP (cwm22_4_1 ca qC qA qY0 qY1 qY2 qY3 (rf4 (qY0 0) (qY1 0) (qY2 0) (qY3 0)) (.ref (qA 0)) (rC4) (rC6) (rC7) (rC10) (rC11) (rC12) (rC14) (rC15) (rC17) (rC18) (rC19) SC SY0 SY1 SY2 SY3 (cpl (rl SY2 1) (rl SY2 1) a2 a4 a5)) hP
                              have hD := tc_eD (cwm22_4_1 ca qC qA qY0 qY1 qY2 qY3 (rf4 (qY0 0) (qY1 0) (qY2 0) (qY3 0)) (.ref (qA 0)) (rC4) (rC6) (rC7) (rC10) (rC11) (rC12) (rC14) (rC15) (rC17) (rC18) (rC19) SC SY0 SY1 SY2 SY3 (cpl (rl SY2 1) (rl SY2 1) a2 a4 a5)) hD
                              refine lv_aload_n hx hb dX11_pour_137 rfl (lv_at hl 2 rfl) ?_
                              obtain ⟨z95, hg, hf⟩ := tc_bi hf
                              refine tc_iV (As := []) (rest := []) (b := qC 0) (wc := w11 ca qC (.ref (qA 0)) (rC4) (rC6) (rC7) (rC10) (rC11) (rC12) (rC14) (rC15) (rC17) (rC18) (rC19) SC) (wr := wLT ca qA (rf4 (qY0 0) (qY1 0) (qY2 0) (qY3 0)) ++ w9 ca qY0 SY0 ++ w9 ca qY1 SY1 ++ w9 ca qY2 (sR SY2 1 (cpl (rl SY2 1) (rl SY2 1) a2 a4 a5)) ++ w9 ca qY3 SY3) X hP hD hS (mX11_grant hg) okX11_grant wl_X11_109 wi_X11_grant ws_X11_X11_grant_X11_grant ⟨rfl, rfl, Nat.le_of_ble_eq_true rfl, Nat.le_of_ble_eq_true rfl⟩ 11 0 rfl rfl [0] [1, 2, 3, 4, 5, 6, 7, 8, 9] ⟨rfl, rfl, rfl, rfl, by decide⟩ rfl hl.1 (Nat.le_of_ble_eq_true rfl) dX11_pour_138 (fun H locs hP hD hS => ?_)
                              have hP := hP.sub (ws' := (w11 ca qC (.ref (qA 0)) (rC4) (rC6) (rC7) (rC10) (rC11) (rC12) (rC14) (rC15) (rC17) (rC18) (rC19) z95.2 ++ wLT ca qA (rf4 (qY0 0) (qY1 0) (qY2 0) (qY3 0)) ++ w9 ca qY0 SY0 ++ w9 ca qY1 SY1 ++ w9 ca qY2 (sR SY2 1 (cpl (rl SY2 1) (rl SY2 1) a2 a4 a5)) ++ w9 ca qY3 SY3)) [9, 0, 1, 2, 3, 4, 5, 6, 7, 8] rfl
                              have hD := hD.sub (ws' := (w11 ca qC (.ref (qA 0)) (rC4) (rC6) (rC7) (rC10) (rC11) (rC12) (rC14) (rC15) (rC17) (rC18) (rC19) z95.2 ++ wLT ca qA (rf4 (qY0 0) (qY1 0) (qY2 0) (qY3 0)) ++ w9 ca qY0 SY0 ++ w9 ca qY1 SY1 ++ w9 ca qY2 (sR SY2 1 (cpl (rl SY2 1) (rl SY2 1) a2 a4 a5)) ++ w9 ca qY3 SY3)) [9, 0, 1, 2, 3, 4, 5, 6, 7, 8] rfl rfl
                              obtain ⟨hz1, hf⟩ := tc_ck hf
                              obtain rfl := Option.some.inj hf
                              exact tc_rz X hP hD hS rfl dX11_pour_141 hz1 rfl rfl
                            · have hf := tc_pos hc hf
                              exact tX11_pour_113 X z SC SY0 SY1 SY2 SY3 hf _ _ _ hP hD hS (lv_sub hl [2] rfl)
                        · have hf := tc_neg hc hf
                          refine lv_aload_n hx hb dX11_pour_83 rfl (lv_at hl 2 rfl) ?_
                          refine lv_bipush (v := (6 : Int32)) hx hb dX11_pour_84 (by decide) ?_
                          obtain ⟨z96, hg, hf⟩ := tc_bi hf
                          refine tc_iV (As := [.int ((6 : Int32))]) (rest := []) (b := qC 0) (wc := w11 ca qC (.ref (qA 0)) (rC4) (rC6) (rC7) (rC10) (rC11) (rC12) (rC14) (rC15) (rC17) (rC18) (rC19) SC) (wr := wLT ca qA (rf4 (qY0 0) (qY1 0) (qY2 0) (qY3 0)) ++ w9 ca qY0 SY0 ++ w9 ca qY1 SY1 ++ w9 ca qY2 SY2 ++ w9 ca qY3 SY3) X hP hD hS (mX11_deny hg) okX11_deny wl_X11_102 wi_X11_deny ws_X11_X11_deny_X11_deny ⟨rfl, rfl, Nat.le_of_ble_eq_true rfl, Nat.le_of_ble_eq_true rfl⟩ 11 0 rfl rfl [0] [1, 2, 3, 4, 5, 6, 7, 8, 9] ⟨rfl, rfl, rfl, rfl, by decide⟩ rfl hl.1 (Nat.le_of_ble_eq_true rfl) dX11_pour_86 (fun H locs hP hD hS => ?_)
                          have hP := hP.sub (ws' := (w11 ca qC (.ref (qA 0)) (rC4) (rC6) (rC7) (rC10) (rC11) (rC12) (rC14) (rC15) (rC17) (rC18) (rC19) z96.2 ++ wLT ca qA (rf4 (qY0 0) (qY1 0) (qY2 0) (qY3 0)) ++ w9 ca qY0 SY0 ++ w9 ca qY1 SY1 ++ w9 ca qY2 SY2 ++ w9 ca qY3 SY3)) [9, 0, 1, 2, 3, 4, 5, 6, 7, 8] rfl
                          have hD := hD.sub (ws' := (w11 ca qC (.ref (qA 0)) (rC4) (rC6) (rC7) (rC10) (rC11) (rC12) (rC14) (rC15) (rC17) (rC18) (rC19) z96.2 ++ wLT ca qA (rf4 (qY0 0) (qY1 0) (qY2 0) (qY3 0)) ++ w9 ca qY0 SY0 ++ w9 ca qY1 SY1 ++ w9 ca qY2 SY2 ++ w9 ca qY3 SY3)) [9, 0, 1, 2, 3, 4, 5, 6, 7, 8] rfl rfl
                          obtain ⟨hz1, hf⟩ := tc_ck hf
                          obtain rfl := Option.some.inj hf
                          exact tc_rz X hP hD hS rfl dX11_pour_89 hz1 rfl rfl
                      · have hf := tc_neg hc hf
                        refine lv_aload_n hx hb dX11_pour_71 rfl (lv_at hl 2 rfl) ?_
                        refine lv_bipush (v := (11 : Int32)) hx hb dX11_pour_72 (by decide) ?_
                        obtain ⟨z97, hg, hf⟩ := tc_bi hf
                        refine tc_iV (As := [.int ((11 : Int32))]) (rest := []) (b := qC 0) (wc := w11 ca qC (.ref (qA 0)) (rC4) (rC6) (rC7) (rC10) (rC11) (rC12) (rC14) (rC15) (rC17) (rC18) (rC19) SC) (wr := wLT ca qA (rf4 (qY0 0) (qY1 0) (qY2 0) (qY3 0)) ++ w9 ca qY0 SY0 ++ w9 ca qY1 SY1 ++ w9 ca qY2 SY2 ++ w9 ca qY3 SY3) X hP hD hS (mX11_deny hg) okX11_deny wl_X11_102 wi_X11_deny ws_X11_X11_deny_X11_deny ⟨rfl, rfl, Nat.le_of_ble_eq_true rfl, Nat.le_of_ble_eq_true rfl⟩ 11 0 rfl rfl [0] [1, 2, 3, 4, 5, 6, 7, 8, 9] ⟨rfl, rfl, rfl, rfl, by decide⟩ rfl hl.1 (Nat.le_of_ble_eq_true rfl) dX11_pour_74 (fun H locs hP hD hS => ?_)
                        have hP := hP.sub (ws' := (w11 ca qC (.ref (qA 0)) (rC4) (rC6) (rC7) (rC10) (rC11) (rC12) (rC14) (rC15) (rC17) (rC18) (rC19) z97.2 ++ wLT ca qA (rf4 (qY0 0) (qY1 0) (qY2 0) (qY3 0)) ++ w9 ca qY0 SY0 ++ w9 ca qY1 SY1 ++ w9 ca qY2 SY2 ++ w9 ca qY3 SY3)) [9, 0, 1, 2, 3, 4, 5, 6, 7, 8] rfl
                        have hD := hD.sub (ws' := (w11 ca qC (.ref (qA 0)) (rC4) (rC6) (rC7) (rC10) (rC11) (rC12) (rC14) (rC15) (rC17) (rC18) (rC19) z97.2 ++ wLT ca qA (rf4 (qY0 0) (qY1 0) (qY2 0) (qY3 0)) ++ w9 ca qY0 SY0 ++ w9 ca qY1 SY1 ++ w9 ca qY2 SY2 ++ w9 ca qY3 SY3)) [9, 0, 1, 2, 3, 4, 5, 6, 7, 8] rfl rfl
                        obtain ⟨hz1, hf⟩ := tc_ck hf
                        obtain rfl := Option.some.inj hf
                        exact tc_rz X hP hD hS rfl dX11_pour_77 hz1 rfl rfl
                    · have hf := tc_neg hc hf
                      exact tX11_pour_52 X z SC SY0 SY1 SY2 SY3 hf _ _ _ hP hD hS (lv_sub hl [2] rfl)
                · have hf := tc_neg hq73_2 hf
                  by_cases hq73_3 : a3 = (3 : Int32)
                  · have hf := tc_pos hq73_3 hf
                    refine tc_ald (b := qY3 0) X hP 1 4 rfl rfl 3 (by rw [hq73_3]; decide) (by rw [hq73_3]; exact inb_vp (by decide)) rfl dX11_pour_33 ?_
                    refine lv_astore (lv' := [(7, .ref (qY3 0)), (6, .ref (qY2 0)), (0, .ref (qC 0)), (1, .int (a1)), (2, .int (a2)), (3, .int (a3)), (4, .int (a4)), (5, .int (a5))]) hx hb dX11_pour_34 hl (by decide) rfl (fun ls hl => ?_)
                    refine lv_aload hx hb dX11_pour_36 (lv_at hl 1 rfl) ?_
                    obtain ⟨z98, hg, hf⟩ := tc_bi hf
                    refine tc_iV (As := []) (rest := []) (b := qY2 0) (wc := w9 ca qY2 SY2) (wr := w11 ca qC (.ref (qA 0)) (rC4) (rC6) (rC7) (rC10) (rC11) (rC12) (rC14) (rC15) (rC17) (rC18) (rC19) SC ++ wLT ca qA (rf4 (qY0 0) (qY1 0) (qY2 0) (qY3 0)) ++ w9 ca qY0 SY0 ++ w9 ca qY1 SY1 ++ w9 ca qY3 SY3) X hP hD hS (mX9_isMissing hg) okX9_isMissing wl_X11_129 wi_X9_isMissing ws_X9_X9_isMissing_X9_isMissing ⟨rfl, rfl, Nat.le_of_ble_eq_true rfl, Nat.le_of_ble_eq_true rfl⟩ 9 0 rfl rfl [6, 7] [0, 1, 2, 3, 4, 5, 8, 9] ⟨rfl, rfl, rfl, rfl, by decide⟩ rfl hl.1 (Nat.le_of_ble_eq_true rfl) dX11_pour_38 (fun H locs hP hD hS => ?_)
                    have hP := hP.sub (ws' := (w11 ca qC (.ref (qA 0)) (rC4) (rC6) (rC7) (rC10) (rC11) (rC12) (rC14) (rC15) (rC17) (rC18) (rC19) SC ++ wLT ca qA (rf4 (qY0 0) (qY1 0) (qY2 0) (qY3 0)) ++ w9 ca qY0 SY0 ++ w9 ca qY1 SY1 ++ w9 ca qY2 SY2 ++ w9 ca qY3 SY3)) [0, 1, 2, 3, 4, 5, 8, 9, 6, 7] rfl
                    have hD := hD.sub (ws' := (w11 ca qC (.ref (qA 0)) (rC4) (rC6) (rC7) (rC10) (rC11) (rC12) (rC14) (rC15) (rC17) (rC18) (rC19) SC ++ wLT ca qA (rf4 (qY0 0) (qY1 0) (qY2 0) (qY3 0)) ++ w9 ca qY0 SY0 ++ w9 ca qY1 SY1 ++ w9 ca qY2 SY2 ++ w9 ca qY3 SY3)) [0, 1, 2, 3, 4, 5, 8, 9, 6, 7] rfl rfl
                    refine lv_if_ne (tgt := 52) hx hb dX11_pour_41 (by decide) (fun hc => ?_) (fun hc => ?_)
                    · have hf := tc_neg hc hf
                      exact tX11_pour_52 X z SC SY0 SY1 SY2 SY3 hf _ _ _ hP hD hS (lv_sub hl [2] rfl)
                    · have hf := tc_pos hc hf
                      refine lv_aload hx hb dX11_pour_44 (lv_at hl 0 rfl) ?_
                      obtain ⟨z99, hg, hf⟩ := tc_bi hf
                      refine tc_iV (As := []) (rest := []) (b := qY3 0) (wc := w9 ca qY3 SY3) (wr := w11 ca qC (.ref (qA 0)) (rC4) (rC6) (rC7) (rC10) (rC11) (rC12) (rC14) (rC15) (rC17) (rC18) (rC19) SC ++ wLT ca qA (rf4 (qY0 0) (qY1 0) (qY2 0) (qY3 0)) ++ w9 ca qY0 SY0 ++ w9 ca qY1 SY1 ++ w9 ca qY2 SY2) X hP hD hS (mX9_isMissing hg) okX9_isMissing wl_X11_129 wi_X9_isMissing ws_X9_X9_isMissing_X9_isMissing ⟨rfl, rfl, Nat.le_of_ble_eq_true rfl, Nat.le_of_ble_eq_true rfl⟩ 9 0 rfl rfl [8, 9] [0, 1, 2, 3, 4, 5, 6, 7] ⟨rfl, rfl, rfl, rfl, by decide⟩ rfl hl.1 (Nat.le_of_ble_eq_true rfl) dX11_pour_46 (fun H locs hP hD hS => ?_)
                      have hP := hP.sub (ws' := (w11 ca qC (.ref (qA 0)) (rC4) (rC6) (rC7) (rC10) (rC11) (rC12) (rC14) (rC15) (rC17) (rC18) (rC19) SC ++ wLT ca qA (rf4 (qY0 0) (qY1 0) (qY2 0) (qY3 0)) ++ w9 ca qY0 SY0 ++ w9 ca qY1 SY1 ++ w9 ca qY2 SY2 ++ w9 ca qY3 SY3)) [0, 1, 2, 3, 4, 5, 6, 7, 8, 9] rfl
                      have hD := hD.sub (ws' := (w11 ca qC (.ref (qA 0)) (rC4) (rC6) (rC7) (rC10) (rC11) (rC12) (rC14) (rC15) (rC17) (rC18) (rC19) SC ++ wLT ca qA (rf4 (qY0 0) (qY1 0) (qY2 0) (qY3 0)) ++ w9 ca qY0 SY0 ++ w9 ca qY1 SY1 ++ w9 ca qY2 SY2 ++ w9 ca qY3 SY3)) [0, 1, 2, 3, 4, 5, 6, 7, 8, 9] rfl rfl
                      refine lv_if_eq (tgt := 58) hx hb dX11_pour_49 (by decide) (fun hc => ?_) (fun hc => ?_)
                      · have hf := tc_pos hc hf
                        refine lv_aload hx hb dX11_pour_58 (lv_at hl 1 rfl) ?_
                        refine va_get (D := (dC, dI)) (ci := 9) (v := .int (gi SY2 1)) (C := RX9) (T := TX9) (N := 3) hx hb hts i_X9 hown hK hP 6 rfl rfl 1 (by decide) (hts _ wf_X11_132) (fun _ h9 => h9) rfl dX11_pour_60 ?_
                        refine lv_aload hx hb dX11_pour_63 (lv_at hl 0 rfl) ?_
                        refine va_get (D := (dC, dI)) (ci := 9) (v := .int (gi SY3 1)) (C := RX9) (T := TX9) (N := 3) hx hb hts i_X9 hown hK hP 8 rfl rfl 1 (by decide) (hts _ wf_X11_132) (fun _ h9 => h9) rfl dX11_pour_65 ?_
                        refine lv_icmp_eq (tgt := 78) hx hb dX11_pour_68 (by decide) (fun hc => ?_) (fun hc => ?_)
                        · have hf := tc_pos hc hf
                          refine lv_iload hx hb dX11_pour_78 (lv_at hl 7 rfl) ?_
                          refine lv_if_ge (tgt := 90) hx hb dX11_pour_80 (by decide) (fun hc => ?_) (fun hc => ?_)
                          · have hf := tc_pos hc hf
                            refine lv_aload hx hb dX11_pour_90 (lv_at hl 1 rfl) ?_
                            refine lv_iload_n hx hb dX11_pour_92 rfl (lv_at hl 4 rfl) ?_
                            refine lv_iload hx hb dX11_pour_93 (lv_at hl 7 rfl) ?_
                            obtain ⟨z100, hg, hf⟩ := tc_bi hf
                            refine tc_iV (As := [.int (a2), .int (a5)]) (rest := []) (b := qY2 0) (wc := w9 ca qY2 SY2) (wr := w11 ca qC (.ref (qA 0)) (rC4) (rC6) (rC7) (rC10) (rC11) (rC12) (rC14) (rC15) (rC17) (rC18) (rC19) SC ++ wLT ca qA (rf4 (qY0 0) (qY1 0) (qY2 0) (qY3 0)) ++ w9 ca qY0 SY0 ++ w9 ca qY1 SY1 ++ w9 ca qY3 SY3) X hP hD hS (mX9_holds hg) okX9_holds wl_X11_135 wi_X9_holds ws_X9_X9_holds_X9_holds ⟨rfl, rfl, Nat.le_of_ble_eq_true rfl, Nat.le_of_ble_eq_true rfl⟩ 9 0 rfl rfl [6, 7] [0, 1, 2, 3, 4, 5, 8, 9] ⟨rfl, rfl, rfl, rfl, by decide⟩ rfl hl.1 (Nat.le_of_ble_eq_true rfl) dX11_pour_95 (fun H locs hP hD hS => ?_)
                            have hP := hP.sub (ws' := (w11 ca qC (.ref (qA 0)) (rC4) (rC6) (rC7) (rC10) (rC11) (rC12) (rC14) (rC15) (rC17) (rC18) (rC19) SC ++ wLT ca qA (rf4 (qY0 0) (qY1 0) (qY2 0) (qY3 0)) ++ w9 ca qY0 SY0 ++ w9 ca qY1 SY1 ++ w9 ca qY2 SY2 ++ w9 ca qY3 SY3)) [0, 1, 2, 3, 4, 5, 8, 9, 6, 7] rfl
                            have hD := hD.sub (ws' := (w11 ca qC (.ref (qA 0)) (rC4) (rC6) (rC7) (rC10) (rC11) (rC12) (rC14) (rC15) (rC17) (rC18) (rC19) SC ++ wLT ca qA (rf4 (qY0 0) (qY1 0) (qY2 0) (qY3 0)) ++ w9 ca qY0 SY0 ++ w9 ca qY1 SY1 ++ w9 ca qY2 SY2 ++ w9 ca qY3 SY3)) [0, 1, 2, 3, 4, 5, 8, 9, 6, 7] rfl rfl
                            refine lv_if_eq (tgt := 113) hx hb dX11_pour_98 (by decide) (fun hc => ?_) (fun hc => ?_)
                            · have hf := tc_pos hc hf
                              exact tX11_pour_113 X z SC SY0 SY1 SY2 SY3 hf _ _ _ hP hD hS (lv_sub hl [2] rfl)
                            · have hf := tc_neg hc hf
                              refine lv_aload hx hb dX11_pour_101 (lv_at hl 0 rfl) ?_
                              refine lv_iload hx hb dX11_pour_103 (lv_at hl 6 rfl) ?_
                              refine lv_iload hx hb dX11_pour_105 (lv_at hl 7 rfl) ?_
                              obtain ⟨z101, hg, hf⟩ := tc_bi hf
                              refine tc_iV (As := [.int (a4), .int (a5)]) (rest := []) (b := qY3 0) (wc := w9 ca qY3 SY3) (wr := w11 ca qC (.ref (qA 0)) (rC4) (rC6) (rC7) (rC10) (rC11) (rC12) (rC14) (rC15) (rC17) (rC18) (rC19) SC ++ wLT ca qA (rf4 (qY0 0) (qY1 0) (qY2 0) (qY3 0)) ++ w9 ca qY0 SY0 ++ w9 ca qY1 SY1 ++ w9 ca qY2 SY2) X hP hD hS (mX9_holds hg) okX9_holds wl_X11_135 wi_X9_holds ws_X9_X9_holds_X9_holds ⟨rfl, rfl, Nat.le_of_ble_eq_true rfl, Nat.le_of_ble_eq_true rfl⟩ 9 0 rfl rfl [8, 9] [0, 1, 2, 3, 4, 5, 6, 7] ⟨rfl, rfl, rfl, rfl, by decide⟩ rfl hl.1 (Nat.le_of_ble_eq_true rfl) dX11_pour_107 (fun H locs hP hD hS => ?_)
                              have hP := hP.sub (ws' := (w11 ca qC (.ref (qA 0)) (rC4) (rC6) (rC7) (rC10) (rC11) (rC12) (rC14) (rC15) (rC17) (rC18) (rC19) SC ++ wLT ca qA (rf4 (qY0 0) (qY1 0) (qY2 0) (qY3 0)) ++ w9 ca qY0 SY0 ++ w9 ca qY1 SY1 ++ w9 ca qY2 SY2 ++ w9 ca qY3 SY3)) [0, 1, 2, 3, 4, 5, 6, 7, 8, 9] rfl
                              have hD := hD.sub (ws' := (w11 ca qC (.ref (qA 0)) (rC4) (rC6) (rC7) (rC10) (rC11) (rC12) (rC14) (rC15) (rC17) (rC18) (rC19) SC ++ wLT ca qA (rf4 (qY0 0) (qY1 0) (qY2 0) (qY3 0)) ++ w9 ca qY0 SY0 ++ w9 ca qY1 SY1 ++ w9 ca qY2 SY2 ++ w9 ca qY3 SY3)) [0, 1, 2, 3, 4, 5, 6, 7, 8, 9] rfl rfl
                              refine lv_if_ne (tgt := 119) hx hb dX11_pour_110 (by decide) (fun hc => ?_) (fun hc => ?_)
                              · have hf := tc_neg hc hf
                                refine lv_aload hx hb dX11_pour_119 (lv_at hl 1 rfl) ?_
                                refine va_get (D := (dC, dI)) (ci := 9) (v := .ref (qY2 1)) (C := RX9) (T := TX9) (N := 3) hx hb hts i_X9 hown hK hP 6 rfl rfl 0 (by decide) (hts _ wf_X11_125) (fun _ h9 => h9) rfl dX11_pour_121 ?_
                                refine lv_iload_n hx hb dX11_pour_124 rfl (lv_at hl 4 rfl) ?_
                                refine lv_aload hx hb dX11_pour_125 (lv_at hl 0 rfl) ?_
                                refine va_get (D := (dC, dI)) (ci := 9) (v := .ref (qY3 1)) (C := RX9) (T := TX9) (N := 3) hx hb hts i_X9 hown hK hP 8 rfl rfl 0 (by decide) (hts _ wf_X11_125) (fun _ h9 => h9) rfl dX11_pour_127 ?_
                                refine lv_iload hx hb dX11_pour_130 (lv_at hl 6 rfl) ?_
                                refine lv_iload hx hb dX11_pour_132 (lv_at hl 7 rfl) ?_
                                obtain ⟨hc102, hf⟩ := tc_ck hf
                                refine tc_cpl (rest := []) X hl.1 wl_X11_139 hP hD hS 7 9 2 2 rfl rfl rfl rfl hc102 (Nat.le_of_ble_eq_true rfl) (Nat.le_of_ble_eq_true rfl) dX11_pour_134 (fun H locs hP hD hS => ?_)
                                have hP := tc_eP (cwm22_5_1 ca qC qA qY0 qY1 qY2 qY3 (rf4 (qY0 0) (qY1 0) (qY2 0) (qY3 0)) (.ref (qA 0)) (rC4) (rC6) (rC7) (rC10) (rC11) (rC12) (rC14) (rC15) (rC17) (rC18) (rC19) SC SY0 SY1 SY2 SY3 (cpl (rl SY2 1) (rl SY3 1) a2 a4 a5)) hP
                                have hD := tc_eD (cwm22_5_1 ca qC qA qY0 qY1 qY2 qY3 (rf4 (qY0 0) (qY1 0) (qY2 0) (qY3 0)) (.ref (qA 0)) (rC4) (rC6) (rC7) (rC10) (rC11) (rC12) (rC14) (rC15) (rC17) (rC18) (rC19) SC SY0 SY1 SY2 SY3 (cpl (rl SY2 1) (rl SY3 1) a2 a4 a5)) hD
                                refine lv_aload_n hx hb dX11_pour_137 rfl (lv_at hl 2 rfl) ?_
                                obtain ⟨z103, hg, hf⟩ := tc_bi hf
                                refine tc_iV (As := []) (rest := []) (b := qC 0) (wc := w11 ca qC (.ref (qA 0)) (rC4) (rC6) (rC7) (rC10) (rC11) (rC12) (rC14) (rC15) (rC17) (rC18) (rC19) SC) (wr := wLT ca qA (rf4 (qY0 0) (qY1 0) (qY2 0) (qY3 0)) ++ w9 ca qY0 SY0 ++ w9 ca qY1 SY1 ++ w9 ca qY2 SY2 ++ w9 ca qY3 (sR SY3 1 (cpl (rl SY2 1) (rl SY3 1) a2 a4 a5))) X hP hD hS (mX11_grant hg) okX11_grant wl_X11_109 wi_X11_grant ws_X11_X11_grant_X11_grant ⟨rfl, rfl, Nat.le_of_ble_eq_true rfl, Nat.le_of_ble_eq_true rfl⟩ 11 0 rfl rfl [0] [1, 2, 3, 4, 5, 6, 7, 8, 9] ⟨rfl, rfl, rfl, rfl, by decide⟩ rfl hl.1 (Nat.le_of_ble_eq_true rfl) dX11_pour_138 (fun H locs hP hD hS => ?_)
                                have hP := hP.sub (ws' := (w11 ca qC (.ref (qA 0)) (rC4) (rC6) (rC7) (rC10) (rC11) (rC12) (rC14) (rC15) (rC17) (rC18) (rC19) z103.2 ++ wLT ca qA (rf4 (qY0 0) (qY1 0) (qY2 0) (qY3 0)) ++ w9 ca qY0 SY0 ++ w9 ca qY1 SY1 ++ w9 ca qY2 SY2 ++ w9 ca qY3 (sR SY3 1 (cpl (rl SY2 1) (rl SY3 1) a2 a4 a5)))) [9, 0, 1, 2, 3, 4, 5, 6, 7, 8] rfl
                                have hD := hD.sub (ws' := (w11 ca qC (.ref (qA 0)) (rC4) (rC6) (rC7) (rC10) (rC11) (rC12) (rC14) (rC15) (rC17) (rC18) (rC19) z103.2 ++ wLT ca qA (rf4 (qY0 0) (qY1 0) (qY2 0) (qY3 0)) ++ w9 ca qY0 SY0 ++ w9 ca qY1 SY1 ++ w9 ca qY2 SY2 ++ w9 ca qY3 (sR SY3 1 (cpl (rl SY2 1) (rl SY3 1) a2 a4 a5)))) [9, 0, 1, 2, 3, 4, 5, 6, 7, 8] rfl rfl
                                obtain ⟨hz1, hf⟩ := tc_ck hf
                                obtain rfl := Option.some.inj hf
                                exact tc_rz X hP hD hS rfl dX11_pour_141 hz1 rfl rfl
                              · have hf := tc_pos hc hf
                                exact tX11_pour_113 X z SC SY0 SY1 SY2 SY3 hf _ _ _ hP hD hS (lv_sub hl [2] rfl)
                          · have hf := tc_neg hc hf
                            refine lv_aload_n hx hb dX11_pour_83 rfl (lv_at hl 2 rfl) ?_
                            refine lv_bipush (v := (6 : Int32)) hx hb dX11_pour_84 (by decide) ?_
                            obtain ⟨z104, hg, hf⟩ := tc_bi hf
                            refine tc_iV (As := [.int ((6 : Int32))]) (rest := []) (b := qC 0) (wc := w11 ca qC (.ref (qA 0)) (rC4) (rC6) (rC7) (rC10) (rC11) (rC12) (rC14) (rC15) (rC17) (rC18) (rC19) SC) (wr := wLT ca qA (rf4 (qY0 0) (qY1 0) (qY2 0) (qY3 0)) ++ w9 ca qY0 SY0 ++ w9 ca qY1 SY1 ++ w9 ca qY2 SY2 ++ w9 ca qY3 SY3) X hP hD hS (mX11_deny hg) okX11_deny wl_X11_102 wi_X11_deny ws_X11_X11_deny_X11_deny ⟨rfl, rfl, Nat.le_of_ble_eq_true rfl, Nat.le_of_ble_eq_true rfl⟩ 11 0 rfl rfl [0] [1, 2, 3, 4, 5, 6, 7, 8, 9] ⟨rfl, rfl, rfl, rfl, by decide⟩ rfl hl.1 (Nat.le_of_ble_eq_true rfl) dX11_pour_86 (fun H locs hP hD hS => ?_)
                            have hP := hP.sub (ws' := (w11 ca qC (.ref (qA 0)) (rC4) (rC6) (rC7) (rC10) (rC11) (rC12) (rC14) (rC15) (rC17) (rC18) (rC19) z104.2 ++ wLT ca qA (rf4 (qY0 0) (qY1 0) (qY2 0) (qY3 0)) ++ w9 ca qY0 SY0 ++ w9 ca qY1 SY1 ++ w9 ca qY2 SY2 ++ w9 ca qY3 SY3)) [9, 0, 1, 2, 3, 4, 5, 6, 7, 8] rfl
                            have hD := hD.sub (ws' := (w11 ca qC (.ref (qA 0)) (rC4) (rC6) (rC7) (rC10) (rC11) (rC12) (rC14) (rC15) (rC17) (rC18) (rC19) z104.2 ++ wLT ca qA (rf4 (qY0 0) (qY1 0) (qY2 0) (qY3 0)) ++ w9 ca qY0 SY0 ++ w9 ca qY1 SY1 ++ w9 ca qY2 SY2 ++ w9 ca qY3 SY3)) [9, 0, 1, 2, 3, 4, 5, 6, 7, 8] rfl rfl
                            obtain ⟨hz1, hf⟩ := tc_ck hf
                            obtain rfl := Option.some.inj hf
                            exact tc_rz X hP hD hS rfl dX11_pour_89 hz1 rfl rfl
                        · have hf := tc_neg hc hf
                          refine lv_aload_n hx hb dX11_pour_71 rfl (lv_at hl 2 rfl) ?_
                          refine lv_bipush (v := (11 : Int32)) hx hb dX11_pour_72 (by decide) ?_
                          obtain ⟨z105, hg, hf⟩ := tc_bi hf
                          refine tc_iV (As := [.int ((11 : Int32))]) (rest := []) (b := qC 0) (wc := w11 ca qC (.ref (qA 0)) (rC4) (rC6) (rC7) (rC10) (rC11) (rC12) (rC14) (rC15) (rC17) (rC18) (rC19) SC) (wr := wLT ca qA (rf4 (qY0 0) (qY1 0) (qY2 0) (qY3 0)) ++ w9 ca qY0 SY0 ++ w9 ca qY1 SY1 ++ w9 ca qY2 SY2 ++ w9 ca qY3 SY3) X hP hD hS (mX11_deny hg) okX11_deny wl_X11_102 wi_X11_deny ws_X11_X11_deny_X11_deny ⟨rfl, rfl, Nat.le_of_ble_eq_true rfl, Nat.le_of_ble_eq_true rfl⟩ 11 0 rfl rfl [0] [1, 2, 3, 4, 5, 6, 7, 8, 9] ⟨rfl, rfl, rfl, rfl, by decide⟩ rfl hl.1 (Nat.le_of_ble_eq_true rfl) dX11_pour_74 (fun H locs hP hD hS => ?_)
                          have hP := hP.sub (ws' := (w11 ca qC (.ref (qA 0)) (rC4) (rC6) (rC7) (rC10) (rC11) (rC12) (rC14) (rC15) (rC17) (rC18) (rC19) z105.2 ++ wLT ca qA (rf4 (qY0 0) (qY1 0) (qY2 0) (qY3 0)) ++ w9 ca qY0 SY0 ++ w9 ca qY1 SY1 ++ w9 ca qY2 SY2 ++ w9 ca qY3 SY3)) [9, 0, 1, 2, 3, 4, 5, 6, 7, 8] rfl
                          have hD := hD.sub (ws' := (w11 ca qC (.ref (qA 0)) (rC4) (rC6) (rC7) (rC10) (rC11) (rC12) (rC14) (rC15) (rC17) (rC18) (rC19) z105.2 ++ wLT ca qA (rf4 (qY0 0) (qY1 0) (qY2 0) (qY3 0)) ++ w9 ca qY0 SY0 ++ w9 ca qY1 SY1 ++ w9 ca qY2 SY2 ++ w9 ca qY3 SY3)) [9, 0, 1, 2, 3, 4, 5, 6, 7, 8] rfl rfl
                          obtain ⟨hz1, hf⟩ := tc_ck hf
                          obtain rfl := Option.some.inj hf
                          exact tc_rz X hP hD hS rfl dX11_pour_77 hz1 rfl rfl
                      · have hf := tc_neg hc hf
                        exact tX11_pour_52 X z SC SY0 SY1 SY2 SY3 hf _ _ _ hP hD hS (lv_sub hl [2] rfl)
                  · have hf := tc_neg hq73_3 hf
                    cases hf
          · have hf := tc_neg hq4_2 hf
            by_cases hq4_3 : a1 = (3 : Int32)
            · have hf := tc_pos hq4_3 hf
              refine tc_ald (b := qY3 0) X hP 1 4 rfl rfl 3 (by rw [hq4_3]; decide) (by rw [hq4_3]; exact inb_vp (by decide)) rfl dX11_pour_25 ?_
              refine lv_astore (lv' := [(6, .ref (qY3 0)), (0, .ref (qC 0)), (1, .int (a1)), (2, .int (a2)), (3, .int (a3)), (4, .int (a4)), (5, .int (a5))]) hx hb dX11_pour_26 hl (by decide) rfl (fun ls hl => ?_)
              refine lv_aload_n hx hb dX11_pour_28 rfl (lv_at hl 1 rfl) ?_
              refine va_get (D := (dC, dI)) (ci := 11) (v := .ref (qA 0)) (C := RX11) (T := TX11) (N := 20) hx hb hts i_X11 hown hK hP 0 rfl rfl 3 (by decide) (hts _ wf_X11_11) (fun _ h9 => h9) rfl dX11_pour_29 ?_
              refine lv_iload_n hx hb dX11_pour_32 rfl (lv_at hl 4 rfl) ?_
              by_cases hq106_0 : a3 = (0 : Int32)
              · have hf := tc_pos hq106_0 hf
                refine tc_ald (b := qY0 0) X hP 1 4 rfl rfl 0 (by rw [hq106_0]; decide) (by rw [hq106_0]; exact inb_vp (by decide)) rfl dX11_pour_33 ?_
                refine lv_astore (lv' := [(7, .ref (qY0 0)), (6, .ref (qY3 0)), (0, .ref (qC 0)), (1, .int (a1)), (2, .int (a2)), (3, .int (a3)), (4, .int (a4)), (5, .int (a5))]) hx hb dX11_pour_34 hl (by decide) rfl (fun ls hl => ?_)
                refine lv_aload hx hb dX11_pour_36 (lv_at hl 1 rfl) ?_
                obtain ⟨z107, hg, hf⟩ := tc_bi hf
                refine tc_iV (As := []) (rest := []) (b := qY3 0) (wc := w9 ca qY3 SY3) (wr := w11 ca qC (.ref (qA 0)) (rC4) (rC6) (rC7) (rC10) (rC11) (rC12) (rC14) (rC15) (rC17) (rC18) (rC19) SC ++ wLT ca qA (rf4 (qY0 0) (qY1 0) (qY2 0) (qY3 0)) ++ w9 ca qY0 SY0 ++ w9 ca qY1 SY1 ++ w9 ca qY2 SY2) X hP hD hS (mX9_isMissing hg) okX9_isMissing wl_X11_129 wi_X9_isMissing ws_X9_X9_isMissing_X9_isMissing ⟨rfl, rfl, Nat.le_of_ble_eq_true rfl, Nat.le_of_ble_eq_true rfl⟩ 9 0 rfl rfl [8, 9] [0, 1, 2, 3, 4, 5, 6, 7] ⟨rfl, rfl, rfl, rfl, by decide⟩ rfl hl.1 (Nat.le_of_ble_eq_true rfl) dX11_pour_38 (fun H locs hP hD hS => ?_)
                have hP := hP.sub (ws' := (w11 ca qC (.ref (qA 0)) (rC4) (rC6) (rC7) (rC10) (rC11) (rC12) (rC14) (rC15) (rC17) (rC18) (rC19) SC ++ wLT ca qA (rf4 (qY0 0) (qY1 0) (qY2 0) (qY3 0)) ++ w9 ca qY0 SY0 ++ w9 ca qY1 SY1 ++ w9 ca qY2 SY2 ++ w9 ca qY3 SY3)) [0, 1, 2, 3, 4, 5, 6, 7, 8, 9] rfl
                have hD := hD.sub (ws' := (w11 ca qC (.ref (qA 0)) (rC4) (rC6) (rC7) (rC10) (rC11) (rC12) (rC14) (rC15) (rC17) (rC18) (rC19) SC ++ wLT ca qA (rf4 (qY0 0) (qY1 0) (qY2 0) (qY3 0)) ++ w9 ca qY0 SY0 ++ w9 ca qY1 SY1 ++ w9 ca qY2 SY2 ++ w9 ca qY3 SY3)) [0, 1, 2, 3, 4, 5, 6, 7, 8, 9] rfl rfl
                refine lv_if_ne (tgt := 52) hx hb dX11_pour_41 (by decide) (fun hc => ?_) (fun hc => ?_)
                · have hf := tc_neg hc hf
                  exact tX11_pour_52 X z SC SY0 SY1 SY2 SY3 hf _ _ _ hP hD hS (lv_sub hl [2] rfl)
                · have hf := tc_pos hc hf
                  refine lv_aload hx hb dX11_pour_44 (lv_at hl 0 rfl) ?_
                  obtain ⟨z108, hg, hf⟩ := tc_bi hf
                  refine tc_iV (As := []) (rest := []) (b := qY0 0) (wc := w9 ca qY0 SY0) (wr := w11 ca qC (.ref (qA 0)) (rC4) (rC6) (rC7) (rC10) (rC11) (rC12) (rC14) (rC15) (rC17) (rC18) (rC19) SC ++ wLT ca qA (rf4 (qY0 0) (qY1 0) (qY2 0) (qY3 0)) ++ w9 ca qY1 SY1 ++ w9 ca qY2 SY2 ++ w9 ca qY3 SY3) X hP hD hS (mX9_isMissing hg) okX9_isMissing wl_X11_129 wi_X9_isMissing ws_X9_X9_isMissing_X9_isMissing ⟨rfl, rfl, Nat.le_of_ble_eq_true rfl, Nat.le_of_ble_eq_true rfl⟩ 9 0 rfl rfl [2, 3] [0, 1, 4, 5, 6, 7, 8, 9] ⟨rfl, rfl, rfl, rfl, by decide⟩ rfl hl.1 (Nat.le_of_ble_eq_true rfl) dX11_pour_46 (fun H locs hP hD hS => ?_)
                  have hP := hP.sub (ws' := (w11 ca qC (.ref (qA 0)) (rC4) (rC6) (rC7) (rC10) (rC11) (rC12) (rC14) (rC15) (rC17) (rC18) (rC19) SC ++ wLT ca qA (rf4 (qY0 0) (qY1 0) (qY2 0) (qY3 0)) ++ w9 ca qY0 SY0 ++ w9 ca qY1 SY1 ++ w9 ca qY2 SY2 ++ w9 ca qY3 SY3)) [0, 1, 8, 9, 2, 3, 4, 5, 6, 7] rfl
                  have hD := hD.sub (ws' := (w11 ca qC (.ref (qA 0)) (rC4) (rC6) (rC7) (rC10) (rC11) (rC12) (rC14) (rC15) (rC17) (rC18) (rC19) SC ++ wLT ca qA (rf4 (qY0 0) (qY1 0) (qY2 0) (qY3 0)) ++ w9 ca qY0 SY0 ++ w9 ca qY1 SY1 ++ w9 ca qY2 SY2 ++ w9 ca qY3 SY3)) [0, 1, 8, 9, 2, 3, 4, 5, 6, 7] rfl rfl
                  refine lv_if_eq (tgt := 58) hx hb dX11_pour_49 (by decide) (fun hc => ?_) (fun hc => ?_)
                  · have hf := tc_pos hc hf
                    refine lv_aload hx hb dX11_pour_58 (lv_at hl 1 rfl) ?_
                    refine va_get (D := (dC, dI)) (ci := 9) (v := .int (gi SY3 1)) (C := RX9) (T := TX9) (N := 3) hx hb hts i_X9 hown hK hP 8 rfl rfl 1 (by decide) (hts _ wf_X11_132) (fun _ h9 => h9) rfl dX11_pour_60 ?_
                    refine lv_aload hx hb dX11_pour_63 (lv_at hl 0 rfl) ?_
                    refine va_get (D := (dC, dI)) (ci := 9) (v := .int (gi SY0 1)) (C := RX9) (T := TX9) (N := 3) hx hb hts i_X9 hown hK hP 2 rfl rfl 1 (by decide) (hts _ wf_X11_132) (fun _ h9 => h9) rfl dX11_pour_65 ?_
                    refine lv_icmp_eq (tgt := 78) hx hb dX11_pour_68 (by decide) (fun hc => ?_) (fun hc => ?_)
                    · have hf := tc_pos hc hf
                      refine lv_iload hx hb dX11_pour_78 (lv_at hl 7 rfl) ?_
                      refine lv_if_ge (tgt := 90) hx hb dX11_pour_80 (by decide) (fun hc => ?_) (fun hc => ?_)
                      · have hf := tc_pos hc hf
                        refine lv_aload hx hb dX11_pour_90 (lv_at hl 1 rfl) ?_
                        refine lv_iload_n hx hb dX11_pour_92 rfl (lv_at hl 4 rfl) ?_
                        refine lv_iload hx hb dX11_pour_93 (lv_at hl 7 rfl) ?_
                        obtain ⟨z109, hg, hf⟩ := tc_bi hf
                        refine tc_iV (As := [.int (a2), .int (a5)]) (rest := []) (b := qY3 0) (wc := w9 ca qY3 SY3) (wr := w11 ca qC (.ref (qA 0)) (rC4) (rC6) (rC7) (rC10) (rC11) (rC12) (rC14) (rC15) (rC17) (rC18) (rC19) SC ++ wLT ca qA (rf4 (qY0 0) (qY1 0) (qY2 0) (qY3 0)) ++ w9 ca qY0 SY0 ++ w9 ca qY1 SY1 ++ w9 ca qY2 SY2) X hP hD hS (mX9_holds hg) okX9_holds wl_X11_135 wi_X9_holds ws_X9_X9_holds_X9_holds ⟨rfl, rfl, Nat.le_of_ble_eq_true rfl, Nat.le_of_ble_eq_true rfl⟩ 9 0 rfl rfl [8, 9] [0, 1, 2, 3, 4, 5, 6, 7] ⟨rfl, rfl, rfl, rfl, by decide⟩ rfl hl.1 (Nat.le_of_ble_eq_true rfl) dX11_pour_95 (fun H locs hP hD hS => ?_)
                        have hP := hP.sub (ws' := (w11 ca qC (.ref (qA 0)) (rC4) (rC6) (rC7) (rC10) (rC11) (rC12) (rC14) (rC15) (rC17) (rC18) (rC19) SC ++ wLT ca qA (rf4 (qY0 0) (qY1 0) (qY2 0) (qY3 0)) ++ w9 ca qY0 SY0 ++ w9 ca qY1 SY1 ++ w9 ca qY2 SY2 ++ w9 ca qY3 SY3)) [0, 1, 2, 3, 4, 5, 6, 7, 8, 9] rfl
                        have hD := hD.sub (ws' := (w11 ca qC (.ref (qA 0)) (rC4) (rC6) (rC7) (rC10) (rC11) (rC12) (rC14) (rC15) (rC17) (rC18) (rC19) SC ++ wLT ca qA (rf4 (qY0 0) (qY1 0) (qY2 0) (qY3 0)) ++ w9 ca qY0 SY0 ++ w9 ca qY1 SY1 ++ w9 ca qY2 SY2 ++ w9 ca qY3 SY3)) [0, 1, 2, 3, 4, 5, 6, 7, 8, 9] rfl rfl
                        refine lv_if_eq (tgt := 113) hx hb dX11_pour_98 (by decide) (fun hc => ?_) (fun hc => ?_)
                        · have hf := tc_pos hc hf
                          exact tX11_pour_113 X z SC SY0 SY1 SY2 SY3 hf _ _ _ hP hD hS (lv_sub hl [2] rfl)
                        · have hf := tc_neg hc hf
                          refine lv_aload hx hb dX11_pour_101 (lv_at hl 0 rfl) ?_
                          refine lv_iload hx hb dX11_pour_103 (lv_at hl 6 rfl) ?_
                          refine lv_iload hx hb dX11_pour_105 (lv_at hl 7 rfl) ?_
                          obtain ⟨z110, hg, hf⟩ := tc_bi hf
                          refine tc_iV (As := [.int (a4), .int (a5)]) (rest := []) (b := qY0 0) (wc := w9 ca qY0 SY0) (wr := w11 ca qC (.ref (qA 0)) (rC4) (rC6) (rC7) (rC10) (rC11) (rC12) (rC14) (rC15) (rC17) (rC18) (rC19) SC ++ wLT ca qA (rf4 (qY0 0) (qY1 0) (qY2 0) (qY3 0)) ++ w9 ca qY1 SY1 ++ w9 ca qY2 SY2 ++ w9 ca qY3 SY3) X hP hD hS (mX9_holds hg) okX9_holds wl_X11_135 wi_X9_holds ws_X9_X9_holds_X9_holds ⟨rfl, rfl, Nat.le_of_ble_eq_true rfl, Nat.le_of_ble_eq_true rfl⟩ 9 0 rfl rfl [2, 3] [0, 1, 4, 5, 6, 7, 8, 9] ⟨rfl, rfl, rfl, rfl, by decide⟩ rfl hl.1 (Nat.le_of_ble_eq_true rfl) dX11_pour_107 (fun H locs hP hD hS => ?_)
                          have hP := hP.sub (ws' := (w11 ca qC (.ref (qA 0)) (rC4) (rC6) (rC7) (rC10) (rC11) (rC12) (rC14) (rC15) (rC17) (rC18) (rC19) SC ++ wLT ca qA (rf4 (qY0 0) (qY1 0) (qY2 0) (qY3 0)) ++ w9 ca qY0 SY0 ++ w9 ca qY1 SY1 ++ w9 ca qY2 SY2 ++ w9 ca qY3 SY3)) [0, 1, 8, 9, 2, 3, 4, 5, 6, 7] rfl
                          have hD := hD.sub (ws' := (w11 ca qC (.ref (qA 0)) (rC4) (rC6) (rC7) (rC10) (rC11) (rC12) (rC14) (rC15) (rC17) (rC18) (rC19) SC ++ wLT ca qA (rf4 (qY0 0) (qY1 0) (qY2 0) (qY3 0)) ++ w9 ca qY0 SY0 ++ w9 ca qY1 SY1 ++ w9 ca qY2 SY2 ++ w9 ca qY3 SY3)) [0, 1, 8, 9, 2, 3, 4, 5, 6, 7] rfl rfl
                          refine lv_if_ne (tgt := 119) hx hb dX11_pour_110 (by decide) (fun hc => ?_) (fun hc => ?_)
                          · have hf := tc_neg hc hf
                            refine lv_aload hx hb dX11_pour_119 (lv_at hl 1 rfl) ?_
                            refine va_get (D := (dC, dI)) (ci := 9) (v := .ref (qY3 1)) (C := RX9) (T := TX9) (N := 3) hx hb hts i_X9 hown hK hP 8 rfl rfl 0 (by decide) (hts _ wf_X11_125) (fun _ h9 => h9) rfl dX11_pour_121 ?_
                            refine lv_iload_n hx hb dX11_pour_124 rfl (lv_at hl 4 rfl) ?_
                            refine lv_aload hx hb dX11_pour_125 (lv_at hl 0 rfl) ?_
                            refine va_get (D := (dC, dI)) (ci := 9) (v := .ref (qY0 1)) (C := RX9) (T := TX9) (N := 3) hx hb hts i_X9 hown hK hP 2 rfl rfl 0 (by decide) (hts _ wf_X11_125) (fun _ h9 => h9) rfl dX11_pour_127 ?_
                            refine lv_iload hx hb dX11_pour_130 (lv_at hl 6 rfl) ?_
                            refine lv_iload hx hb dX11_pour_132 (lv_at hl 7 rfl) ?_
                            obtain ⟨hc111, hf⟩ := tc_ck hf
                            refine tc_cpl (rest := []) X hl.1 wl_X11_139 hP hD hS 9 3 2 2 rfl rfl rfl rfl hc111 (Nat.le_of_ble_eq_true rfl) (Nat.le_of_ble_eq_true rfl) dX11_pour_134 (fun H locs hP hD hS => ?_)
                            have hP := tc_eP (cwm22_2_1 ca qC qA qY0 qY1 qY2 qY3 (rf4 (qY0 0) (qY1 0) (qY2 0) (qY3 0)) (.ref (qA 0)) (rC4) (rC6) (rC7) (rC10) (rC11) (rC12) (rC14) (rC15) (rC17) (rC18) (rC19) SC SY0 SY1 SY2 SY3 (cpl (rl SY3 1) (rl SY0 1) a2 a4 a5)) hP
                            have hD := tc_eD (cwm22_2_1 ca qC qA qY0 qY1 qY2 qY3 (rf4 (qY0 0) (qY1 0) (qY2 0) (qY3 0)) (.ref (qA 0)) (rC4) (rC6) (rC7) (rC10) (rC11) (rC12) (rC14) (rC15) (rC17) (rC18) (rC19) SC SY0 SY1 SY2 SY3 (cpl (rl SY3 1) (rl SY0 1) a2 a4 a5)) hD
                            refine lv_aload_n hx hb dX11_pour_137 rfl (lv_at hl 2 rfl) ?_
                            obtain ⟨z112, hg, hf⟩ := tc_bi hf
                            refine tc_iV (As := []) (rest := []) (b := qC 0) (wc := w11 ca qC (.ref (qA 0)) (rC4) (rC6) (rC7) (rC10) (rC11) (rC12) (rC14) (rC15) (rC17) (rC18) (rC19) SC) (wr := wLT ca qA (rf4 (qY0 0) (qY1 0) (qY2 0) (qY3 0)) ++ w9 ca qY0 (sR SY0 1 (cpl (rl SY3 1) (rl SY0 1) a2 a4 a5)) ++ w9 ca qY1 SY1 ++ w9 ca qY2 SY2 ++ w9 ca qY3 SY3) X hP hD hS (mX11_grant hg) okX11_grant wl_X11_109 wi_X11_grant ws_X11_X11_grant_X11_grant ⟨rfl, rfl, Nat.le_of_ble_eq_true rfl, Nat.le_of_ble_eq_true rfl⟩ 11 0 rfl rfl [0] [1, 2, 3, 4, 5, 6, 7, 8, 9] ⟨rfl, rfl, rfl, rfl, by decide⟩ rfl hl.1 (Nat.le_of_ble_eq_true rfl) dX11_pour_138 (fun H locs hP hD hS => ?_)
                            have hP := hP.sub (ws' := (w11 ca qC (.ref (qA 0)) (rC4) (rC6) (rC7) (rC10) (rC11) (rC12) (rC14) (rC15) (rC17) (rC18) (rC19) z112.2 ++ wLT ca qA (rf4 (qY0 0) (qY1 0) (qY2 0) (qY3 0)) ++ w9 ca qY0 (sR SY0 1 (cpl (rl SY3 1) (rl SY0 1) a2 a4 a5)) ++ w9 ca qY1 SY1 ++ w9 ca qY2 SY2 ++ w9 ca qY3 SY3)) [9, 0, 1, 2, 3, 4, 5, 6, 7, 8] rfl
                            have hD := hD.sub (ws' := (w11 ca qC (.ref (qA 0)) (rC4) (rC6) (rC7) (rC10) (rC11) (rC12) (rC14) (rC15) (rC17) (rC18) (rC19) z112.2 ++ wLT ca qA (rf4 (qY0 0) (qY1 0) (qY2 0) (qY3 0)) ++ w9 ca qY0 (sR SY0 1 (cpl (rl SY3 1) (rl SY0 1) a2 a4 a5)) ++ w9 ca qY1 SY1 ++ w9 ca qY2 SY2 ++ w9 ca qY3 SY3)) [9, 0, 1, 2, 3, 4, 5, 6, 7, 8] rfl rfl
                            obtain ⟨hz1, hf⟩ := tc_ck hf
                            obtain rfl := Option.some.inj hf
                            exact tc_rz X hP hD hS rfl dX11_pour_141 hz1 rfl rfl
                          · have hf := tc_pos hc hf
                            exact tX11_pour_113 X z SC SY0 SY1 SY2 SY3 hf _ _ _ hP hD hS (lv_sub hl [2] rfl)
                      · have hf := tc_neg hc hf
                        refine lv_aload_n hx hb dX11_pour_83 rfl (lv_at hl 2 rfl) ?_
                        refine lv_bipush (v := (6 : Int32)) hx hb dX11_pour_84 (by decide) ?_
                        obtain ⟨z113, hg, hf⟩ := tc_bi hf
                        refine tc_iV (As := [.int ((6 : Int32))]) (rest := []) (b := qC 0) (wc := w11 ca qC (.ref (qA 0)) (rC4) (rC6) (rC7) (rC10) (rC11) (rC12) (rC14) (rC15) (rC17) (rC18) (rC19) SC) (wr := wLT ca qA (rf4 (qY0 0) (qY1 0) (qY2 0) (qY3 0)) ++ w9 ca qY0 SY0 ++ w9 ca qY1 SY1 ++ w9 ca qY2 SY2 ++ w9 ca qY3 SY3) X hP hD hS (mX11_deny hg) okX11_deny wl_X11_102 wi_X11_deny ws_X11_X11_deny_X11_deny ⟨rfl, rfl, Nat.le_of_ble_eq_true rfl, Nat.le_of_ble_eq_true rfl⟩ 11 0 rfl rfl [0] [1, 2, 3, 4, 5, 6, 7, 8, 9] ⟨rfl, rfl, rfl, rfl, by decide⟩ rfl hl.1 (Nat.le_of_ble_eq_true rfl) dX11_pour_86 (fun H locs hP hD hS => ?_)
                        have hP := hP.sub (ws' := (w11 ca qC (.ref (qA 0)) (rC4) (rC6) (rC7) (rC10) (rC11) (rC12) (rC14) (rC15) (rC17) (rC18) (rC19) z113.2 ++ wLT ca qA (rf4 (qY0 0) (qY1 0) (qY2 0) (qY3 0)) ++ w9 ca qY0 SY0 ++ w9 ca qY1 SY1 ++ w9 ca qY2 SY2 ++ w9 ca qY3 SY3)) [9, 0, 1, 2, 3, 4, 5, 6, 7, 8] rfl
                        have hD := hD.sub (ws' := (w11 ca qC (.ref (qA 0)) (rC4) (rC6) (rC7) (rC10) (rC11) (rC12) (rC14) (rC15) (rC17) (rC18) (rC19) z113.2 ++ wLT ca qA (rf4 (qY0 0) (qY1 0) (qY2 0) (qY3 0)) ++ w9 ca qY0 SY0 ++ w9 ca qY1 SY1 ++ w9 ca qY2 SY2 ++ w9 ca qY3 SY3)) [9, 0, 1, 2, 3, 4, 5, 6, 7, 8] rfl rfl
                        obtain ⟨hz1, hf⟩ := tc_ck hf
                        obtain rfl := Option.some.inj hf
                        exact tc_rz X hP hD hS rfl dX11_pour_89 hz1 rfl rfl
                    · have hf := tc_neg hc hf
                      refine lv_aload_n hx hb dX11_pour_71 rfl (lv_at hl 2 rfl) ?_
                      refine lv_bipush (v := (11 : Int32)) hx hb dX11_pour_72 (by decide) ?_
                      obtain ⟨z114, hg, hf⟩ := tc_bi hf
                      refine tc_iV (As := [.int ((11 : Int32))]) (rest := []) (b := qC 0) (wc := w11 ca qC (.ref (qA 0)) (rC4) (rC6) (rC7) (rC10) (rC11) (rC12) (rC14) (rC15) (rC17) (rC18) (rC19) SC) (wr := wLT ca qA (rf4 (qY0 0) (qY1 0) (qY2 0) (qY3 0)) ++ w9 ca qY0 SY0 ++ w9 ca qY1 SY1 ++ w9 ca qY2 SY2 ++ w9 ca qY3 SY3) X hP hD hS (mX11_deny hg) okX11_deny wl_X11_102 wi_X11_deny ws_X11_X11_deny_X11_deny ⟨rfl, rfl, Nat.le_of_ble_eq_true rfl, Nat.le_of_ble_eq_true rfl⟩ 11 0 rfl rfl [0] [1, 2, 3, 4, 5, 6, 7, 8, 9] ⟨rfl, rfl, rfl, rfl, by decide⟩ rfl hl.1 (Nat.le_of_ble_eq_true rfl) dX11_pour_74 (fun H locs hP hD hS => ?_)
                      have hP := hP.sub (ws' := (w11 ca qC (.ref (qA 0)) (rC4) (rC6) (rC7) (rC10) (rC11) (rC12) (rC14) (rC15) (rC17) (rC18) (rC19) z114.2 ++ wLT ca qA (rf4 (qY0 0) (qY1 0) (qY2 0) (qY3 0)) ++ w9 ca qY0 SY0 ++ w9 ca qY1 SY1 ++ w9 ca qY2 SY2 ++ w9 ca qY3 SY3)) [9, 0, 1, 2, 3, 4, 5, 6, 7, 8] rfl
                      have hD := hD.sub (ws' := (w11 ca qC (.ref (qA 0)) (rC4) (rC6) (rC7) (rC10) (rC11) (rC12) (rC14) (rC15) (rC17) (rC18) (rC19) z114.2 ++ wLT ca qA (rf4 (qY0 0) (qY1 0) (qY2 0) (qY3 0)) ++ w9 ca qY0 SY0 ++ w9 ca qY1 SY1 ++ w9 ca qY2 SY2 ++ w9 ca qY3 SY3)) [9, 0, 1, 2, 3, 4, 5, 6, 7, 8] rfl rfl
                      obtain ⟨hz1, hf⟩ := tc_ck hf
                      obtain rfl := Option.some.inj hf
                      exact tc_rz X hP hD hS rfl dX11_pour_77 hz1 rfl rfl
                  · have hf := tc_neg hc hf
                    exact tX11_pour_52 X z SC SY0 SY1 SY2 SY3 hf _ _ _ hP hD hS (lv_sub hl [2] rfl)
              · have hf := tc_neg hq106_0 hf
                by_cases hq106_1 : a3 = (1 : Int32)
                · have hf := tc_pos hq106_1 hf
                  refine tc_ald (b := qY1 0) X hP 1 4 rfl rfl 1 (by rw [hq106_1]; decide) (by rw [hq106_1]; exact inb_vp (by decide)) rfl dX11_pour_33 ?_
                  refine lv_astore (lv' := [(7, .ref (qY1 0)), (6, .ref (qY3 0)), (0, .ref (qC 0)), (1, .int (a1)), (2, .int (a2)), (3, .int (a3)), (4, .int (a4)), (5, .int (a5))]) hx hb dX11_pour_34 hl (by decide) rfl (fun ls hl => ?_)
                  refine lv_aload hx hb dX11_pour_36 (lv_at hl 1 rfl) ?_
                  obtain ⟨z115, hg, hf⟩ := tc_bi hf
                  refine tc_iV (As := []) (rest := []) (b := qY3 0) (wc := w9 ca qY3 SY3) (wr := w11 ca qC (.ref (qA 0)) (rC4) (rC6) (rC7) (rC10) (rC11) (rC12) (rC14) (rC15) (rC17) (rC18) (rC19) SC ++ wLT ca qA (rf4 (qY0 0) (qY1 0) (qY2 0) (qY3 0)) ++ w9 ca qY0 SY0 ++ w9 ca qY1 SY1 ++ w9 ca qY2 SY2) X hP hD hS (mX9_isMissing hg) okX9_isMissing wl_X11_129 wi_X9_isMissing ws_X9_X9_isMissing_X9_isMissing ⟨rfl, rfl, Nat.le_of_ble_eq_true rfl, Nat.le_of_ble_eq_true rfl⟩ 9 0 rfl rfl [8, 9] [0, 1, 2, 3, 4, 5, 6, 7] ⟨rfl, rfl, rfl, rfl, by decide⟩ rfl hl.1 (Nat.le_of_ble_eq_true rfl) dX11_pour_38 (fun H locs hP hD hS => ?_)
                  have hP := hP.sub (ws' := (w11 ca qC (.ref (qA 0)) (rC4) (rC6) (rC7) (rC10) (rC11) (rC12) (rC14) (rC15) (rC17) (rC18) (rC19) SC ++ wLT ca qA (rf4 (qY0 0) (qY1 0) (qY2 0) (qY3 0)) ++ w9 ca qY0 SY0 ++ w9 ca qY1 SY1 ++ w9 ca qY2 SY2 ++ w9 ca qY3 SY3)) [0, 1, 2, 3, 4, 5, 6, 7, 8, 9] rfl
                  have hD := hD.sub (ws' := (w11 ca qC (.ref (qA 0)) (rC4) (rC6) (rC7) (rC10) (rC11) (rC12) (rC14) (rC15) (rC17) (rC18) (rC19) SC ++ wLT ca qA (rf4 (qY0 0) (qY1 0) (qY2 0) (qY3 0)) ++ w9 ca qY0 SY0 ++ w9 ca qY1 SY1 ++ w9 ca qY2 SY2 ++ w9 ca qY3 SY3)) [0, 1, 2, 3, 4, 5, 6, 7, 8, 9] rfl rfl
                  refine lv_if_ne (tgt := 52) hx hb dX11_pour_41 (by decide) (fun hc => ?_) (fun hc => ?_)
                  · have hf := tc_neg hc hf
                    exact tX11_pour_52 X z SC SY0 SY1 SY2 SY3 hf _ _ _ hP hD hS (lv_sub hl [2] rfl)
                  · have hf := tc_pos hc hf
                    refine lv_aload hx hb dX11_pour_44 (lv_at hl 0 rfl) ?_
                    obtain ⟨z116, hg, hf⟩ := tc_bi hf
                    refine tc_iV (As := []) (rest := []) (b := qY1 0) (wc := w9 ca qY1 SY1) (wr := w11 ca qC (.ref (qA 0)) (rC4) (rC6) (rC7) (rC10) (rC11) (rC12) (rC14) (rC15) (rC17) (rC18) (rC19) SC ++ wLT ca qA (rf4 (qY0 0) (qY1 0) (qY2 0) (qY3 0)) ++ w9 ca qY0 SY0 ++ w9 ca qY2 SY2 ++ w9 ca qY3 SY3) X hP hD hS (mX9_isMissing hg) okX9_isMissing wl_X11_129 wi_X9_isMissing ws_X9_X9_isMissing_X9_isMissing ⟨rfl, rfl, Nat.le_of_ble_eq_true rfl, Nat.le_of_ble_eq_true rfl⟩ 9 0 rfl rfl [4, 5] [0, 1, 2, 3, 6, 7, 8, 9] ⟨rfl, rfl, rfl, rfl, by decide⟩ rfl hl.1 (Nat.le_of_ble_eq_true rfl) dX11_pour_46 (fun H locs hP hD hS => ?_)
                    have hP := hP.sub (ws' := (w11 ca qC (.ref (qA 0)) (rC4) (rC6) (rC7) (rC10) (rC11) (rC12) (rC14) (rC15) (rC17) (rC18) (rC19) SC ++ wLT ca qA (rf4 (qY0 0) (qY1 0) (qY2 0) (qY3 0)) ++ w9 ca qY0 SY0 ++ w9 ca qY1 SY1 ++ w9 ca qY2 SY2 ++ w9 ca qY3 SY3)) [0, 1, 2, 3, 8, 9, 4, 5, 6, 7] rfl
                    have hD := hD.sub (ws' := (w11 ca qC (.ref (qA 0)) (rC4) (rC6) (rC7) (rC10) (rC11) (rC12) (rC14) (rC15) (rC17) (rC18) (rC19) SC ++ wLT ca qA (rf4 (qY0 0) (qY1 0) (qY2 0) (qY3 0)) ++ w9 ca qY0 SY0 ++ w9 ca qY1 SY1 ++ w9 ca qY2 SY2 ++ w9 ca qY3 SY3)) [0, 1, 2, 3, 8, 9, 4, 5, 6, 7] rfl rfl
                    refine lv_if_eq (tgt := 58) hx hb dX11_pour_49 (by decide) (fun hc => ?_) (fun hc => ?_)
                    · have hf := tc_pos hc hf
                      refine lv_aload hx hb dX11_pour_58 (lv_at hl 1 rfl) ?_
                      refine va_get (D := (dC, dI)) (ci := 9) (v := .int (gi SY3 1)) (C := RX9) (T := TX9) (N := 3) hx hb hts i_X9 hown hK hP 8 rfl rfl 1 (by decide) (hts _ wf_X11_132) (fun _ h9 => h9) rfl dX11_pour_60 ?_
                      refine lv_aload hx hb dX11_pour_63 (lv_at hl 0 rfl) ?_
                      refine va_get (D := (dC, dI)) (ci := 9) (v := .int (gi SY1 1)) (C := RX9) (T := TX9) (N := 3) hx hb hts i_X9 hown hK hP 4 rfl rfl 1 (by decide) (hts _ wf_X11_132) (fun _ h9 => h9) rfl dX11_pour_65 ?_
                      refine lv_icmp_eq (tgt := 78) hx hb dX11_pour_68 (by decide) (fun hc => ?_) (fun hc => ?_)
                      · have hf := tc_pos hc hf
                        refine lv_iload hx hb dX11_pour_78 (lv_at hl 7 rfl) ?_
                        refine lv_if_ge (tgt := 90) hx hb dX11_pour_80 (by decide) (fun hc => ?_) (fun hc => ?_)
                        · have hf := tc_pos hc hf
                          refine lv_aload hx hb dX11_pour_90 (lv_at hl 1 rfl) ?_
                          refine lv_iload_n hx hb dX11_pour_92 rfl (lv_at hl 4 rfl) ?_
                          refine lv_iload hx hb dX11_pour_93 (lv_at hl 7 rfl) ?_
                          obtain ⟨z117, hg, hf⟩ := tc_bi hf
                          refine tc_iV (As := [.int (a2), .int (a5)]) (rest := []) (b := qY3 0) (wc := w9 ca qY3 SY3) (wr := w11 ca qC (.ref (qA 0)) (rC4) (rC6) (rC7) (rC10) (rC11) (rC12) (rC14) (rC15) (rC17) (rC18) (rC19) SC ++ wLT ca qA (rf4 (qY0 0) (qY1 0) (qY2 0) (qY3 0)) ++ w9 ca qY0 SY0 ++ w9 ca qY1 SY1 ++ w9 ca qY2 SY2) X hP hD hS (mX9_holds hg) okX9_holds wl_X11_135 wi_X9_holds ws_X9_X9_holds_X9_holds ⟨rfl, rfl, Nat.le_of_ble_eq_true rfl, Nat.le_of_ble_eq_true rfl⟩ 9 0 rfl rfl [8, 9] [0, 1, 2, 3, 4, 5, 6, 7] ⟨rfl, rfl, rfl, rfl, by decide⟩ rfl hl.1 (Nat.le_of_ble_eq_true rfl) dX11_pour_95 (fun H locs hP hD hS => ?_)
                          have hP := hP.sub (ws' := (w11 ca qC (.ref (qA 0)) (rC4) (rC6) (rC7) (rC10) (rC11) (rC12) (rC14) (rC15) (rC17) (rC18) (rC19) SC ++ wLT ca qA (rf4 (qY0 0) (qY1 0) (qY2 0) (qY3 0)) ++ w9 ca qY0 SY0 ++ w9 ca qY1 SY1 ++ w9 ca qY2 SY2 ++ w9 ca qY3 SY3)) [0, 1, 2, 3, 4, 5, 6, 7, 8, 9] rfl
                          have hD := hD.sub (ws' := (w11 ca qC (.ref (qA 0)) (rC4) (rC6) (rC7) (rC10) (rC11) (rC12) (rC14) (rC15) (rC17) (rC18) (rC19) SC ++ wLT ca qA (rf4 (qY0 0) (qY1 0) (qY2 0) (qY3 0)) ++ w9 ca qY0 SY0 ++ w9 ca qY1 SY1 ++ w9 ca qY2 SY2 ++ w9 ca qY3 SY3)) [0, 1, 2, 3, 4, 5, 6, 7, 8, 9] rfl rfl
                          refine lv_if_eq (tgt := 113) hx hb dX11_pour_98 (by decide) (fun hc => ?_) (fun hc => ?_)
                          · have hf := tc_pos hc hf
                            exact tX11_pour_113 X z SC SY0 SY1 SY2 SY3 hf _ _ _ hP hD hS (lv_sub hl [2] rfl)
                          · have hf := tc_neg hc hf
                            refine lv_aload hx hb dX11_pour_101 (lv_at hl 0 rfl) ?_
                            refine lv_iload hx hb dX11_pour_103 (lv_at hl 6 rfl) ?_
                            refine lv_iload hx hb dX11_pour_105 (lv_at hl 7 rfl) ?_
                            obtain ⟨z118, hg, hf⟩ := tc_bi hf
                            refine tc_iV (As := [.int (a4), .int (a5)]) (rest := []) (b := qY1 0) (wc := w9 ca qY1 SY1) (wr := w11 ca qC (.ref (qA 0)) (rC4) (rC6) (rC7) (rC10) (rC11) (rC12) (rC14) (rC15) (rC17) (rC18) (rC19) SC ++ wLT ca qA (rf4 (qY0 0) (qY1 0) (qY2 0) (qY3 0)) ++ w9 ca qY0 SY0 ++ w9 ca qY2 SY2 ++ w9 ca qY3 SY3) X hP hD hS (mX9_holds hg) okX9_holds wl_X11_135 wi_X9_holds ws_X9_X9_holds_X9_holds ⟨rfl, rfl, Nat.le_of_ble_eq_true rfl, Nat.le_of_ble_eq_true rfl⟩ 9 0 rfl rfl [4, 5] [0, 1, 2, 3, 6, 7, 8, 9] ⟨rfl, rfl, rfl, rfl, by decide⟩ rfl hl.1 (Nat.le_of_ble_eq_true rfl) dX11_pour_107 (fun H locs hP hD hS => ?_)
                            have hP := hP.sub (ws' := (w11 ca qC (.ref (qA 0)) (rC4) (rC6) (rC7) (rC10) (rC11) (rC12) (rC14) (rC15) (rC17) (rC18) (rC19) SC ++ wLT ca qA (rf4 (qY0 0) (qY1 0) (qY2 0) (qY3 0)) ++ w9 ca qY0 SY0 ++ w9 ca qY1 SY1 ++ w9 ca qY2 SY2 ++ w9 ca qY3 SY3)) [0, 1, 2, 3, 8, 9, 4, 5, 6, 7] rfl
                            have hD := hD.sub (ws' := (w11 ca qC (.ref (qA 0)) (rC4) (rC6) (rC7) (rC10) (rC11) (rC12) (rC14) (rC15) (rC17) (rC18) (rC19) SC ++ wLT ca qA (rf4 (qY0 0) (qY1 0) (qY2 0) (qY3 0)) ++ w9 ca qY0 SY0 ++ w9 ca qY1 SY1 ++ w9 ca qY2 SY2 ++ w9 ca qY3 SY3)) [0, 1, 2, 3, 8, 9, 4, 5, 6, 7] rfl rfl
                            refine lv_if_ne (tgt := 119) hx hb dX11_pour_110 (by decide) (fun hc => ?_) (fun hc => ?_)
                            · have hf := tc_neg hc hf
                              refine lv_aload hx hb dX11_pour_119 (lv_at hl 1 rfl) ?_
                              refine va_get (D := (dC, dI)) (ci := 9) (v := .ref (qY3 1)) (C := RX9) (T := TX9) (N := 3) hx hb hts i_X9 hown hK hP 8 rfl rfl 0 (by decide) (hts _ wf_X11_125) (fun _ h9 => h9) rfl dX11_pour_121 ?_
                              refine lv_iload_n hx hb dX11_pour_124 rfl (lv_at hl 4 rfl) ?_
                              refine lv_aload hx hb dX11_pour_125 (lv_at hl 0 rfl) ?_
                              refine va_get (D := (dC, dI)) (ci := 9) (v := .ref (qY1 1)) (C := RX9) (T := TX9) (N := 3) hx hb hts i_X9 hown hK hP 4 rfl rfl 0 (by decide) (hts _ wf_X11_125) (fun _ h9 => h9) rfl dX11_pour_127 ?_
                              refine lv_iload hx hb dX11_pour_130 (lv_at hl 6 rfl) ?_
                              refine lv_iload hx hb dX11_pour_132 (lv_at hl 7 rfl) ?_
                              obtain ⟨hc119, hf⟩ := tc_ck hf
                              refine tc_cpl (rest := []) X hl.1 wl_X11_139 hP hD hS 9 5 2 2 rfl rfl rfl rfl hc119 (Nat.le_of_ble_eq_true rfl) (Nat.le_of_ble_eq_true rfl) dX11_pour_134 (fun H locs hP hD hS => ?_)
                              have hP := tc_eP (cwm22_3_1 ca qC qA qY0 qY1 qY2 qY3 (rf4 (qY0 0) (qY1 0) (qY2 0) (qY3 0)) (.ref (qA 0)) (rC4) (rC6) (rC7) (rC10) (rC11) (rC12) (rC14) (rC15) (rC17) (rC18) (rC19) SC SY0 SY1 SY2 SY3 (cpl (rl SY3 1) (rl SY1 1) a2 a4 a5)) hP
                              have hD := tc_eD (cwm22_3_1 ca qC qA qY0 qY1 qY2 qY3 (rf4 (qY0 0) (qY1 0) (qY2 0) (qY3 0)) (.ref (qA 0)) (rC4) (rC6) (rC7) (rC10) (rC11) (rC12) (rC14) (rC15) (rC17) (rC18) (rC19) SC SY0 SY1 SY2 SY3 (cpl (rl SY3 1) (rl SY1 1) a2 a4 a5)) hD
                              refine lv_aload_n hx hb dX11_pour_137 rfl (lv_at hl 2 rfl) ?_
                              obtain ⟨z120, hg, hf⟩ := tc_bi hf
                              refine tc_iV (As := []) (rest := []) (b := qC 0) (wc := w11 ca qC (.ref (qA 0)) (rC4) (rC6) (rC7) (rC10) (rC11) (rC12) (rC14) (rC15) (rC17) (rC18) (rC19) SC) (wr := wLT ca qA (rf4 (qY0 0) (qY1 0) (qY2 0) (qY3 0)) ++ w9 ca qY0 SY0 ++ w9 ca qY1 (sR SY1 1 (cpl (rl SY3 1) (rl SY1 1) a2 a4 a5)) ++ w9 ca qY2 SY2 ++ w9 ca qY3 SY3) X hP hD hS (mX11_grant hg) okX11_grant wl_X11_109 wi_X11_grant ws_X11_X11_grant_X11_grant ⟨rfl, rfl, Nat.le_of_ble_eq_true rfl, Nat.le_of_ble_eq_true rfl⟩ 11 0 rfl rfl [0] [1, 2, 3, 4, 5, 6, 7, 8, 9] ⟨rfl, rfl, rfl, rfl, by decide⟩ rfl hl.1 (Nat.le_of_ble_eq_true rfl) dX11_pour_138 (fun H locs hP hD hS => ?_)
                              have hP := hP.sub (ws' := (w11 ca qC (.ref (qA 0)) (rC4) (rC6) (rC7) (rC10) (rC11) (rC12) (rC14) (rC15) (rC17) (rC18) (rC19) z120.2 ++ wLT ca qA (rf4 (qY0 0) (qY1 0) (qY2 0) (qY3 0)) ++ w9 ca qY0 SY0 ++ w9 ca qY1 (sR SY1 1 (cpl (rl SY3 1) (rl SY1 1) a2 a4 a5)) ++ w9 ca qY2 SY2 ++ w9 ca qY3 SY3)) [9, 0, 1, 2, 3, 4, 5, 6, 7, 8] rfl
                              have hD := hD.sub (ws' := (w11 ca qC (.ref (qA 0)) (rC4) (rC6) (rC7) (rC10) (rC11) (rC12) (rC14) (rC15) (rC17) (rC18) (rC19) z120.2 ++ wLT ca qA (rf4 (qY0 0) (qY1 0) (qY2 0) (qY3 0)) ++ w9 ca qY0 SY0 ++ w9 ca qY1 (sR SY1 1 (cpl (rl SY3 1) (rl SY1 1) a2 a4 a5)) ++ w9 ca qY2 SY2 ++ w9 ca qY3 SY3)) [9, 0, 1, 2, 3, 4, 5, 6, 7, 8] rfl rfl
                              obtain ⟨hz1, hf⟩ := tc_ck hf
                              obtain rfl := Option.some.inj hf
                              exact tc_rz X hP hD hS rfl dX11_pour_141 hz1 rfl rfl
                            · have hf := tc_pos hc hf
                              exact tX11_pour_113 X z SC SY0 SY1 SY2 SY3 hf _ _ _ hP hD hS (lv_sub hl [2] rfl)
                        · have hf := tc_neg hc hf
                          refine lv_aload_n hx hb dX11_pour_83 rfl (lv_at hl 2 rfl) ?_
                          refine lv_bipush (v := (6 : Int32)) hx hb dX11_pour_84 (by decide) ?_
                          obtain ⟨z121, hg, hf⟩ := tc_bi hf
                          refine tc_iV (As := [.int ((6 : Int32))]) (rest := []) (b := qC 0) (wc := w11 ca qC (.ref (qA 0)) (rC4) (rC6) (rC7) (rC10) (rC11) (rC12) (rC14) (rC15) (rC17) (rC18) (rC19) SC) (wr := wLT ca qA (rf4 (qY0 0) (qY1 0) (qY2 0) (qY3 0)) ++ w9 ca qY0 SY0 ++ w9 ca qY1 SY1 ++ w9 ca qY2 SY2 ++ w9 ca qY3 SY3) X hP hD hS (mX11_deny hg) okX11_deny wl_X11_102 wi_X11_deny ws_X11_X11_deny_X11_deny ⟨rfl, rfl, Nat.le_of_ble_eq_true rfl, Nat.le_of_ble_eq_true rfl⟩ 11 0 rfl rfl [0] [1, 2, 3, 4, 5, 6, 7, 8, 9] ⟨rfl, rfl, rfl, rfl, by decide⟩ rfl hl.1 (Nat.le_of_ble_eq_true rfl) dX11_pour_86 (fun H locs hP hD hS => ?_)
                          have hP := hP.sub (ws' := (w11 ca qC (.ref (qA 0)) (rC4) (rC6) (rC7) (rC10) (rC11) (rC12) (rC14) (rC15) (rC17) (rC18) (rC19) z121.2 ++ wLT ca qA (rf4 (qY0 0) (qY1 0) (qY2 0) (qY3 0)) ++ w9 ca qY0 SY0 ++ w9 ca qY1 SY1 ++ w9 ca qY2 SY2 ++ w9 ca qY3 SY3)) [9, 0, 1, 2, 3, 4, 5, 6, 7, 8] rfl
                          have hD := hD.sub (ws' := (w11 ca qC (.ref (qA 0)) (rC4) (rC6) (rC7) (rC10) (rC11) (rC12) (rC14) (rC15) (rC17) (rC18) (rC19) z121.2 ++ wLT ca qA (rf4 (qY0 0) (qY1 0) (qY2 0) (qY3 0)) ++ w9 ca qY0 SY0 ++ w9 ca qY1 SY1 ++ w9 ca qY2 SY2 ++ w9 ca qY3 SY3)) [9, 0, 1, 2, 3, 4, 5, 6, 7, 8] rfl rfl
                          obtain ⟨hz1, hf⟩ := tc_ck hf
                          obtain rfl := Option.some.inj hf
                          exact tc_rz X hP hD hS rfl dX11_pour_89 hz1 rfl rfl
                      · have hf := tc_neg hc hf
                        refine lv_aload_n hx hb dX11_pour_71 rfl (lv_at hl 2 rfl) ?_
                        refine lv_bipush (v := (11 : Int32)) hx hb dX11_pour_72 (by decide) ?_
                        obtain ⟨z122, hg, hf⟩ := tc_bi hf
                        refine tc_iV (As := [.int ((11 : Int32))]) (rest := []) (b := qC 0) (wc := w11 ca qC (.ref (qA 0)) (rC4) (rC6) (rC7) (rC10) (rC11) (rC12) (rC14) (rC15) (rC17) (rC18) (rC19) SC) (wr := wLT ca qA (rf4 (qY0 0) (qY1 0) (qY2 0) (qY3 0)) ++ w9 ca qY0 SY0 ++ w9 ca qY1 SY1 ++ w9 ca qY2 SY2 ++ w9 ca qY3 SY3) X hP hD hS (mX11_deny hg) okX11_deny wl_X11_102 wi_X11_deny ws_X11_X11_deny_X11_deny ⟨rfl, rfl, Nat.le_of_ble_eq_true rfl, Nat.le_of_ble_eq_true rfl⟩ 11 0 rfl rfl [0] [1, 2, 3, 4, 5, 6, 7, 8, 9] ⟨rfl, rfl, rfl, rfl, by decide⟩ rfl hl.1 (Nat.le_of_ble_eq_true rfl) dX11_pour_74 (fun H locs hP hD hS => ?_)
                        have hP := hP.sub (ws' := (w11 ca qC (.ref (qA 0)) (rC4) (rC6) (rC7) (rC10) (rC11) (rC12) (rC14) (rC15) (rC17) (rC18) (rC19) z122.2 ++ wLT ca qA (rf4 (qY0 0) (qY1 0) (qY2 0) (qY3 0)) ++ w9 ca qY0 SY0 ++ w9 ca qY1 SY1 ++ w9 ca qY2 SY2 ++ w9 ca qY3 SY3)) [9, 0, 1, 2, 3, 4, 5, 6, 7, 8] rfl
                        have hD := hD.sub (ws' := (w11 ca qC (.ref (qA 0)) (rC4) (rC6) (rC7) (rC10) (rC11) (rC12) (rC14) (rC15) (rC17) (rC18) (rC19) z122.2 ++ wLT ca qA (rf4 (qY0 0) (qY1 0) (qY2 0) (qY3 0)) ++ w9 ca qY0 SY0 ++ w9 ca qY1 SY1 ++ w9 ca qY2 SY2 ++ w9 ca qY3 SY3)) [9, 0, 1, 2, 3, 4, 5, 6, 7, 8] rfl rfl
                        obtain ⟨hz1, hf⟩ := tc_ck hf
                        obtain rfl := Option.some.inj hf
                        exact tc_rz X hP hD hS rfl dX11_pour_77 hz1 rfl rfl
                    · have hf := tc_neg hc hf
                      exact tX11_pour_52 X z SC SY0 SY1 SY2 SY3 hf _ _ _ hP hD hS (lv_sub hl [2] rfl)
                · have hf := tc_neg hq106_1 hf
                  by_cases hq106_2 : a3 = (2 : Int32)
                  · have hf := tc_pos hq106_2 hf
                    refine tc_ald (b := qY2 0) X hP 1 4 rfl rfl 2 (by rw [hq106_2]; decide) (by rw [hq106_2]; exact inb_vp (by decide)) rfl dX11_pour_33 ?_
                    refine lv_astore (lv' := [(7, .ref (qY2 0)), (6, .ref (qY3 0)), (0, .ref (qC 0)), (1, .int (a1)), (2, .int (a2)), (3, .int (a3)), (4, .int (a4)), (5, .int (a5))]) hx hb dX11_pour_34 hl (by decide) rfl (fun ls hl => ?_)
                    refine lv_aload hx hb dX11_pour_36 (lv_at hl 1 rfl) ?_
                    obtain ⟨z123, hg, hf⟩ := tc_bi hf
                    refine tc_iV (As := []) (rest := []) (b := qY3 0) (wc := w9 ca qY3 SY3) (wr := w11 ca qC (.ref (qA 0)) (rC4) (rC6) (rC7) (rC10) (rC11) (rC12) (rC14) (rC15) (rC17) (rC18) (rC19) SC ++ wLT ca qA (rf4 (qY0 0) (qY1 0) (qY2 0) (qY3 0)) ++ w9 ca qY0 SY0 ++ w9 ca qY1 SY1 ++ w9 ca qY2 SY2) X hP hD hS (mX9_isMissing hg) okX9_isMissing wl_X11_129 wi_X9_isMissing ws_X9_X9_isMissing_X9_isMissing ⟨rfl, rfl, Nat.le_of_ble_eq_true rfl, Nat.le_of_ble_eq_true rfl⟩ 9 0 rfl rfl [8, 9] [0, 1, 2, 3, 4, 5, 6, 7] ⟨rfl, rfl, rfl, rfl, by decide⟩ rfl hl.1 (Nat.le_of_ble_eq_true rfl) dX11_pour_38 (fun H locs hP hD hS => ?_)
                    have hP := hP.sub (ws' := (w11 ca qC (.ref (qA 0)) (rC4) (rC6) (rC7) (rC10) (rC11) (rC12) (rC14) (rC15) (rC17) (rC18) (rC19) SC ++ wLT ca qA (rf4 (qY0 0) (qY1 0) (qY2 0) (qY3 0)) ++ w9 ca qY0 SY0 ++ w9 ca qY1 SY1 ++ w9 ca qY2 SY2 ++ w9 ca qY3 SY3)) [0, 1, 2, 3, 4, 5, 6, 7, 8, 9] rfl
                    have hD := hD.sub (ws' := (w11 ca qC (.ref (qA 0)) (rC4) (rC6) (rC7) (rC10) (rC11) (rC12) (rC14) (rC15) (rC17) (rC18) (rC19) SC ++ wLT ca qA (rf4 (qY0 0) (qY1 0) (qY2 0) (qY3 0)) ++ w9 ca qY0 SY0 ++ w9 ca qY1 SY1 ++ w9 ca qY2 SY2 ++ w9 ca qY3 SY3)) [0, 1, 2, 3, 4, 5, 6, 7, 8, 9] rfl rfl
                    refine lv_if_ne (tgt := 52) hx hb dX11_pour_41 (by decide) (fun hc => ?_) (fun hc => ?_)
                    · have hf := tc_neg hc hf
                      exact tX11_pour_52 X z SC SY0 SY1 SY2 SY3 hf _ _ _ hP hD hS (lv_sub hl [2] rfl)
                    · have hf := tc_pos hc hf
                      refine lv_aload hx hb dX11_pour_44 (lv_at hl 0 rfl) ?_
                      obtain ⟨z124, hg, hf⟩ := tc_bi hf
                      refine tc_iV (As := []) (rest := []) (b := qY2 0) (wc := w9 ca qY2 SY2) (wr := w11 ca qC (.ref (qA 0)) (rC4) (rC6) (rC7) (rC10) (rC11) (rC12) (rC14) (rC15) (rC17) (rC18) (rC19) SC ++ wLT ca qA (rf4 (qY0 0) (qY1 0) (qY2 0) (qY3 0)) ++ w9 ca qY0 SY0 ++ w9 ca qY1 SY1 ++ w9 ca qY3 SY3) X hP hD hS (mX9_isMissing hg) okX9_isMissing wl_X11_129 wi_X9_isMissing ws_X9_X9_isMissing_X9_isMissing ⟨rfl, rfl, Nat.le_of_ble_eq_true rfl, Nat.le_of_ble_eq_true rfl⟩ 9 0 rfl rfl [6, 7] [0, 1, 2, 3, 4, 5, 8, 9] ⟨rfl, rfl, rfl, rfl, by decide⟩ rfl hl.1 (Nat.le_of_ble_eq_true rfl) dX11_pour_46 (fun H locs hP hD hS => ?_)
                      have hP := hP.sub (ws' := (w11 ca qC (.ref (qA 0)) (rC4) (rC6) (rC7) (rC10) (rC11) (rC12) (rC14) (rC15) (rC17) (rC18) (rC19) SC ++ wLT ca qA (rf4 (qY0 0) (qY1 0) (qY2 0) (qY3 0)) ++ w9 ca qY0 SY0 ++ w9 ca qY1 SY1 ++ w9 ca qY2 SY2 ++ w9 ca qY3 SY3)) [0, 1, 2, 3, 4, 5, 8, 9, 6, 7] rfl
                      have hD := hD.sub (ws' := (w11 ca qC (.ref (qA 0)) (rC4) (rC6) (rC7) (rC10) (rC11) (rC12) (rC14) (rC15) (rC17) (rC18) (rC19) SC ++ wLT ca qA (rf4 (qY0 0) (qY1 0) (qY2 0) (qY3 0)) ++ w9 ca qY0 SY0 ++ w9 ca qY1 SY1 ++ w9 ca qY2 SY2 ++ w9 ca qY3 SY3)) [0, 1, 2, 3, 4, 5, 8, 9, 6, 7] rfl rfl
                      refine lv_if_eq (tgt := 58) hx hb dX11_pour_49 (by decide) (fun hc => ?_) (fun hc => ?_)
                      · have hf := tc_pos hc hf
                        refine lv_aload hx hb dX11_pour_58 (lv_at hl 1 rfl) ?_
                        refine va_get (D := (dC, dI)) (ci := 9) (v := .int (gi SY3 1)) (C := RX9) (T := TX9) (N := 3) hx hb hts i_X9 hown hK hP 8 rfl rfl 1 (by decide) (hts _ wf_X11_132) (fun _ h9 => h9) rfl dX11_pour_60 ?_
                        refine lv_aload hx hb dX11_pour_63 (lv_at hl 0 rfl) ?_
                        refine va_get (D := (dC, dI)) (ci := 9) (v := .int (gi SY2 1)) (C := RX9) (T := TX9) (N := 3) hx hb hts i_X9 hown hK hP 6 rfl rfl 1 (by decide) (hts _ wf_X11_132) (fun _ h9 => h9) rfl dX11_pour_65 ?_
                        refine lv_icmp_eq (tgt := 78) hx hb dX11_pour_68 (by decide) (fun hc => ?_) (fun hc => ?_)
                        · have hf := tc_pos hc hf
                          refine lv_iload hx hb dX11_pour_78 (lv_at hl 7 rfl) ?_
                          refine lv_if_ge (tgt := 90) hx hb dX11_pour_80 (by decide) (fun hc => ?_) (fun hc => ?_)
                          · have hf := tc_pos hc hf
                            refine lv_aload hx hb dX11_pour_90 (lv_at hl 1 rfl) ?_
                            refine lv_iload_n hx hb dX11_pour_92 rfl (lv_at hl 4 rfl) ?_
                            refine lv_iload hx hb dX11_pour_93 (lv_at hl 7 rfl) ?_
                            obtain ⟨z125, hg, hf⟩ := tc_bi hf
                            refine tc_iV (As := [.int (a2), .int (a5)]) (rest := []) (b := qY3 0) (wc := w9 ca qY3 SY3) (wr := w11 ca qC (.ref (qA 0)) (rC4) (rC6) (rC7) (rC10) (rC11) (rC12) (rC14) (rC15) (rC17) (rC18) (rC19) SC ++ wLT ca qA (rf4 (qY0 0) (qY1 0) (qY2 0) (qY3 0)) ++ w9 ca qY0 SY0 ++ w9 ca qY1 SY1 ++ w9 ca qY2 SY2) X hP hD hS (mX9_holds hg) okX9_holds wl_X11_135 wi_X9_holds ws_X9_X9_holds_X9_holds ⟨rfl, rfl, Nat.le_of_ble_eq_true rfl, Nat.le_of_ble_eq_true rfl⟩ 9 0 rfl rfl [8, 9] [0, 1, 2, 3, 4, 5, 6, 7] ⟨rfl, rfl, rfl, rfl, by decide⟩ rfl hl.1 (Nat.le_of_ble_eq_true rfl) dX11_pour_95 (fun H locs hP hD hS => ?_)
                            have hP := hP.sub (ws' := (w11 ca qC (.ref (qA 0)) (rC4) (rC6) (rC7) (rC10) (rC11) (rC12) (rC14) (rC15) (rC17) (rC18) (rC19) SC ++ wLT ca qA (rf4 (qY0 0) (qY1 0) (qY2 0) (qY3 0)) ++ w9 ca qY0 SY0 ++ w9 ca qY1 SY1 ++ w9 ca qY2 SY2 ++ w9 ca qY3 SY3)) [0, 1, 2, 3, 4, 5, 6, 7, 8, 9] rfl
                            have hD := hD.sub (ws' := (w11 ca qC (.ref (qA 0)) (rC4) (rC6) (rC7) (rC10) (rC11) (rC12) (rC14) (rC15) (rC17) (rC18) (rC19) SC ++ wLT ca qA (rf4 (qY0 0) (qY1 0) (qY2 0) (qY3 0)) ++ w9 ca qY0 SY0 ++ w9 ca qY1 SY1 ++ w9 ca qY2 SY2 ++ w9 ca qY3 SY3)) [0, 1, 2, 3, 4, 5, 6, 7, 8, 9] rfl rfl
                            refine lv_if_eq (tgt := 113) hx hb dX11_pour_98 (by decide) (fun hc => ?_) (fun hc => ?_)
                            · have hf := tc_pos hc hf
                              exact tX11_pour_113 X z SC SY0 SY1 SY2 SY3 hf _ _ _ hP hD hS (lv_sub hl [2] rfl)
                            · have hf := tc_neg hc hf
                              refine lv_aload hx hb dX11_pour_101 (lv_at hl 0 rfl) ?_
                              refine lv_iload hx hb dX11_pour_103 (lv_at hl 6 rfl) ?_
                              refine lv_iload hx hb dX11_pour_105 (lv_at hl 7 rfl) ?_
                              obtain ⟨z126, hg, hf⟩ := tc_bi hf
                              refine tc_iV (As := [.int (a4), .int (a5)]) (rest := []) (b := qY2 0) (wc := w9 ca qY2 SY2) (wr := w11 ca qC (.ref (qA 0)) (rC4) (rC6) (rC7) (rC10) (rC11) (rC12) (rC14) (rC15) (rC17) (rC18) (rC19) SC ++ wLT ca qA (rf4 (qY0 0) (qY1 0) (qY2 0) (qY3 0)) ++ w9 ca qY0 SY0 ++ w9 ca qY1 SY1 ++ w9 ca qY3 SY3) X hP hD hS (mX9_holds hg) okX9_holds wl_X11_135 wi_X9_holds ws_X9_X9_holds_X9_holds ⟨rfl, rfl, Nat.le_of_ble_eq_true rfl, Nat.le_of_ble_eq_true rfl⟩ 9 0 rfl rfl [6, 7] [0, 1, 2, 3, 4, 5, 8, 9] ⟨rfl, rfl, rfl, rfl, by decide⟩ rfl hl.1 (Nat.le_of_ble_eq_true rfl) dX11_pour_107 (fun H locs hP hD hS => ?_)
                              have hP := hP.sub (ws' := (w11 ca qC (.ref (qA 0)) (rC4) (rC6) (rC7) (rC10) (rC11) (rC12) (rC14) (rC15) (rC17) (rC18) (rC19) SC ++ wLT ca qA (rf4 (qY0 0) (qY1 0) (qY2 0) (qY3 0)) ++ w9 ca qY0 SY0 ++ w9 ca qY1 SY1 ++ w9 ca qY2 SY2 ++ w9 ca qY3 SY3)) [0, 1, 2, 3, 4, 5, 8, 9, 6, 7] rfl
                              have hD := hD.sub (ws' := (w11 ca qC (.ref (qA 0)) (rC4) (rC6) (rC7) (rC10) (rC11) (rC12) (rC14) (rC15) (rC17) (rC18) (rC19) SC ++ wLT ca qA (rf4 (qY0 0) (qY1 0) (qY2 0) (qY3 0)) ++ w9 ca qY0 SY0 ++ w9 ca qY1 SY1 ++ w9 ca qY2 SY2 ++ w9 ca qY3 SY3)) [0, 1, 2, 3, 4, 5, 8, 9, 6, 7] rfl rfl
                              refine lv_if_ne (tgt := 119) hx hb dX11_pour_110 (by decide) (fun hc => ?_) (fun hc => ?_)
                              · have hf := tc_neg hc hf
                                refine lv_aload hx hb dX11_pour_119 (lv_at hl 1 rfl) ?_
                                refine va_get (D := (dC, dI)) (ci := 9) (v := .ref (qY3 1)) (C := RX9) (T := TX9) (N := 3) hx hb hts i_X9 hown hK hP 8 rfl rfl 0 (by decide) (hts _ wf_X11_125) (fun _ h9 => h9) rfl dX11_pour_121 ?_
                                refine lv_iload_n hx hb dX11_pour_124 rfl (lv_at hl 4 rfl) ?_
                                refine lv_aload hx hb dX11_pour_125 (lv_at hl 0 rfl) ?_
                                refine va_get (D := (dC, dI)) (ci := 9) (v := .ref (qY2 1)) (C := RX9) (T := TX9) (N := 3) hx hb hts i_X9 hown hK hP 6 rfl rfl 0 (by decide) (hts _ wf_X11_125) (fun _ h9 => h9) rfl dX11_pour_127 ?_
                                refine lv_iload hx hb dX11_pour_130 (lv_at hl 6 rfl) ?_
                                refine lv_iload hx hb dX11_pour_132 (lv_at hl 7 rfl) ?_
                                obtain ⟨hc127, hf⟩ := tc_ck hf
                                refine tc_cpl (rest := []) X hl.1 wl_X11_139 hP hD hS 9 7 2 2 rfl rfl rfl rfl hc127 (Nat.le_of_ble_eq_true rfl) (Nat.le_of_ble_eq_true rfl) dX11_pour_134 (fun H locs hP hD hS => ?_)
                                have hP := tc_eP (cwm22_4_1 ca qC qA qY0 qY1 qY2 qY3 (rf4 (qY0 0) (qY1 0) (qY2 0) (qY3 0)) (.ref (qA 0)) (rC4) (rC6) (rC7) (rC10) (rC11) (rC12) (rC14) (rC15) (rC17) (rC18) (rC19) SC SY0 SY1 SY2 SY3 (cpl (rl SY3 1) (rl SY2 1) a2 a4 a5)) hP
                                have hD := tc_eD (cwm22_4_1 ca qC qA qY0 qY1 qY2 qY3 (rf4 (qY0 0) (qY1 0) (qY2 0) (qY3 0)) (.ref (qA 0)) (rC4) (rC6) (rC7) (rC10) (rC11) (rC12) (rC14) (rC15) (rC17) (rC18) (rC19) SC SY0 SY1 SY2 SY3 (cpl (rl SY3 1) (rl SY2 1) a2 a4 a5)) hD
                                refine lv_aload_n hx hb dX11_pour_137 rfl (lv_at hl 2 rfl) ?_
                                obtain ⟨z128, hg, hf⟩ := tc_bi hf
                                refine tc_iV (As := []) (rest := []) (b := qC 0) (wc := w11 ca qC (.ref (qA 0)) (rC4) (rC6) (rC7) (rC10) (rC11) (rC12) (rC14) (rC15) (rC17) (rC18) (rC19) SC) (wr := wLT ca qA (rf4 (qY0 0) (qY1 0) (qY2 0) (qY3 0)) ++ w9 ca qY0 SY0 ++ w9 ca qY1 SY1 ++ w9 ca qY2 (sR SY2 1 (cpl (rl SY3 1) (rl SY2 1) a2 a4 a5)) ++ w9 ca qY3 SY3) X hP hD hS (mX11_grant hg) okX11_grant wl_X11_109 wi_X11_grant ws_X11_X11_grant_X11_grant ⟨rfl, rfl, Nat.le_of_ble_eq_true rfl, Nat.le_of_ble_eq_true rfl⟩ 11 0 rfl rfl [0] [1, 2, 3, 4, 5, 6, 7, 8, 9] ⟨rfl, rfl, rfl, rfl, by decide⟩ rfl hl.1 (Nat.le_of_ble_eq_true rfl) dX11_pour_138 (fun H locs hP hD hS => ?_)
                                have hP := hP.sub (ws' := (w11 ca qC (.ref (qA 0)) (rC4) (rC6) (rC7) (rC10) (rC11) (rC12) (rC14) (rC15) (rC17) (rC18) (rC19) z128.2 ++ wLT ca qA (rf4 (qY0 0) (qY1 0) (qY2 0) (qY3 0)) ++ w9 ca qY0 SY0 ++ w9 ca qY1 SY1 ++ w9 ca qY2 (sR SY2 1 (cpl (rl SY3 1) (rl SY2 1) a2 a4 a5)) ++ w9 ca qY3 SY3)) [9, 0, 1, 2, 3, 4, 5, 6, 7, 8] rfl
                                have hD := hD.sub (ws' := (w11 ca qC (.ref (qA 0)) (rC4) (rC6) (rC7) (rC10) (rC11) (rC12) (rC14) (rC15) (rC17) (rC18) (rC19) z128.2 ++ wLT ca qA (rf4 (qY0 0) (qY1 0) (qY2 0) (qY3 0)) ++ w9 ca qY0 SY0 ++ w9 ca qY1 SY1 ++ w9 ca qY2 (sR SY2 1 (cpl (rl SY3 1) (rl SY2 1) a2 a4 a5)) ++ w9 ca qY3 SY3)) [9, 0, 1, 2, 3, 4, 5, 6, 7, 8] rfl rfl
                                obtain ⟨hz1, hf⟩ := tc_ck hf
                                obtain rfl := Option.some.inj hf
                                exact tc_rz X hP hD hS rfl dX11_pour_141 hz1 rfl rfl
                              · have hf := tc_pos hc hf
                                exact tX11_pour_113 X z SC SY0 SY1 SY2 SY3 hf _ _ _ hP hD hS (lv_sub hl [2] rfl)
                          · have hf := tc_neg hc hf
                            refine lv_aload_n hx hb dX11_pour_83 rfl (lv_at hl 2 rfl) ?_
                            refine lv_bipush (v := (6 : Int32)) hx hb dX11_pour_84 (by decide) ?_
                            obtain ⟨z129, hg, hf⟩ := tc_bi hf
                            refine tc_iV (As := [.int ((6 : Int32))]) (rest := []) (b := qC 0) (wc := w11 ca qC (.ref (qA 0)) (rC4) (rC6) (rC7) (rC10) (rC11) (rC12) (rC14) (rC15) (rC17) (rC18) (rC19) SC) (wr := wLT ca qA (rf4 (qY0 0) (qY1 0) (qY2 0) (qY3 0)) ++ w9 ca qY0 SY0 ++ w9 ca qY1 SY1 ++ w9 ca qY2 SY2 ++ w9 ca qY3 SY3) X hP hD hS (mX11_deny hg) okX11_deny wl_X11_102 wi_X11_deny ws_X11_X11_deny_X11_deny ⟨rfl, rfl, Nat.le_of_ble_eq_true rfl, Nat.le_of_ble_eq_true rfl⟩ 11 0 rfl rfl [0] [1, 2, 3, 4, 5, 6, 7, 8, 9] ⟨rfl, rfl, rfl, rfl, by decide⟩ rfl hl.1 (Nat.le_of_ble_eq_true rfl) dX11_pour_86 (fun H locs hP hD hS => ?_)
                            have hP := hP.sub (ws' := (w11 ca qC (.ref (qA 0)) (rC4) (rC6) (rC7) (rC10) (rC11) (rC12) (rC14) (rC15) (rC17) (rC18) (rC19) z129.2 ++ wLT ca qA (rf4 (qY0 0) (qY1 0) (qY2 0) (qY3 0)) ++ w9 ca qY0 SY0 ++ w9 ca qY1 SY1 ++ w9 ca qY2 SY2 ++ w9 ca qY3 SY3)) [9, 0, 1, 2, 3, 4, 5, 6, 7, 8] rfl
                            have hD := hD.sub (ws' := (w11 ca qC (.ref (qA 0)) (rC4) (rC6) (rC7) (rC10) (rC11) (rC12) (rC14) (rC15) (rC17) (rC18) (rC19) z129.2 ++ wLT ca qA (rf4 (qY0 0) (qY1 0) (qY2 0) (qY3 0)) ++ w9 ca qY0 SY0 ++ w9 ca qY1 SY1 ++ w9 ca qY2 SY2 ++ w9 ca qY3 SY3)) [9, 0, 1, 2, 3, 4, 5, 6, 7, 8] rfl rfl
                            obtain ⟨hz1, hf⟩ := tc_ck hf
                            obtain rfl := Option.some.inj hf
                            exact tc_rz X hP hD hS rfl dX11_pour_89 hz1 rfl rfl
                        · have hf := tc_neg hc hf
                          refine lv_aload_n hx hb dX11_pour_71 rfl (lv_at hl 2 rfl) ?_
                          refine lv_bipush (v := (11 : Int32)) hx hb dX11_pour_72 (by decide) ?_
                          obtain ⟨z130, hg, hf⟩ := tc_bi hf
                          refine tc_iV (As := [.int ((11 : Int32))]) (rest := []) (b := qC 0) (wc := w11 ca qC (.ref (qA 0)) (rC4) (rC6) (rC7) (rC10) (rC11) (rC12) (rC14) (rC15) (rC17) (rC18) (rC19) SC) (wr := wLT ca qA (rf4 (qY0 0) (qY1 0) (qY2 0) (qY3 0)) ++ w9 ca qY0 SY0 ++ w9 ca qY1 SY1 ++ w9 ca qY2 SY2 ++ w9 ca qY3 SY3) X hP hD hS (mX11_deny hg) okX11_deny wl_X11_102 wi_X11_deny ws_X11_X11_deny_X11_deny ⟨rfl, rfl, Nat.le_of_ble_eq_true rfl, Nat.le_of_ble_eq_true rfl⟩ 11 0 rfl rfl [0] [1, 2, 3, 4, 5, 6, 7, 8, 9] ⟨rfl, rfl, rfl, rfl, by decide⟩ rfl hl.1 (Nat.le_of_ble_eq_true rfl) dX11_pour_74 (fun H locs hP hD hS => ?_)
                          have hP := hP.sub (ws' := (w11 ca qC (.ref (qA 0)) (rC4) (rC6) (rC7) (rC10) (rC11) (rC12) (rC14) (rC15) (rC17) (rC18) (rC19) z130.2 ++ wLT ca qA (rf4 (qY0 0) (qY1 0) (qY2 0) (qY3 0)) ++ w9 ca qY0 SY0 ++ w9 ca qY1 SY1 ++ w9 ca qY2 SY2 ++ w9 ca qY3 SY3)) [9, 0, 1, 2, 3, 4, 5, 6, 7, 8] rfl
                          have hD := hD.sub (ws' := (w11 ca qC (.ref (qA 0)) (rC4) (rC6) (rC7) (rC10) (rC11) (rC12) (rC14) (rC15) (rC17) (rC18) (rC19) z130.2 ++ wLT ca qA (rf4 (qY0 0) (qY1 0) (qY2 0) (qY3 0)) ++ w9 ca qY0 SY0 ++ w9 ca qY1 SY1 ++ w9 ca qY2 SY2 ++ w9 ca qY3 SY3)) [9, 0, 1, 2, 3, 4, 5, 6, 7, 8] rfl rfl
                          obtain ⟨hz1, hf⟩ := tc_ck hf
                          obtain rfl := Option.some.inj hf
                          exact tc_rz X hP hD hS rfl dX11_pour_77 hz1 rfl rfl
                      · have hf := tc_neg hc hf
                        exact tX11_pour_52 X z SC SY0 SY1 SY2 SY3 hf _ _ _ hP hD hS (lv_sub hl [2] rfl)
                  · have hf := tc_neg hq106_2 hf
                    by_cases hq106_3 : a3 = (3 : Int32)
                    · have hf := tc_pos hq106_3 hf
                      refine tc_ald (b := qY3 0) X hP 1 4 rfl rfl 3 (by rw [hq106_3]; decide) (by rw [hq106_3]; exact inb_vp (by decide)) rfl dX11_pour_33 ?_
                      refine lv_astore (lv' := [(7, .ref (qY3 0)), (6, .ref (qY3 0)), (0, .ref (qC 0)), (1, .int (a1)), (2, .int (a2)), (3, .int (a3)), (4, .int (a4)), (5, .int (a5))]) hx hb dX11_pour_34 hl (by decide) rfl (fun ls hl => ?_)
                      refine lv_aload hx hb dX11_pour_36 (lv_at hl 1 rfl) ?_
                      obtain ⟨z131, hg, hf⟩ := tc_bi hf
                      refine tc_iV (As := []) (rest := []) (b := qY3 0) (wc := w9 ca qY3 SY3) (wr := w11 ca qC (.ref (qA 0)) (rC4) (rC6) (rC7) (rC10) (rC11) (rC12) (rC14) (rC15) (rC17) (rC18) (rC19) SC ++ wLT ca qA (rf4 (qY0 0) (qY1 0) (qY2 0) (qY3 0)) ++ w9 ca qY0 SY0 ++ w9 ca qY1 SY1 ++ w9 ca qY2 SY2) X hP hD hS (mX9_isMissing hg) okX9_isMissing wl_X11_129 wi_X9_isMissing ws_X9_X9_isMissing_X9_isMissing ⟨rfl, rfl, Nat.le_of_ble_eq_true rfl, Nat.le_of_ble_eq_true rfl⟩ 9 0 rfl rfl [8, 9] [0, 1, 2, 3, 4, 5, 6, 7] ⟨rfl, rfl, rfl, rfl, by decide⟩ rfl hl.1 (Nat.le_of_ble_eq_true rfl) dX11_pour_38 (fun H locs hP hD hS => ?_)
                      have hP := hP.sub (ws' := (w11 ca qC (.ref (qA 0)) (rC4) (rC6) (rC7) (rC10) (rC11) (rC12) (rC14) (rC15) (rC17) (rC18) (rC19) SC ++ wLT ca qA (rf4 (qY0 0) (qY1 0) (qY2 0) (qY3 0)) ++ w9 ca qY0 SY0 ++ w9 ca qY1 SY1 ++ w9 ca qY2 SY2 ++ w9 ca qY3 SY3)) [0, 1, 2, 3, 4, 5, 6, 7, 8, 9] rfl
                      have hD := hD.sub (ws' := (w11 ca qC (.ref (qA 0)) (rC4) (rC6) (rC7) (rC10) (rC11) (rC12) (rC14) (rC15) (rC17) (rC18) (rC19) SC ++ wLT ca qA (rf4 (qY0 0) (qY1 0) (qY2 0) (qY3 0)) ++ w9 ca qY0 SY0 ++ w9 ca qY1 SY1 ++ w9 ca qY2 SY2 ++ w9 ca qY3 SY3)) [0, 1, 2, 3, 4, 5, 6, 7, 8, 9] rfl rfl
                      refine lv_if_ne (tgt := 52) hx hb dX11_pour_41 (by decide) (fun hc => ?_) (fun hc => ?_)
                      · have hf := tc_neg hc hf
                        exact tX11_pour_52 X z SC SY0 SY1 SY2 SY3 hf _ _ _ hP hD hS (lv_sub hl [2] rfl)
                      · have hf := tc_pos hc hf
                        refine lv_aload hx hb dX11_pour_44 (lv_at hl 0 rfl) ?_
                        obtain ⟨z132, hg, hf⟩ := tc_bi hf
                        refine tc_iV (As := []) (rest := []) (b := qY3 0) (wc := w9 ca qY3 SY3) (wr := w11 ca qC (.ref (qA 0)) (rC4) (rC6) (rC7) (rC10) (rC11) (rC12) (rC14) (rC15) (rC17) (rC18) (rC19) SC ++ wLT ca qA (rf4 (qY0 0) (qY1 0) (qY2 0) (qY3 0)) ++ w9 ca qY0 SY0 ++ w9 ca qY1 SY1 ++ w9 ca qY2 SY2) X hP hD hS (mX9_isMissing hg) okX9_isMissing wl_X11_129 wi_X9_isMissing ws_X9_X9_isMissing_X9_isMissing ⟨rfl, rfl, Nat.le_of_ble_eq_true rfl, Nat.le_of_ble_eq_true rfl⟩ 9 0 rfl rfl [8, 9] [0, 1, 2, 3, 4, 5, 6, 7] ⟨rfl, rfl, rfl, rfl, by decide⟩ rfl hl.1 (Nat.le_of_ble_eq_true rfl) dX11_pour_46 (fun H locs hP hD hS => ?_)
                        have hP := hP.sub (ws' := (w11 ca qC (.ref (qA 0)) (rC4) (rC6) (rC7) (rC10) (rC11) (rC12) (rC14) (rC15) (rC17) (rC18) (rC19) SC ++ wLT ca qA (rf4 (qY0 0) (qY1 0) (qY2 0) (qY3 0)) ++ w9 ca qY0 SY0 ++ w9 ca qY1 SY1 ++ w9 ca qY2 SY2 ++ w9 ca qY3 SY3)) [0, 1, 2, 3, 4, 5, 6, 7, 8, 9] rfl
                        have hD := hD.sub (ws' := (w11 ca qC (.ref (qA 0)) (rC4) (rC6) (rC7) (rC10) (rC11) (rC12) (rC14) (rC15) (rC17) (rC18) (rC19) SC ++ wLT ca qA (rf4 (qY0 0) (qY1 0) (qY2 0) (qY3 0)) ++ w9 ca qY0 SY0 ++ w9 ca qY1 SY1 ++ w9 ca qY2 SY2 ++ w9 ca qY3 SY3)) [0, 1, 2, 3, 4, 5, 6, 7, 8, 9] rfl rfl
                        refine lv_if_eq (tgt := 58) hx hb dX11_pour_49 (by decide) (fun hc => ?_) (fun hc => ?_)
                        · have hf := tc_pos hc hf
                          refine lv_aload hx hb dX11_pour_58 (lv_at hl 1 rfl) ?_
                          refine va_get (D := (dC, dI)) (ci := 9) (v := .int (gi SY3 1)) (C := RX9) (T := TX9) (N := 3) hx hb hts i_X9 hown hK hP 8 rfl rfl 1 (by decide) (hts _ wf_X11_132) (fun _ h9 => h9) rfl dX11_pour_60 ?_
                          refine lv_aload hx hb dX11_pour_63 (lv_at hl 0 rfl) ?_
                          refine va_get (D := (dC, dI)) (ci := 9) (v := .int (gi SY3 1)) (C := RX9) (T := TX9) (N := 3) hx hb hts i_X9 hown hK hP 8 rfl rfl 1 (by decide) (hts _ wf_X11_132) (fun _ h9 => h9) rfl dX11_pour_65 ?_
                          refine lv_icmp_eq (tgt := 78) hx hb dX11_pour_68 (by decide) (fun hc => ?_) (fun hc => ?_)
                          · have hf := tc_pos hc hf
                            refine lv_iload hx hb dX11_pour_78 (lv_at hl 7 rfl) ?_
                            refine lv_if_ge (tgt := 90) hx hb dX11_pour_80 (by decide) (fun hc => ?_) (fun hc => ?_)
                            · have hf := tc_pos hc hf
                              refine lv_aload hx hb dX11_pour_90 (lv_at hl 1 rfl) ?_
                              refine lv_iload_n hx hb dX11_pour_92 rfl (lv_at hl 4 rfl) ?_
                              refine lv_iload hx hb dX11_pour_93 (lv_at hl 7 rfl) ?_
                              obtain ⟨z133, hg, hf⟩ := tc_bi hf
                              refine tc_iV (As := [.int (a2), .int (a5)]) (rest := []) (b := qY3 0) (wc := w9 ca qY3 SY3) (wr := w11 ca qC (.ref (qA 0)) (rC4) (rC6) (rC7) (rC10) (rC11) (rC12) (rC14) (rC15) (rC17) (rC18) (rC19) SC ++ wLT ca qA (rf4 (qY0 0) (qY1 0) (qY2 0) (qY3 0)) ++ w9 ca qY0 SY0 ++ w9 ca qY1 SY1 ++ w9 ca qY2 SY2) X hP hD hS (mX9_holds hg) okX9_holds wl_X11_135 wi_X9_holds ws_X9_X9_holds_X9_holds ⟨rfl, rfl, Nat.le_of_ble_eq_true rfl, Nat.le_of_ble_eq_true rfl⟩ 9 0 rfl rfl [8, 9] [0, 1, 2, 3, 4, 5, 6, 7] ⟨rfl, rfl, rfl, rfl, by decide⟩ rfl hl.1 (Nat.le_of_ble_eq_true rfl) dX11_pour_95 (fun H locs hP hD hS => ?_)
                              have hP := hP.sub (ws' := (w11 ca qC (.ref (qA 0)) (rC4) (rC6) (rC7) (rC10) (rC11) (rC12) (rC14) (rC15) (rC17) (rC18) (rC19) SC ++ wLT ca qA (rf4 (qY0 0) (qY1 0) (qY2 0) (qY3 0)) ++ w9 ca qY0 SY0 ++ w9 ca qY1 SY1 ++ w9 ca qY2 SY2 ++ w9 ca qY3 SY3)) [0, 1, 2, 3, 4, 5, 6, 7, 8, 9] rfl
                              have hD := hD.sub (ws' := (w11 ca qC (.ref (qA 0)) (rC4) (rC6) (rC7) (rC10) (rC11) (rC12) (rC14) (rC15) (rC17) (rC18) (rC19) SC ++ wLT ca qA (rf4 (qY0 0) (qY1 0) (qY2 0) (qY3 0)) ++ w9 ca qY0 SY0 ++ w9 ca qY1 SY1 ++ w9 ca qY2 SY2 ++ w9 ca qY3 SY3)) [0, 1, 2, 3, 4, 5, 6, 7, 8, 9] rfl rfl
                              refine lv_if_eq (tgt := 113) hx hb dX11_pour_98 (by decide) (fun hc => ?_) (fun hc => ?_)
                              · have hf := tc_pos hc hf
                                exact tX11_pour_113 X z SC SY0 SY1 SY2 SY3 hf _ _ _ hP hD hS (lv_sub hl [2] rfl)
                              · have hf := tc_neg hc hf
                                refine lv_aload hx hb dX11_pour_101 (lv_at hl 0 rfl) ?_
                                refine lv_iload hx hb dX11_pour_103 (lv_at hl 6 rfl) ?_
                                refine lv_iload hx hb dX11_pour_105 (lv_at hl 7 rfl) ?_
                                obtain ⟨z134, hg, hf⟩ := tc_bi hf
                                refine tc_iV (As := [.int (a4), .int (a5)]) (rest := []) (b := qY3 0) (wc := w9 ca qY3 SY3) (wr := w11 ca qC (.ref (qA 0)) (rC4) (rC6) (rC7) (rC10) (rC11) (rC12) (rC14) (rC15) (rC17) (rC18) (rC19) SC ++ wLT ca qA (rf4 (qY0 0) (qY1 0) (qY2 0) (qY3 0)) ++ w9 ca qY0 SY0 ++ w9 ca qY1 SY1 ++ w9 ca qY2 SY2) X hP hD hS (mX9_holds hg) okX9_holds wl_X11_135 wi_X9_holds ws_X9_X9_holds_X9_holds ⟨rfl, rfl, Nat.le_of_ble_eq_true rfl, Nat.le_of_ble_eq_true rfl⟩ 9 0 rfl rfl [8, 9] [0, 1, 2, 3, 4, 5, 6, 7] ⟨rfl, rfl, rfl, rfl, by decide⟩ rfl hl.1 (Nat.le_of_ble_eq_true rfl) dX11_pour_107 (fun H locs hP hD hS => ?_)
                                have hP := hP.sub (ws' := (w11 ca qC (.ref (qA 0)) (rC4) (rC6) (rC7) (rC10) (rC11) (rC12) (rC14) (rC15) (rC17) (rC18) (rC19) SC ++ wLT ca qA (rf4 (qY0 0) (qY1 0) (qY2 0) (qY3 0)) ++ w9 ca qY0 SY0 ++ w9 ca qY1 SY1 ++ w9 ca qY2 SY2 ++ w9 ca qY3 SY3)) [0, 1, 2, 3, 4, 5, 6, 7, 8, 9] rfl
                                have hD := hD.sub (ws' := (w11 ca qC (.ref (qA 0)) (rC4) (rC6) (rC7) (rC10) (rC11) (rC12) (rC14) (rC15) (rC17) (rC18) (rC19) SC ++ wLT ca qA (rf4 (qY0 0) (qY1 0) (qY2 0) (qY3 0)) ++ w9 ca qY0 SY0 ++ w9 ca qY1 SY1 ++ w9 ca qY2 SY2 ++ w9 ca qY3 SY3)) [0, 1, 2, 3, 4, 5, 6, 7, 8, 9] rfl rfl
                                refine lv_if_ne (tgt := 119) hx hb dX11_pour_110 (by decide) (fun hc => ?_) (fun hc => ?_)
                                · have hf := tc_neg hc hf
                                  refine lv_aload hx hb dX11_pour_119 (lv_at hl 1 rfl) ?_
                                  refine va_get (D := (dC, dI)) (ci := 9) (v := .ref (qY3 1)) (C := RX9) (T := TX9) (N := 3) hx hb hts i_X9 hown hK hP 8 rfl rfl 0 (by decide) (hts _ wf_X11_125) (fun _ h9 => h9) rfl dX11_pour_121 ?_
                                  refine lv_iload_n hx hb dX11_pour_124 rfl (lv_at hl 4 rfl) ?_
                                  refine lv_aload hx hb dX11_pour_125 (lv_at hl 0 rfl) ?_
                                  refine va_get (D := (dC, dI)) (ci := 9) (v := .ref (qY3 1)) (C := RX9) (T := TX9) (N := 3) hx hb hts i_X9 hown hK hP 8 rfl rfl 0 (by decide) (hts _ wf_X11_125) (fun _ h9 => h9) rfl dX11_pour_127 ?_
                                  refine lv_iload hx hb dX11_pour_130 (lv_at hl 6 rfl) ?_
                                  refine lv_iload hx hb dX11_pour_132 (lv_at hl 7 rfl) ?_
                                  obtain ⟨hc135, hf⟩ := tc_ck hf
                                  refine tc_cpl (rest := []) X hl.1 wl_X11_139 hP hD hS 9 9 2 2 rfl rfl rfl rfl hc135 (Nat.le_of_ble_eq_true rfl) (Nat.le_of_ble_eq_true rfl) dX11_pour_134 (fun H locs hP hD hS => ?_)
                                  have hP := tc_eP (cwm22_5_1 ca qC qA qY0 qY1 qY2 qY3 (rf4 (qY0 0) (qY1 0) (qY2 0) (qY3 0)) (.ref (qA 0)) (rC4) (rC6) (rC7) (rC10) (rC11) (rC12) (rC14) (rC15) (rC17) (rC18) (rC19) SC SY0 SY1 SY2 SY3 (cpl (rl SY3 1) (rl SY3 1) a2 a4 a5)) hP
                                  have hD := tc_eD (cwm22_5_1 ca qC qA qY0 qY1 qY2 qY3 (rf4 (qY0 0) (qY1 0) (qY2 0) (qY3 0)) (.ref (qA 0)) (rC4) (rC6) (rC7) (rC10) (rC11) (rC12) (rC14) (rC15) (rC17) (rC18) (rC19) SC SY0 SY1 SY2 SY3 (cpl (rl SY3 1) (rl SY3 1) a2 a4 a5)) hD
                                  refine lv_aload_n hx hb dX11_pour_137 rfl (lv_at hl 2 rfl) ?_
                                  obtain ⟨z136, hg, hf⟩ := tc_bi hf
                                  refine tc_iV (As := []) (rest := []) (b := qC 0) (wc := w11 ca qC (.ref (qA 0)) (rC4) (rC6) (rC7) (rC10) (rC11) (rC12) (rC14) (rC15) (rC17) (rC18) (rC19) SC) (wr := wLT ca qA (rf4 (qY0 0) (qY1 0) (qY2 0) (qY3 0)) ++ w9 ca qY0 SY0 ++ w9 ca qY1 SY1 ++ w9 ca qY2 SY2 ++ w9 ca qY3 (sR SY3 1 (cpl (rl SY3 1) (rl SY3 1) a2 a4 a5))) X hP hD hS (mX11_grant hg) okX11_grant wl_X11_109 wi_X11_grant ws_X11_X11_grant_X11_grant ⟨rfl, rfl, Nat.le_of_ble_eq_true rfl, Nat.le_of_ble_eq_true rfl⟩ 11 0 rfl rfl [0] [1, 2, 3, 4, 5, 6, 7, 8, 9] ⟨rfl, rfl, rfl, rfl, by decide⟩ rfl hl.1 (Nat.le_of_ble_eq_true rfl) dX11_pour_138 (fun H locs hP hD hS => ?_)
                                  have hP := hP.sub (ws' := (w11 ca qC (.ref (qA 0)) (rC4) (rC6) (rC7) (rC10) (rC11) (rC12) (rC14) (rC15) (rC17) (rC18) (rC19) z136.2 ++ wLT ca qA (rf4 (qY0 0) (qY1 0) (qY2 0) (qY3 0)) ++ w9 ca qY0 SY0 ++ w9 ca qY1 SY1 ++ w9 ca qY2 SY2 ++ w9 ca qY3 (sR SY3 1 (cpl (rl SY3 1) (rl SY3 1) a2 a4 a5)))) [9, 0, 1, 2, 3, 4, 5, 6, 7, 8] rfl
                                  have hD := hD.sub (ws' := (w11 ca qC (.ref (qA 0)) (rC4) (rC6) (rC7) (rC10) (rC11) (rC12) (rC14) (rC15) (rC17) (rC18) (rC19) z136.2 ++ wLT ca qA (rf4 (qY0 0) (qY1 0) (qY2 0) (qY3 0)) ++ w9 ca qY0 SY0 ++ w9 ca qY1 SY1 ++ w9 ca qY2 SY2 ++ w9 ca qY3 (sR SY3 1 (cpl (rl SY3 1) (rl SY3 1) a2 a4 a5)))) [9, 0, 1, 2, 3, 4, 5, 6, 7, 8] rfl rfl
                                  obtain ⟨hz1, hf⟩ := tc_ck hf
                                  obtain rfl := Option.some.inj hf
                                  exact tc_rz X hP hD hS rfl dX11_pour_141 hz1 rfl rfl
                                · have hf := tc_pos hc hf
                                  exact tX11_pour_113 X z SC SY0 SY1 SY2 SY3 hf _ _ _ hP hD hS (lv_sub hl [2] rfl)
                            · have hf := tc_neg hc hf
                              refine lv_aload_n hx hb dX11_pour_83 rfl (lv_at hl 2 rfl) ?_
                              refine lv_bipush (v := (6 : Int32)) hx hb dX11_pour_84 (by decide) ?_
                              obtain ⟨z137, hg, hf⟩ := tc_bi hf
                              refine tc_iV (As := [.int ((6 : Int32))]) (rest := []) (b := qC 0) (wc := w11 ca qC (.ref (qA 0)) (rC4) (rC6) (rC7) (rC10) (rC11) (rC12) (rC14) (rC15) (rC17) (rC18) (rC19) SC) (wr := wLT ca qA (rf4 (qY0 0) (qY1 0) (qY2 0) (qY3 0)) ++ w9 ca qY0 SY0 ++ w9 ca qY1 SY1 ++ w9 ca qY2 SY2 ++ w9 ca qY3 SY3) X hP hD hS (mX11_deny hg) okX11_deny wl_X11_102 wi_X11_deny ws_X11_X11_deny_X11_deny ⟨rfl, rfl, Nat.le_of_ble_eq_true rfl, Nat.le_of_ble_eq_true rfl⟩ 11 0 rfl rfl [0] [1, 2, 3, 4, 5, 6, 7, 8, 9] ⟨rfl, rfl, rfl, rfl, by decide⟩ rfl hl.1 (Nat.le_of_ble_eq_true rfl) dX11_pour_86 (fun H locs hP hD hS => ?_)
                              have hP := hP.sub (ws' := (w11 ca qC (.ref (qA 0)) (rC4) (rC6) (rC7) (rC10) (rC11) (rC12) (rC14) (rC15) (rC17) (rC18) (rC19) z137.2 ++ wLT ca qA (rf4 (qY0 0) (qY1 0) (qY2 0) (qY3 0)) ++ w9 ca qY0 SY0 ++ w9 ca qY1 SY1 ++ w9 ca qY2 SY2 ++ w9 ca qY3 SY3)) [9, 0, 1, 2, 3, 4, 5, 6, 7, 8] rfl
                              have hD := hD.sub (ws' := (w11 ca qC (.ref (qA 0)) (rC4) (rC6) (rC7) (rC10) (rC11) (rC12) (rC14) (rC15) (rC17) (rC18) (rC19) z137.2 ++ wLT ca qA (rf4 (qY0 0) (qY1 0) (qY2 0) (qY3 0)) ++ w9 ca qY0 SY0 ++ w9 ca qY1 SY1 ++ w9 ca qY2 SY2 ++ w9 ca qY3 SY3)) [9, 0, 1, 2, 3, 4, 5, 6, 7, 8] rfl rfl
                              obtain ⟨hz1, hf⟩ := tc_ck hf
                              obtain rfl := Option.some.inj hf
                              exact tc_rz X hP hD hS rfl dX11_pour_89 hz1 rfl rfl
                          · have hf := tc_neg hc hf
                            refine lv_aload_n hx hb dX11_pour_71 rfl (lv_at hl 2 rfl) ?_
                            refine lv_bipush (v := (11 : Int32)) hx hb dX11_pour_72 (by decide) ?_
                            obtain ⟨z138, hg, hf⟩ := tc_bi hf
                            refine tc_iV (As := [.int ((11 : Int32))]) (rest := []) (b := qC 0) (wc := w11 ca qC (.ref (qA 0)) (rC4) (rC6) (rC7) (rC10) (rC11) (rC12) (rC14) (rC15) (rC17) (rC18) (rC19) SC) (wr := wLT ca qA (rf4 (qY0 0) (qY1 0) (qY2 0) (qY3 0)) ++ w9 ca qY0 SY0 ++ w9 ca qY1 SY1 ++ w9 ca qY2 SY2 ++ w9 ca qY3 SY3) X hP hD hS (mX11_deny hg) okX11_deny wl_X11_102 wi_X11_deny ws_X11_X11_deny_X11_deny ⟨rfl, rfl, Nat.le_of_ble_eq_true rfl, Nat.le_of_ble_eq_true rfl⟩ 11 0 rfl rfl [0] [1, 2, 3, 4, 5, 6, 7, 8, 9] ⟨rfl, rfl, rfl, rfl, by decide⟩ rfl hl.1 (Nat.le_of_ble_eq_true rfl) dX11_pour_74 (fun H locs hP hD hS => ?_)
                            have hP := hP.sub (ws' := (w11 ca qC (.ref (qA 0)) (rC4) (rC6) (rC7) (rC10) (rC11) (rC12) (rC14) (rC15) (rC17) (rC18) (rC19) z138.2 ++ wLT ca qA (rf4 (qY0 0) (qY1 0) (qY2 0) (qY3 0)) ++ w9 ca qY0 SY0 ++ w9 ca qY1 SY1 ++ w9 ca qY2 SY2 ++ w9 ca qY3 SY3)) [9, 0, 1, 2, 3, 4, 5, 6, 7, 8] rfl
                            have hD := hD.sub (ws' := (w11 ca qC (.ref (qA 0)) (rC4) (rC6) (rC7) (rC10) (rC11) (rC12) (rC14) (rC15) (rC17) (rC18) (rC19) z138.2 ++ wLT ca qA (rf4 (qY0 0) (qY1 0) (qY2 0) (qY3 0)) ++ w9 ca qY0 SY0 ++ w9 ca qY1 SY1 ++ w9 ca qY2 SY2 ++ w9 ca qY3 SY3)) [9, 0, 1, 2, 3, 4, 5, 6, 7, 8] rfl rfl
                            obtain ⟨hz1, hf⟩ := tc_ck hf
                            obtain rfl := Option.some.inj hf
                            exact tc_rz X hP hD hS rfl dX11_pour_77 hz1 rfl rfl
                        · have hf := tc_neg hc hf
                          exact tX11_pour_52 X z SC SY0 SY1 SY2 SY3 hf _ _ _ hP hD hS (lv_sub hl [2] rfl)
                    · have hf := tc_neg hq106_3 hf
                      cases hf
            · have hf := tc_neg hq4_3 hf
              cases hf
    · have hf := tc_pos hc hf
      exact tX11_pour_14 X z SC SY0 SY1 SY2 SY3 hf _ _ _ hP hD hS (lv_sub hl [0] rfl)
theorem aw11_B_1_0 (ca : Nat → ClassId) (q0 q1 : Nat → Nat) (r0_3 r0_4 r0_6 r0_7 r0_10 r0_11 r0_12 r0_14 r0_15 r0_17 r0_18 r0_19 : Value) (S0 S1 : ms_T) (i v : Int32) : (w11 ca q0 r0_3 r0_4 r0_6 r0_7 r0_10 r0_11 r0_12 r0_14 r0_15 r0_17 r0_18 r0_19 S0 ++ wLB ca q1 S1 : va_W).set 1 (q1 0, .inl (ca 0, 900, .inl (upd (ra S1 0) i.toNatClampNeg v))) = w11 ca q0 r0_3 r0_4 r0_6 r0_7 r0_10 r0_11 r0_12 r0_14 r0_15 r0_17 r0_18 r0_19 S0 ++ wLB ca q1 (sa S1 0 i v) := rfl
theorem pw11_B_0_5 (ca : Nat → ClassId) (q0 q1 : Nat → Nat) (r0_3 r0_4 r0_6 r0_7 r0_10 r0_11 r0_12 r0_14 r0_15 r0_17 r0_18 r0_19 : Value) (S0 S1 : ms_T) (v : Int32) : (w11 ca q0 r0_3 r0_4 r0_6 r0_7 r0_10 r0_11 r0_12 r0_14 r0_15 r0_17 r0_18 r0_19 S0 ++ wLB ca q1 S1 : va_W).set 0 (q0 0, .inr (11, List.set (.int (gi S0 0) :: .long (gl S0 1) :: .long (gl S0 2) :: r0_3 :: r0_4 :: .int (gi S0 5) :: r0_6 :: r0_7 :: .int (gi S0 8) :: .int (gi S0 9) :: r0_10 :: r0_11 :: r0_12 :: .int (gi S0 13) :: r0_14 :: r0_15 :: .int (gi S0 16) :: r0_17 :: r0_18 :: r0_19 :: []) 5 (.int v))) = w11 ca q0 r0_3 r0_4 r0_6 r0_7 r0_10 r0_11 r0_12 r0_14 r0_15 r0_17 r0_18 r0_19 (si S0 5 v) ++ wLB ca q1 S1 := rfl
def fX11_putOnTape_3    : Nat → ms_T → ms_T → Int32 → Int32 → Option (ms_T × ms_T)
  | 0, _, _, _, _ => none
  | n + 1, SC, SB, v1, v2 =>
    if v2 < 0 then
      some (SC, SB)
    else
      if inb (gi SC 5) 900 = true then
        fX11_putOnTape_3 n (si SC 5 ((gi SC 5) + (1 : Int32))) (sa SB 0 (gi SC 5) (vp_nar .byte ((v1 >>> (v2 &&& 31)).toInt8.toInt32))) v1 (v2 + (-8 : Int32))
      else none
def fX11_putOnTape  (SC : ms_T) (SB : ms_T) (a1 : Int32) : Option (ms_T × ms_T) :=
  fX11_putOnTape_3 FU SC SB a1 (24 : Int32)
abbrev rmX11_putOnTape : Room := { frames := 0, cells := 0, slots := 0, locals := 0 }
theorem okX11_putOnTape : tc_ok yX11_putOnTape cX11_putOnTape 3 none 1 := ⟨wc_X11_putOnTape, wn_X11, by decide, by decide, by decide +kernel⟩
set_option maxRecDepth 20000 in
theorem tX11_putOnTape_3 {qC : Nat → Nat} {qB : Nat → Nat} {rC3 : Value} {rC6 : Value} {rC7 : Value} {rC10 : Value} {rC11 : Value} {rC12 : Value} {rC14 : Value} {rC15 : Value} {rC17 : Value} {rC18 : Value} {rC19 : Value} (X : tc_X dC dI ca A RX11 cX11_putOnTape 3 none p s m args meth c) (z : ms_T × ms_T)     : ∀ n : Nat, ∀ (SC : ms_T) (SB : ms_T) (v1 : Int32) (v2 : Int32), fX11_putOnTape_3 n SC SB v1 v2 = some z → ∀ (H : Heap) (locs : List Loc) (ls : Array Slot), va_P (dC, dI) classes (w11 ca qC (rC3) (.ref (qB 0)) (rC6) (rC7) (rC10) (rC11) (rC12) (rC14) (rC15) (rC17) (rC18) (rC19) SC ++ wLB ca qB SB) H → va_D A (w11 ca qC (rC3) (.ref (qB 0)) (rC6) (rC7) (rC10) (rC11) (rC12) (rC14) (rC15) (rC17) (rC18) (rC19) SC ++ wLB ca qB SB) → va_S A s.heap H locs → lv_has ls 3 [(0, .ref (qC 0)), (1, .int (v1)), (2, .int (v2))] → W p l e rmX11_putOnTape s m args below meth c H locs 0 0 (MQ below (tc_QV dC dI ca A (w11 ca qC (rC3) (.ref (qB 0)) (rC6) (rC7) (rC10) (rC11) (rC12) (rC14) (rC15) (rC17) (rC18) (rC19) z.1 ++ wLB ca qB z.2)) args s 0 0 A) (F0 m 3 ls []) := by
  obtain ⟨hx, hb, hr, hml, hown, hts, hlk, hK, hA, hG⟩ := id X
  intro n
  induction n with
  | zero => intro SC SB v1 v2 hf; exact absurd (show none = some z from hf) (fun h => by cases h)
  | succ n ih =>
    intro SC SB v1 v2 hf H locs ls hP hD hS hl
    rw [fX11_putOnTape_3] at hf
    refine lv_iload_n hx hb dX11_putOnTape_3 rfl (lv_at hl 2 rfl) ?_
    refine lv_if_lt (tgt := 36) hx hb dX11_putOnTape_4 (by decide) (fun hc => ?_) (fun hc => ?_)
    · have hf := tc_pos hc hf
      obtain rfl := Option.some.inj hf
      exact tc_rv X hP hD hS rfl dX11_putOnTape_36 rfl
    · have hf := tc_neg hc hf
      refine lv_aload_n hx hb dX11_putOnTape_7 rfl (lv_at hl 0 rfl) ?_
      refine va_get (D := (dC, dI)) (ci := 11) (v := .ref (qB 0)) (C := RX11) (T := TX11) (N := 20) hx hb hts i_X11 hown hK hP 0 rfl rfl 4 (by decide) (hts _ wf_X11_16) (fun _ h9 => h9) rfl dX11_putOnTape_8 ?_
      refine lv_aload_n hx hb dX11_putOnTape_11 rfl (lv_at hl 0 rfl) ?_
      refine va_get (D := (dC, dI)) (ci := 11) (v := .int (gi SC 5)) (C := RX11) (T := TX11) (N := 20) hx hb hts i_X11 hown hK hP 0 rfl rfl 5 (by decide) (hts _ wf_X11_145) (fun _ h9 => h9) rfl dX11_putOnTape_12 ?_
      refine lv_iload_n hx hb dX11_putOnTape_15 rfl (lv_at hl 1 rfl) ?_
      refine lv_iload_n hx hb dX11_putOnTape_16 rfl (lv_at hl 2 rfl) ?_
      refine lv_ishr hx hb dX11_putOnTape_17 ?_
      refine lv_i2b (v := (v1 >>> (v2 &&& 31)).toInt8.toInt32) hx hb dX11_putOnTape_18 rfl ?_
      obtain ⟨hi1, hf⟩ := tc_in hf
      refine va_bast hx hb hK hP hD hS 1 0 rfl rfl hi1 dX11_putOnTape_19 (fun H locs hP hD hS => ?_)
      have hP := tc_eP (aw11_B_1_0 ca qC qB (rC3) (.ref (qB 0)) (rC6) (rC7) (rC10) (rC11) (rC12) (rC14) (rC15) (rC17) (rC18) (rC19) SC SB (gi SC 5) (vp_nar .byte ((v1 >>> (v2 &&& 31)).toInt8.toInt32))) hP
      have hD := tc_eD (aw11_B_1_0 ca qC qB (rC3) (.ref (qB 0)) (rC6) (rC7) (rC10) (rC11) (rC12) (rC14) (rC15) (rC17) (rC18) (rC19) SC SB (gi SC 5) (vp_nar .byte ((v1 >>> (v2 &&& 31)).toInt8.toInt32))) hD
      refine lv_aload_n hx hb dX11_putOnTape_20 rfl (lv_at hl 0 rfl) ?_
      refine lv_dup hx hb dX11_putOnTape_21 rfl ?_
      refine va_get (D := (dC, dI)) (ci := 11) (v := .int (gi SC 5)) (C := RX11) (T := TX11) (N := 20) hx hb hts i_X11 hown hK hP 0 rfl rfl 5 (by decide) (hts _ wf_X11_145) (fun _ h9 => h9) rfl dX11_putOnTape_22 ?_
      refine lv_iconst (v := (1 : Int32)) hx hb dX11_putOnTape_25 (by decide) ?_
      refine lv_iadd hx hb dX11_putOnTape_26 ?_
      refine va_put (D := (dC, dI)) (ci := 11) (v := .int ((gi SC 5) + (1 : Int32))) (ty := .int) (C := RX11) (T := TX11) (N := 20) hx hb hts i_X11 tyX11 tyX11_ok nmX11 hown hK hP hD hS 0 rfl rfl 5 (by decide) (hts _ wf_X11_145) (fun _ h9 => h9) rfl (tyX11_ok 5 (by decide)) rfl rfl (Nat.le_of_ble_eq_true rfl) dX11_putOnTape_27 (fun H locs hP hD hS => ?_)
      have hP := tc_eP (pw11_B_0_5 ca qC qB (rC3) (.ref (qB 0)) (rC6) (rC7) (rC10) (rC11) (rC12) (rC14) (rC15) (rC17) (rC18) (rC19) SC (sa SB 0 (gi SC 5) (vp_nar .byte ((v1 >>> (v2 &&& 31)).toInt8.toInt32))) ((gi SC 5) + (1 : Int32))) hP
      have hD := tc_eD (pw11_B_0_5 ca qC qB (rC3) (.ref (qB 0)) (rC6) (rC7) (rC10) (rC11) (rC12) (rC14) (rC15) (rC17) (rC18) (rC19) SC (sa SB 0 (gi SC 5) (vp_nar .byte ((v1 >>> (v2 &&& 31)).toInt8.toInt32))) ((gi SC 5) + (1 : Int32))) hD
      refine lv_iinc (v := v2 + (-8 : Int32)) (lv' := [(2, .int (v2 + (-8 : Int32))), (0, .ref (qC 0)), (1, .int (v1))]) hx hb dX11_putOnTape_30 hl (k := 2) rfl rfl (by decide) rfl (fun ls hl => ?_)
      refine lv_goto (tgt := 3) hx hb dX11_putOnTape_33 (by decide) ?_
      exact ih (si SC 5 ((gi SC 5) + (1 : Int32))) (sa SB 0 (gi SC 5) (vp_nar .byte ((v1 >>> (v2 &&& 31)).toInt8.toInt32))) v1 (v2 + (-8 : Int32)) hf _ _ _ hP hD hS (lv_sub hl [1, 2, 0] rfl)
set_option maxRecDepth 20000 in
theorem mX11_putOnTape {qC : Nat → Nat} {qB : Nat → Nat} {rC3 : Value} {rC6 : Value} {rC7 : Value} {rC10 : Value} {rC11 : Value} {rC12 : Value} {rC14 : Value} {rC15 : Value} {rC17 : Value} {rC18 : Value} {rC19 : Value} {SC : ms_T} {SB : ms_T} {a1 : Int32} {z : ms_T × ms_T}  (hf : fX11_putOnTape SC SB a1 = some z) : tc_MV l dC dI ca yX11_putOnTape cX11_putOnTape 3 none rmX11_putOnTape [.ref (qC 0), .int (a1)] (w11 ca qC (rC3) (.ref (qB 0)) (rC6) (rC7) (rC10) (rC11) (rC12) (rC14) (rC15) (rC17) (rC18) (rC19) SC ++ wLB ca qB SB) (w11 ca qC (rC3) (.ref (qB 0)) (rC6) (rC7) (rC10) (rC11) (rC12) (rC14) (rC15) (rC17) (rC18) (rC19) z.1 ++ wLB ca qB z.2) := by
  refine tc_metV (own := RX11) (by decide) rfl ?_ (Nat.le_of_ble_eq_true rfl)
  intro p e s m below meth c A X hP hD hS ls hl
  obtain ⟨hx, hb, hr, hml, hown, hts, hlk, hK, hA, hG⟩ := id X
  unfold fX11_putOnTape at hf
  have hl : lv_has ls 3 [(0, .ref (qC 0)), (1, .int (a1))] := hl
  refine lv_bipush (v := (24 : Int32)) hx hb dX11_putOnTape_0 (by decide) ?_
  refine lv_istore_n (lv' := [(2, .int ((24 : Int32))), (0, .ref (qC 0)), (1, .int (a1))]) hx hb dX11_putOnTape_2 rfl hl (by decide) rfl (fun ls hl => ?_)
  exact tX11_putOnTape_3 X z FU SC SB a1 (24 : Int32) hf _ _ _ hP hD hS (lv_sub hl [1, 2, 0] rfl)
def fX11_feed  (SC : ms_T) (SB : ms_T) (a1 : Int32) (a2 : Int32) (a3 : Int32) (a4 : Int32) (a5 : Int32) : Option (Int32 × ms_T × ms_T) :=
  if ((gi SC 5) + (20 : Int32)) ≤ (900 : Int32) then
    (fX11_putOnTape SC SB a1).bind fun z1 =>
    (fX11_putOnTape z1.1 z1.2 a2).bind fun z2 =>
    (fX11_putOnTape z2.1 z2.2 a3).bind fun z3 =>
    (fX11_putOnTape z3.1 z3.2 a4).bind fun z4 =>
    (fX11_putOnTape z4.1 z4.2 a5).bind fun z5 =>
    some (gi z5.1 5, z5.1, z5.2)
  else
    some ((-1 : Int32), SC, SB)
abbrev rmX11_feed : Room := { frames := 1, cells := 0, slots := 0, locals := 22 }
theorem okX11_feed : tc_ok yX11_feed cX11_feed 6 (some .int) 5 := ⟨wc_X11_feed, wn_X11, by decide, by decide, by decide +kernel⟩
set_option maxRecDepth 20000 in
theorem mX11_feed {qC : Nat → Nat} {qB : Nat → Nat} {rC3 : Value} {rC6 : Value} {rC7 : Value} {rC10 : Value} {rC11 : Value} {rC12 : Value} {rC14 : Value} {rC15 : Value} {rC17 : Value} {rC18 : Value} {rC19 : Value} {SC : ms_T} {SB : ms_T} {a1 : Int32} {a2 : Int32} {a3 : Int32} {a4 : Int32} {a5 : Int32} {z : Int32 × ms_T × ms_T}  (hf : fX11_feed SC SB a1 a2 a3 a4 a5 = some z) : tc_MI l dC dI ca yX11_feed cX11_feed 6 (some .int) rmX11_feed [.ref (qC 0), .int (a1), .int (a2), .int (a3), .int (a4), .int (a5)] (w11 ca qC (rC3) (.ref (qB 0)) (rC6) (rC7) (rC10) (rC11) (rC12) (rC14) (rC15) (rC17) (rC18) (rC19) SC ++ wLB ca qB SB) (w11 ca qC (rC3) (.ref (qB 0)) (rC6) (rC7) (rC10) (rC11) (rC12) (rC14) (rC15) (rC17) (rC18) (rC19) z.2.1 ++ wLB ca qB z.2.2) (z.1) := by
  refine tc_metI (own := RX11) (by decide) rfl ?_ (Nat.le_of_ble_eq_true rfl)
  intro p e s m below meth c A X hP hD hS ls hl
  obtain ⟨hx, hb, hr, hml, hown, hts, hlk, hK, hA, hG⟩ := id X
  unfold fX11_feed at hf
  have hl : lv_has ls 6 [(0, .ref (qC 0)), (1, .int (a1)), (2, .int (a2)), (3, .int (a3)), (4, .int (a4)), (5, .int (a5))] := hl
  refine lv_aload_n hx hb dX11_feed_0 rfl (lv_at hl 0 rfl) ?_
  refine va_get (D := (dC, dI)) (ci := 11) (v := .int (gi SC 5)) (C := RX11) (T := TX11) (N := 20) hx hb hts i_X11 hown hK hP 0 rfl rfl 5 (by decide) (hts _ wf_X11_145) (fun _ h9 => h9) rfl dX11_feed_1 ?_
  refine lv_bipush (v := (20 : Int32)) hx hb dX11_feed_4 (by decide) ?_
  refine lv_iadd hx hb dX11_feed_6 ?_
  refine lv_sipush (v := (900 : Int32)) hx hb dX11_feed_7 (by decide) ?_
  refine lv_icmp_le (tgt := 15) hx hb dX11_feed_10 (by decide) (fun hc => ?_) (fun hc => ?_)
  · have hf := tc_pos hc hf
    refine lv_aload_n hx hb dX11_feed_15 rfl (lv_at hl 0 rfl) ?_
    refine lv_iload_n hx hb dX11_feed_16 rfl (lv_at hl 1 rfl) ?_
    obtain ⟨z1, hg, hf⟩ := tc_bi hf
    refine tc_vVs (As := [.int (a1)]) (rest := []) (b := qC 0) X hP hD hS (mX11_putOnTape hg) okX11_putOnTape wl_X11_148 wi_X11_putOnTape ws_X11_X11_putOnTape_X11_putOnTape ⟨rfl, rfl, Nat.le_of_ble_eq_true rfl, Nat.le_of_ble_eq_true rfl⟩ 11 0 rfl rfl rfl hl.1 (Nat.le_of_ble_eq_true rfl) dX11_feed_17 (fun H locs hP hD hS => ?_)
    refine lv_aload_n hx hb dX11_feed_20 rfl (lv_at hl 0 rfl) ?_
    refine lv_iload_n hx hb dX11_feed_21 rfl (lv_at hl 2 rfl) ?_
    obtain ⟨z2, hg, hf⟩ := tc_bi hf
    refine tc_vVs (As := [.int (a2)]) (rest := []) (b := qC 0) X hP hD hS (mX11_putOnTape hg) okX11_putOnTape wl_X11_148 wi_X11_putOnTape ws_X11_X11_putOnTape_X11_putOnTape ⟨rfl, rfl, Nat.le_of_ble_eq_true rfl, Nat.le_of_ble_eq_true rfl⟩ 11 0 rfl rfl rfl hl.1 (Nat.le_of_ble_eq_true rfl) dX11_feed_22 (fun H locs hP hD hS => ?_)
    refine lv_aload_n hx hb dX11_feed_25 rfl (lv_at hl 0 rfl) ?_
    refine lv_iload_n hx hb dX11_feed_26 rfl (lv_at hl 3 rfl) ?_
    obtain ⟨z3, hg, hf⟩ := tc_bi hf
    refine tc_vVs (As := [.int (a3)]) (rest := []) (b := qC 0) X hP hD hS (mX11_putOnTape hg) okX11_putOnTape wl_X11_148 wi_X11_putOnTape ws_X11_X11_putOnTape_X11_putOnTape ⟨rfl, rfl, Nat.le_of_ble_eq_true rfl, Nat.le_of_ble_eq_true rfl⟩ 11 0 rfl rfl rfl hl.1 (Nat.le_of_ble_eq_true rfl) dX11_feed_27 (fun H locs hP hD hS => ?_)
    refine lv_aload_n hx hb dX11_feed_30 rfl (lv_at hl 0 rfl) ?_
    refine lv_iload hx hb dX11_feed_31 (lv_at hl 4 rfl) ?_
    obtain ⟨z4, hg, hf⟩ := tc_bi hf
    refine tc_vVs (As := [.int (a4)]) (rest := []) (b := qC 0) X hP hD hS (mX11_putOnTape hg) okX11_putOnTape wl_X11_148 wi_X11_putOnTape ws_X11_X11_putOnTape_X11_putOnTape ⟨rfl, rfl, Nat.le_of_ble_eq_true rfl, Nat.le_of_ble_eq_true rfl⟩ 11 0 rfl rfl rfl hl.1 (Nat.le_of_ble_eq_true rfl) dX11_feed_33 (fun H locs hP hD hS => ?_)
    refine lv_aload_n hx hb dX11_feed_36 rfl (lv_at hl 0 rfl) ?_
    refine lv_iload hx hb dX11_feed_37 (lv_at hl 5 rfl) ?_
    obtain ⟨z5, hg, hf⟩ := tc_bi hf
    refine tc_vVs (As := [.int (a5)]) (rest := []) (b := qC 0) X hP hD hS (mX11_putOnTape hg) okX11_putOnTape wl_X11_148 wi_X11_putOnTape ws_X11_X11_putOnTape_X11_putOnTape ⟨rfl, rfl, Nat.le_of_ble_eq_true rfl, Nat.le_of_ble_eq_true rfl⟩ 11 0 rfl rfl rfl hl.1 (Nat.le_of_ble_eq_true rfl) dX11_feed_39 (fun H locs hP hD hS => ?_)
    refine lv_aload_n hx hb dX11_feed_42 rfl (lv_at hl 0 rfl) ?_
    refine va_get (D := (dC, dI)) (ci := 11) (v := .int (gi z5.1 5)) (C := RX11) (T := TX11) (N := 20) hx hb hts i_X11 hown hK hP 0 rfl rfl 5 (by decide) (hts _ wf_X11_145) (fun _ h9 => h9) rfl dX11_feed_43 ?_
    obtain rfl := Option.some.inj hf
    exact tc_ri X hP hD hS rfl dX11_feed_46 rfl rfl
  · have hf := tc_neg hc hf
    refine lv_iconst (v := (-1 : Int32)) hx hb dX11_feed_13 (by decide) ?_
    obtain rfl := Option.some.inj hf
    exact tc_ri X hP hD hS rfl dX11_feed_14 rfl rfl
theorem pw11_8_0_8 (ca : Nat → ClassId) (q0 q1 : Nat → Nat) (r0_3 r0_4 r0_6 r0_7 r0_10 r0_11 r0_12 r0_14 r0_15 r0_17 r0_18 r0_19 r1_0 r1_11 : Value) (S0 S1 : ms_T) (v : Int32) : (w11 ca q0 r0_3 r0_4 r0_6 r0_7 r0_10 r0_11 r0_12 r0_14 r0_15 r0_17 r0_18 r0_19 S0 ++ w8 ca q1 r1_0 r1_11 S1 : va_W).set 0 (q0 0, .inr (11, List.set (.int (gi S0 0) :: .long (gl S0 1) :: .long (gl S0 2) :: r0_3 :: r0_4 :: .int (gi S0 5) :: r0_6 :: r0_7 :: .int (gi S0 8) :: .int (gi S0 9) :: r0_10 :: r0_11 :: r0_12 :: .int (gi S0 13) :: r0_14 :: r0_15 :: .int (gi S0 16) :: r0_17 :: r0_18 :: r0_19 :: []) 8 (.int v))) = w11 ca q0 r0_3 r0_4 r0_6 r0_7 r0_10 r0_11 r0_12 r0_14 r0_15 r0_17 r0_18 r0_19 (si S0 8 v) ++ w8 ca q1 r1_0 r1_11 S1 := rfl
theorem pw11_8_0_9 (ca : Nat → ClassId) (q0 q1 : Nat → Nat) (r0_3 r0_4 r0_6 r0_7 r0_10 r0_11 r0_12 r0_14 r0_15 r0_17 r0_18 r0_19 r1_0 r1_11 : Value) (S0 S1 : ms_T) (v : Int32) : (w11 ca q0 r0_3 r0_4 r0_6 r0_7 r0_10 r0_11 r0_12 r0_14 r0_15 r0_17 r0_18 r0_19 S0 ++ w8 ca q1 r1_0 r1_11 S1 : va_W).set 0 (q0 0, .inr (11, List.set (.int (gi S0 0) :: .long (gl S0 1) :: .long (gl S0 2) :: r0_3 :: r0_4 :: .int (gi S0 5) :: r0_6 :: r0_7 :: .int (gi S0 8) :: .int (gi S0 9) :: r0_10 :: r0_11 :: r0_12 :: .int (gi S0 13) :: r0_14 :: r0_15 :: .int (gi S0 16) :: r0_17 :: r0_18 :: r0_19 :: []) 9 (.int v))) = w11 ca q0 r0_3 r0_4 r0_6 r0_7 r0_10 r0_11 r0_12 r0_14 r0_15 r0_17 r0_18 r0_19 (si S0 9 v) ++ w8 ca q1 r1_0 r1_11 S1 := rfl
def fX11_keepFaultT  (SC : ms_T) (SR : ms_T)  : Option (ms_T) :=
  some (si (si SC 8 (gi SR 9)) 9 (gi SR 10))
abbrev rmX11_keepFaultT : Room := { frames := 0, cells := 0, slots := 0, locals := 0 }
theorem okX11_keepFault : tc_ok yX11_keepFault cX11_keepFault 2 none 1 := ⟨wc_X11_keepFault, wn_X11, by decide, by decide, by decide +kernel⟩
set_option maxRecDepth 20000 in
theorem mX11_keepFaultT {qC : Nat → Nat} {qR : Nat → Nat} {rC3 : Value} {rC4 : Value} {rC7 : Value} {rC10 : Value} {rC11 : Value} {rC12 : Value} {rC14 : Value} {rC15 : Value} {rC17 : Value} {rC18 : Value} {rC19 : Value} {rR0 : Value} {rR11 : Value} {SC : ms_T} {SR : ms_T}  {z : ms_T}  (hf : fX11_keepFaultT SC SR = some z) : tc_MV l dC dI ca yX11_keepFault cX11_keepFault 2 none rmX11_keepFaultT [.ref (qC 0), .ref (qR 0)] (w11 ca qC (rC3) (rC4) (.ref (qR 0)) (rC7) (rC10) (rC11) (rC12) (rC14) (rC15) (rC17) (rC18) (rC19) SC ++ w8 ca qR (rR0) (rR11) SR) (w11 ca qC (rC3) (rC4) (.ref (qR 0)) (rC7) (rC10) (rC11) (rC12) (rC14) (rC15) (rC17) (rC18) (rC19) z ++ w8 ca qR (rR0) (rR11) SR) := by
  refine tc_metV (own := RX11) (by decide) rfl ?_ (Nat.le_of_ble_eq_true rfl)
  intro p e s m below meth c A X hP hD hS ls hl
  obtain ⟨hx, hb, hr, hml, hown, hts, hlk, hK, hA, hG⟩ := id X
  unfold fX11_keepFaultT at hf
  have hl : lv_has ls 2 [(0, .ref (qC 0)), (1, .ref (qR 0))] := hl
  refine lv_aload_n hx hb dX11_keepFault_0 rfl (lv_at hl 0 rfl) ?_
  refine lv_aload_n hx hb dX11_keepFault_1 rfl (lv_at hl 1 rfl) ?_
  refine va_get (D := (dC, dI)) (ci := 8) (v := .int (gi SR 9)) (C := RX8) (T := TX8) (N := 13) hx hb hts i_X8 hown hK hP 1 rfl rfl 9 (by decide) (hts _ wf_X11_423) (fun _ h9 => h9) rfl dX11_keepFault_2 ?_
  refine va_put (D := (dC, dI)) (ci := 11) (v := .int (gi SR 9)) (ty := .int) (C := RX11) (T := TX11) (N := 20) hx hb hts i_X11 tyX11 tyX11_ok nmX11 hown hK hP hD hS 0 rfl rfl 8 (by decide) (hts _ wf_X11_85) (fun _ h9 => h9) rfl (tyX11_ok 8 (by decide)) rfl rfl (Nat.le_of_ble_eq_true rfl) dX11_keepFault_5 (fun H locs hP hD hS => ?_)
  have hP := tc_eP (pw11_8_0_8 ca qC qR (rC3) (rC4) (.ref (qR 0)) (rC7) (rC10) (rC11) (rC12) (rC14) (rC15) (rC17) (rC18) (rC19) (rR0) (rR11) SC SR (gi SR 9)) hP
  have hD := tc_eD (pw11_8_0_8 ca qC qR (rC3) (rC4) (.ref (qR 0)) (rC7) (rC10) (rC11) (rC12) (rC14) (rC15) (rC17) (rC18) (rC19) (rR0) (rR11) SC SR (gi SR 9)) hD
  refine lv_aload_n hx hb dX11_keepFault_8 rfl (lv_at hl 0 rfl) ?_
  refine lv_aload_n hx hb dX11_keepFault_9 rfl (lv_at hl 1 rfl) ?_
  refine va_get (D := (dC, dI)) (ci := 8) (v := .int (gi SR 10)) (C := RX8) (T := TX8) (N := 13) hx hb hts i_X8 hown hK hP 1 rfl rfl 10 (by decide) (hts _ wf_X11_428) (fun _ h9 => h9) rfl dX11_keepFault_10 ?_
  refine va_put (D := (dC, dI)) (ci := 11) (v := .int (gi SR 10)) (ty := .int) (C := RX11) (T := TX11) (N := 20) hx hb hts i_X11 tyX11 tyX11_ok nmX11 hown hK hP hD hS 0 rfl rfl 9 (by decide) (hts _ wf_X11_89) (fun _ h9 => h9) rfl (tyX11_ok 9 (by decide)) rfl rfl (Nat.le_of_ble_eq_true rfl) dX11_keepFault_13 (fun H locs hP hD hS => ?_)
  have hP := tc_eP (pw11_8_0_9 ca qC qR (rC3) (rC4) (.ref (qR 0)) (rC7) (rC10) (rC11) (rC12) (rC14) (rC15) (rC17) (rC18) (rC19) (rR0) (rR11) (si SC 8 (gi SR 9)) SR (gi SR 10)) hP
  have hD := tc_eD (pw11_8_0_9 ca qC qR (rC3) (rC4) (.ref (qR 0)) (rC7) (rC10) (rC11) (rC12) (rC14) (rC15) (rC17) (rC18) (rC19) (rR0) (rR11) (si SC 8 (gi SR 9)) SR (gi SR 10)) hD
  obtain rfl := Option.some.inj hf
  exact tc_rv X hP hD hS rfl dX11_keepFault_16 rfl
theorem pw11_2_0_8 (ca : Nat → ClassId) (q0 q1 : Nat → Nat) (r0_3 r0_4 r0_6 r0_7 r0_10 r0_11 r0_12 r0_14 r0_15 r0_17 r0_18 r0_19 r1_0 r1_11 r1_12 : Value) (S0 S1 : ms_T) (v : Int32) : (w11 ca q0 r0_3 r0_4 r0_6 r0_7 r0_10 r0_11 r0_12 r0_14 r0_15 r0_17 r0_18 r0_19 S0 ++ w2 ca q1 r1_0 r1_11 r1_12 S1 : va_W).set 0 (q0 0, .inr (11, List.set (.int (gi S0 0) :: .long (gl S0 1) :: .long (gl S0 2) :: r0_3 :: r0_4 :: .int (gi S0 5) :: r0_6 :: r0_7 :: .int (gi S0 8) :: .int (gi S0 9) :: r0_10 :: r0_11 :: r0_12 :: .int (gi S0 13) :: r0_14 :: r0_15 :: .int (gi S0 16) :: r0_17 :: r0_18 :: r0_19 :: []) 8 (.int v))) = w11 ca q0 r0_3 r0_4 r0_6 r0_7 r0_10 r0_11 r0_12 r0_14 r0_15 r0_17 r0_18 r0_19 (si S0 8 v) ++ w2 ca q1 r1_0 r1_11 r1_12 S1 := rfl
theorem pw11_2_0_9 (ca : Nat → ClassId) (q0 q1 : Nat → Nat) (r0_3 r0_4 r0_6 r0_7 r0_10 r0_11 r0_12 r0_14 r0_15 r0_17 r0_18 r0_19 r1_0 r1_11 r1_12 : Value) (S0 S1 : ms_T) (v : Int32) : (w11 ca q0 r0_3 r0_4 r0_6 r0_7 r0_10 r0_11 r0_12 r0_14 r0_15 r0_17 r0_18 r0_19 S0 ++ w2 ca q1 r1_0 r1_11 r1_12 S1 : va_W).set 0 (q0 0, .inr (11, List.set (.int (gi S0 0) :: .long (gl S0 1) :: .long (gl S0 2) :: r0_3 :: r0_4 :: .int (gi S0 5) :: r0_6 :: r0_7 :: .int (gi S0 8) :: .int (gi S0 9) :: r0_10 :: r0_11 :: r0_12 :: .int (gi S0 13) :: r0_14 :: r0_15 :: .int (gi S0 16) :: r0_17 :: r0_18 :: r0_19 :: []) 9 (.int v))) = w11 ca q0 r0_3 r0_4 r0_6 r0_7 r0_10 r0_11 r0_12 r0_14 r0_15 r0_17 r0_18 r0_19 (si S0 9 v) ++ w2 ca q1 r1_0 r1_11 r1_12 S1 := rfl
def fX11_keepFaultE  (SC : ms_T) (SG : ms_T)  : Option (ms_T) :=
  some (si (si SC 8 (gi SG 9)) 9 (gi SG 10))
abbrev rmX11_keepFaultE : Room := { frames := 0, cells := 0, slots := 0, locals := 0 }
set_option maxRecDepth 20000 in
theorem mX11_keepFaultE {qC : Nat → Nat} {qG : Nat → Nat} {rC3 : Value} {rC4 : Value} {rC6 : Value} {rC10 : Value} {rC11 : Value} {rC12 : Value} {rC14 : Value} {rC15 : Value} {rC17 : Value} {rC18 : Value} {rC19 : Value} {rG0 : Value} {rG11 : Value} {rG12 : Value} {SC : ms_T} {SG : ms_T}  {z : ms_T}  (hf : fX11_keepFaultE SC SG = some z) : tc_MV l dC dI ca yX11_keepFault cX11_keepFault 2 none rmX11_keepFaultE [.ref (qC 0), .ref (qG 0)] (w11 ca qC (rC3) (rC4) (rC6) (.ref (qG 0)) (rC10) (rC11) (rC12) (rC14) (rC15) (rC17) (rC18) (rC19) SC ++ w2 ca qG (rG0) (rG11) (rG12) SG) (w11 ca qC (rC3) (rC4) (rC6) (.ref (qG 0)) (rC10) (rC11) (rC12) (rC14) (rC15) (rC17) (rC18) (rC19) z ++ w2 ca qG (rG0) (rG11) (rG12) SG) := by
  refine tc_metV (own := RX11) (by decide) rfl ?_ (Nat.le_of_ble_eq_true rfl)
  intro p e s m below meth c A X hP hD hS ls hl
  obtain ⟨hx, hb, hr, hml, hown, hts, hlk, hK, hA, hG⟩ := id X
  unfold fX11_keepFaultE at hf
  have hl : lv_has ls 2 [(0, .ref (qC 0)), (1, .ref (qG 0))] := hl
  refine lv_aload_n hx hb dX11_keepFault_0 rfl (lv_at hl 0 rfl) ?_
  refine lv_aload_n hx hb dX11_keepFault_1 rfl (lv_at hl 1 rfl) ?_
  refine va_get (D := (dC, dI)) (ci := 2) (v := .int (gi SG 9)) (C := RX2) (T := TX2) (N := 15) hx hb hts i_X2 hown hK hP 1 rfl rfl 9 (by decide) (hts _ wf_X11_423) (fun _ h9 => h9) rfl dX11_keepFault_2 ?_
  refine va_put (D := (dC, dI)) (ci := 11) (v := .int (gi SG 9)) (ty := .int) (C := RX11) (T := TX11) (N := 20) hx hb hts i_X11 tyX11 tyX11_ok nmX11 hown hK hP hD hS 0 rfl rfl 8 (by decide) (hts _ wf_X11_85) (fun _ h9 => h9) rfl (tyX11_ok 8 (by decide)) rfl rfl (Nat.le_of_ble_eq_true rfl) dX11_keepFault_5 (fun H locs hP hD hS => ?_)
  have hP := tc_eP (pw11_2_0_8 ca qC qG (rC3) (rC4) (rC6) (.ref (qG 0)) (rC10) (rC11) (rC12) (rC14) (rC15) (rC17) (rC18) (rC19) (rG0) (rG11) (rG12) SC SG (gi SG 9)) hP
  have hD := tc_eD (pw11_2_0_8 ca qC qG (rC3) (rC4) (rC6) (.ref (qG 0)) (rC10) (rC11) (rC12) (rC14) (rC15) (rC17) (rC18) (rC19) (rG0) (rG11) (rG12) SC SG (gi SG 9)) hD
  refine lv_aload_n hx hb dX11_keepFault_8 rfl (lv_at hl 0 rfl) ?_
  refine lv_aload_n hx hb dX11_keepFault_9 rfl (lv_at hl 1 rfl) ?_
  refine va_get (D := (dC, dI)) (ci := 2) (v := .int (gi SG 10)) (C := RX2) (T := TX2) (N := 15) hx hb hts i_X2 hown hK hP 1 rfl rfl 10 (by decide) (hts _ wf_X11_428) (fun _ h9 => h9) rfl dX11_keepFault_10 ?_
  refine va_put (D := (dC, dI)) (ci := 11) (v := .int (gi SG 10)) (ty := .int) (C := RX11) (T := TX11) (N := 20) hx hb hts i_X11 tyX11 tyX11_ok nmX11 hown hK hP hD hS 0 rfl rfl 9 (by decide) (hts _ wf_X11_89) (fun _ h9 => h9) rfl (tyX11_ok 9 (by decide)) rfl rfl (Nat.le_of_ble_eq_true rfl) dX11_keepFault_13 (fun H locs hP hD hS => ?_)
  have hP := tc_eP (pw11_2_0_9 ca qC qG (rC3) (rC4) (rC6) (.ref (qG 0)) (rC10) (rC11) (rC12) (rC14) (rC15) (rC17) (rC18) (rC19) (rG0) (rG11) (rG12) (si SC 8 (gi SG 9)) SG (gi SG 10)) hP
  have hD := tc_eD (pw11_2_0_9 ca qC qG (rC3) (rC4) (rC6) (.ref (qG 0)) (rC10) (rC11) (rC12) (rC14) (rC15) (rC17) (rC18) (rC19) (rG0) (rG11) (rG12) (si SC 8 (gi SG 9)) SG (gi SG 10)) hD
  obtain rfl := Option.some.inj hf
  exact tc_rv X hP hD hS rfl dX11_keepFault_16 rfl
def fX11_answer  (S : ms_T) (a1 : Int32) : Option (Int32 × ms_T) :=
  some (a1, si S 0 (0 : Int32))
abbrev rmX11_answer : Room := { frames := 0, cells := 0, slots := 0, locals := 0 }
theorem okX11_answer : tc_ok yX11_answer cX11_answer 2 (some .int) 1 := ⟨wc_X11_answer, wn_X11, by decide, by decide, by decide +kernel⟩
set_option maxRecDepth 20000 in
theorem mX11_answer {q : Nat → Nat} {rC3 : Value} {rC4 : Value} {rC6 : Value} {rC7 : Value} {rC10 : Value} {rC11 : Value} {rC12 : Value} {rC14 : Value} {rC15 : Value} {rC17 : Value} {rC18 : Value} {rC19 : Value} {S : ms_T} {a1 : Int32} {z : Int32 × ms_T}  (hf : fX11_answer S a1 = some z) : tc_MI l dC dI ca yX11_answer cX11_answer 2 (some .int) rmX11_answer [.ref (q 0), .int (a1)] (w11 ca q (rC3) (rC4) (rC6) (rC7) (rC10) (rC11) (rC12) (rC14) (rC15) (rC17) (rC18) (rC19) S) (w11 ca q (rC3) (rC4) (rC6) (rC7) (rC10) (rC11) (rC12) (rC14) (rC15) (rC17) (rC18) (rC19) z.2) (z.1) := by
  refine tc_metI (own := RX11) (by decide) rfl ?_ (Nat.le_of_ble_eq_true rfl)
  intro p e s m below meth c A X hP hD hS ls hl
  obtain ⟨hx, hb, hr, hml, hown, hts, hlk, hK, hA, hG⟩ := id X
  unfold fX11_answer at hf
  have hl : lv_has ls 2 [(0, .ref (q 0)), (1, .int (a1))] := hl
  refine lv_aload_n hx hb dX11_answer_0 rfl (lv_at hl 0 rfl) ?_
  refine lv_iconst (v := (0 : Int32)) hx hb dX11_answer_1 (by decide) ?_
  refine va_put (D := (dC, dI)) (ci := 11) (v := .int ((0 : Int32))) (ty := .int) (C := RX11) (T := TX11) (N := 20) hx hb hts i_X11 tyX11 tyX11_ok nmX11 hown hK hP hD hS 0 rfl rfl 0 (by decide) (hts _ wf_X11_92) (fun _ h9 => h9) rfl (tyX11_ok 0 (by decide)) rfl rfl (Nat.le_of_ble_eq_true rfl) dX11_answer_2 (fun H locs hP hD hS => ?_)
  have hP := tc_eP (pw11_0_0 ca q (rC3) (rC4) (rC6) (rC7) (rC10) (rC11) (rC12) (rC14) (rC15) (rC17) (rC18) (rC19) S (0 : Int32)) hP
  have hD := tc_eD (pw11_0_0 ca q (rC3) (rC4) (rC6) (rC7) (rC10) (rC11) (rC12) (rC14) (rC15) (rC17) (rC18) (rC19) S (0 : Int32)) hD
  refine lv_iload_n hx hb dX11_answer_5 rfl (lv_at hl 1 rfl) ?_
  obtain rfl := Option.some.inj hf
  exact tc_ri X hP hD hS rfl dX11_answer_6 rfl rfl
theorem pm_4 (m0 m1 m2 m3 m4 m5 m6 m7 : va_W) : List.Perm (m0 ++ m1 ++ m2 ++ m3 ++ m4 ++ m5 ++ m6 ++ m7) ((m1 ++ m2 ++ m3 ++ m4 ++ m5 ++ m6 ++ m7) ++ (m0)) := by
  have h := tc_flat (tc_pk [m0] [m2, m3, m4, m5, m6, m7] m1 (tc_pk [m0] [m3, m4, m5, m6, m7] m2 (tc_pk [m0] [m4, m5, m6, m7] m3 (tc_pk [m0] [m5, m6, m7] m4 (tc_pk [m0] [m6, m7] m5 (tc_pk [m0] [m7] m6 (tc_pk [m0] [] m7 (tc_pk [] [] m0 (List.Perm.refl _)))))))) : List.Perm [m0, m1, m2, m3, m4, m5, m6, m7] [m1, m2, m3, m4, m5, m6, m7, m0])
  simpa [List.append_assoc] using h
theorem pm_5 (m0 m1 m2 m3 m4 m5 m6 m7 : va_W) : List.Perm ((m1 ++ m2 ++ m3 ++ m4 ++ m5 ++ m6 ++ m7) ++ (m0)) (m0 ++ m1 ++ m2 ++ m3 ++ m4 ++ m5 ++ m6 ++ m7) := by
  have h := tc_flat (tc_pk [m1, m2, m3, m4, m5, m6, m7] [] m0 (tc_pk [] [m2, m3, m4, m5, m6, m7] m1 (tc_pk [] [m3, m4, m5, m6, m7] m2 (tc_pk [] [m4, m5, m6, m7] m3 (tc_pk [] [m5, m6, m7] m4 (tc_pk [] [m6, m7] m5 (tc_pk [] [m7] m6 (tc_pk [] [] m7 (List.Perm.refl _)))))))) : List.Perm [m1, m2, m3, m4, m5, m6, m7, m0] [m0, m1, m2, m3, m4, m5, m6, m7])
  simpa [List.append_assoc] using h
theorem pwm26_0_5 (ca : Nat → ClassId) (q0 q1 q2 q3 q4 q5 q6 q7 : Nat → Nat) (r0_3 r0_4 r0_6 r0_7 r0_10 r0_11 r0_12 r0_14 r0_15 r0_17 r0_18 r0_19 r2_0 r2_11 r3_0 r3_1 r6_0 r6_1 : Value) (S0 S1 S2 S3 S4 S5 S6 S7 : ms_T) (v : Int32) : (w11 ca q0 r0_3 r0_4 r0_6 r0_7 r0_10 r0_11 r0_12 r0_14 r0_15 r0_17 r0_18 r0_19 S0 ++ wLB ca q1 S1 ++ w8 ca q2 r2_0 r2_11 S2 ++ w6 ca q3 r3_0 r3_1 S3 ++ w7 ca q4 S4 ++ w1 ca q5 S5 ++ w6 ca q6 r6_0 r6_1 S6 ++ w7 ca q7 S7 : va_W).set 0 (q0 0, .inr (11, List.set (.int (gi S0 0) :: .long (gl S0 1) :: .long (gl S0 2) :: r0_3 :: r0_4 :: .int (gi S0 5) :: r0_6 :: r0_7 :: .int (gi S0 8) :: .int (gi S0 9) :: r0_10 :: r0_11 :: r0_12 :: .int (gi S0 13) :: r0_14 :: r0_15 :: .int (gi S0 16) :: r0_17 :: r0_18 :: r0_19 :: []) 5 (.int v))) = w11 ca q0 r0_3 r0_4 r0_6 r0_7 r0_10 r0_11 r0_12 r0_14 r0_15 r0_17 r0_18 r0_19 (si S0 5 v) ++ wLB ca q1 S1 ++ w8 ca q2 r2_0 r2_11 S2 ++ w6 ca q3 r3_0 r3_1 S3 ++ w7 ca q4 S4 ++ w1 ca q5 S5 ++ w6 ca q6 r6_0 r6_1 S6 ++ w7 ca q7 S7 := rfl
theorem pm_6 (m0 m1 m2 m3 m4 m5 m6 m7 : va_W) : List.Perm (m0 ++ m1 ++ m2 ++ m3 ++ m4 ++ m5 ++ m6 ++ m7) ((m0 ++ m3 ++ m4 ++ m5 ++ m6) ++ (m2 ++ m1 ++ m7)) := by
  have h := tc_flat (tc_pk [] [m1, m2, m3, m4, m5, m6, m7] m0 (tc_pk [m1, m2] [m4, m5, m6, m7] m3 (tc_pk [m1, m2] [m5, m6, m7] m4 (tc_pk [m1, m2] [m6, m7] m5 (tc_pk [m1, m2] [m7] m6 (tc_pk [m1] [m7] m2 (tc_pk [] [m7] m1 (tc_pk [] [] m7 (List.Perm.refl _)))))))) : List.Perm [m0, m1, m2, m3, m4, m5, m6, m7] [m0, m3, m4, m5, m6, m2, m1, m7])
  simpa [List.append_assoc] using h
theorem pm_7 (m0 m1 m2 m3 m4 m5 m6 m7 : va_W) : List.Perm ((m0 ++ m3 ++ m4 ++ m5 ++ m6) ++ (m2 ++ m1 ++ m7)) (m0 ++ m1 ++ m2 ++ m3 ++ m4 ++ m5 ++ m6 ++ m7) := by
  have h := tc_flat (tc_pk [] [m3, m4, m5, m6, m2, m1, m7] m0 (tc_pk [m3, m4, m5, m6, m2] [m7] m1 (tc_pk [m3, m4, m5, m6] [m7] m2 (tc_pk [] [m4, m5, m6, m7] m3 (tc_pk [] [m5, m6, m7] m4 (tc_pk [] [m6, m7] m5 (tc_pk [] [m7] m6 (tc_pk [] [] m7 (List.Perm.refl _)))))))) : List.Perm [m0, m3, m4, m5, m6, m2, m1, m7] [m0, m1, m2, m3, m4, m5, m6, m7])
  simpa [List.append_assoc] using h
theorem pm_8 (m0 m1 m2 m3 m4 m5 m6 m7 : va_W) : List.Perm (m0 ++ m1 ++ m2 ++ m3 ++ m4 ++ m5 ++ m6 ++ m7) ((m1 ++ m3 ++ m4 ++ m5 ++ m6 ++ m7) ++ (m0 ++ m2)) := by
  have h := tc_flat (tc_pk [m0] [m2, m3, m4, m5, m6, m7] m1 (tc_pk [m0, m2] [m4, m5, m6, m7] m3 (tc_pk [m0, m2] [m5, m6, m7] m4 (tc_pk [m0, m2] [m6, m7] m5 (tc_pk [m0, m2] [m7] m6 (tc_pk [m0, m2] [] m7 (tc_pk [] [m2] m0 (tc_pk [] [] m2 (List.Perm.refl _)))))))) : List.Perm [m0, m1, m2, m3, m4, m5, m6, m7] [m1, m3, m4, m5, m6, m7, m0, m2])
  simpa [List.append_assoc] using h
theorem pm_9 (m0 m1 m2 m3 m4 m5 m6 m7 : va_W) : List.Perm ((m1 ++ m3 ++ m4 ++ m5 ++ m6 ++ m7) ++ (m0 ++ m2)) (m0 ++ m1 ++ m2 ++ m3 ++ m4 ++ m5 ++ m6 ++ m7) := by
  have h := tc_flat (tc_pk [m1, m3, m4, m5, m6, m7] [m2] m0 (tc_pk [] [m3, m4, m5, m6, m7, m2] m1 (tc_pk [m3, m4, m5, m6, m7] [] m2 (tc_pk [] [m4, m5, m6, m7] m3 (tc_pk [] [m5, m6, m7] m4 (tc_pk [] [m6, m7] m5 (tc_pk [] [m7] m6 (tc_pk [] [] m7 (List.Perm.refl _)))))))) : List.Perm [m1, m3, m4, m5, m6, m7, m0, m2] [m0, m1, m2, m3, m4, m5, m6, m7])
  simpa [List.append_assoc] using h
theorem pm_10 (m0 m1 m2 m3 m4 m5 m6 m7 : va_W) : List.Perm (m0 ++ m1 ++ m2 ++ m3 ++ m4 ++ m5 ++ m6 ++ m7) ((m0 ++ m1 ++ m2 ++ m3 ++ m5 ++ m6) ++ (m4 ++ m7)) := by
  have h := tc_flat (tc_pk [] [m1, m2, m3, m4, m5, m6, m7] m0 (tc_pk [] [m2, m3, m4, m5, m6, m7] m1 (tc_pk [] [m3, m4, m5, m6, m7] m2 (tc_pk [] [m4, m5, m6, m7] m3 (tc_pk [m4] [m6, m7] m5 (tc_pk [m4] [m7] m6 (tc_pk [] [m7] m4 (tc_pk [] [] m7 (List.Perm.refl _)))))))) : List.Perm [m0, m1, m2, m3, m4, m5, m6, m7] [m0, m1, m2, m3, m5, m6, m4, m7])
  simpa [List.append_assoc] using h
theorem pm_11 (m0 m1 m2 m3 m4 m5 m6 m7 : va_W) : List.Perm ((m0 ++ m1 ++ m2 ++ m3 ++ m5 ++ m6) ++ (m4 ++ m7)) (m0 ++ m1 ++ m2 ++ m3 ++ m4 ++ m5 ++ m6 ++ m7) := by
  have h := tc_flat (tc_pk [] [m1, m2, m3, m5, m6, m4, m7] m0 (tc_pk [] [m2, m3, m5, m6, m4, m7] m1 (tc_pk [] [m3, m5, m6, m4, m7] m2 (tc_pk [] [m5, m6, m4, m7] m3 (tc_pk [m5, m6] [m7] m4 (tc_pk [] [m6, m7] m5 (tc_pk [] [m7] m6 (tc_pk [] [] m7 (List.Perm.refl _)))))))) : List.Perm [m0, m1, m2, m3, m5, m6, m4, m7] [m0, m1, m2, m3, m4, m5, m6, m7])
  simpa [List.append_assoc] using h
theorem pm_12 (m0 m1 m2 m3 m4 m5 m6 m7 : va_W) : List.Perm (m0 ++ m1 ++ m2 ++ m3 ++ m4 ++ m5 ++ m6 ++ m7) ((m0 ++ m1 ++ m2 ++ m3 ++ m4 ++ m6 ++ m7) ++ (m5)) := by
  have h := tc_flat (tc_pk [] [m1, m2, m3, m4, m5, m6, m7] m0 (tc_pk [] [m2, m3, m4, m5, m6, m7] m1 (tc_pk [] [m3, m4, m5, m6, m7] m2 (tc_pk [] [m4, m5, m6, m7] m3 (tc_pk [] [m5, m6, m7] m4 (tc_pk [m5] [m7] m6 (tc_pk [m5] [] m7 (tc_pk [] [] m5 (List.Perm.refl _)))))))) : List.Perm [m0, m1, m2, m3, m4, m5, m6, m7] [m0, m1, m2, m3, m4, m6, m7, m5])
  simpa [List.append_assoc] using h
theorem pm_13 (m0 m1 m2 m3 m4 m5 m6 m7 : va_W) : List.Perm ((m0 ++ m1 ++ m2 ++ m3 ++ m4 ++ m6 ++ m7) ++ (m5)) (m0 ++ m1 ++ m2 ++ m3 ++ m4 ++ m5 ++ m6 ++ m7) := by
  have h := tc_flat (tc_pk [] [m1, m2, m3, m4, m6, m7, m5] m0 (tc_pk [] [m2, m3, m4, m6, m7, m5] m1 (tc_pk [] [m3, m4, m6, m7, m5] m2 (tc_pk [] [m4, m6, m7, m5] m3 (tc_pk [] [m6, m7, m5] m4 (tc_pk [m6, m7] [] m5 (tc_pk [] [m7] m6 (tc_pk [] [] m7 (List.Perm.refl _)))))))) : List.Perm [m0, m1, m2, m3, m4, m6, m7, m5] [m0, m1, m2, m3, m4, m5, m6, m7])
  simpa [List.append_assoc] using h
def fX11_table_12  (SB : ms_T) (SP0 : ms_T) (SP1 : ms_T)  (SC : ms_T) (SR : ms_T) (ST0 : ms_T) (SE0 : ms_T) (ST1 : ms_T) : Option (Int32 × ms_T × ms_T × ms_T × ms_T × ms_T) :=
  (fX11_refuse SC (5 : Int32)).bind fun z1 =>
  some (z1.1, z1.2, SR, ST0, SE0, ST1)
def fX11_table  (SC : ms_T) (SB : ms_T) (SR : ms_T) (SP0 : ms_T) (ST0 : ms_T) (SE0 : ms_T) (SP1 : ms_T) (ST1 : ms_T) (a1 : Int32) : Option (Int32 × ms_T × ms_T × ms_T × ms_T × ms_T) :=
  if a1 < 0 then
    fX11_table_12 SB SP0 SP1 SC SR ST0 SE0 ST1
  else
    if a1 ≤ (gi SC 5) then
      (fX8_readTable SR SB ST1 a1).bind fun z2 =>
      (fX11_keepFaultT (si SC 5 (0 : Int32)) z2.2.1).bind fun z3 =>
      if z2.1 = 0 then
        (fX11_refuse z3 (10 : Int32)).bind fun z7 =>
        some (z7.1, z7.2, z2.2.1, ST0, SE0, z2.2.2)
      else
        (fX7_copyFrom ST0 z2.2.2).bind fun z4 =>
        (fX1_clear SE0).bind fun z5 =>
        (fX11_answer z3 (gi z4 8)).bind fun z6 =>
        some (z6.1, z6.2, z2.2.1, z4, z5, z2.2.2)
    else
      fX11_table_12 SB SP0 SP1 SC SR ST0 SE0 ST1
abbrev rmX11_table : Room := { frames := 13, cells := 0, slots := 0, locals := 517 }
theorem okX11_table : tc_ok yX11_table cX11_table 3 (some .int) 1 := ⟨wc_X11_table, wn_X11, by decide, by decide, by decide +kernel⟩
set_option maxRecDepth 20000 in
theorem tX11_table_12 {qC : Nat → Nat} {qB : Nat → Nat} {qR : Nat → Nat} {qP0 : Nat → Nat} {qT0 : Nat → Nat} {qE0 : Nat → Nat} {qP1 : Nat → Nat} {qT1 : Nat → Nat} {rC3 : Value} {rC7 : Value} {rC12 : Value} {rC14 : Value} {rC15 : Value} {rC17 : Value} {rC18 : Value} {rC19 : Value} {rR11 : Value} {rP11 : Value} (X : tc_X dC dI ca A RX11 cX11_table 3 (some .int) p s m args meth c) (z : Int32 × ms_T × ms_T × ms_T × ms_T × ms_T)  (SB : ms_T) (SP0 : ms_T) (SP1 : ms_T)   : ∀ (SC : ms_T) (SR : ms_T) (ST0 : ms_T) (SE0 : ms_T) (ST1 : ms_T), fX11_table_12 SB SP0 SP1 SC SR ST0 SE0 ST1 = some z → ∀ (H : Heap) (locs : List Loc) (ls : Array Slot), va_P (dC, dI) classes (w11 ca qC (rC3) (.ref (qB 0)) (.ref (qR 0)) (rC7) (.ref (qP0 0)) (.ref (qP1 0)) (rC12) (rC14) (rC15) (rC17) (rC18) (rC19) SC ++ wLB ca qB SB ++ w8 ca qR (.ref (qB 0)) (rR11) SR ++ w6 ca qP0 (.ref (qT0 0)) (.ref (qE0 0)) SP0 ++ w7 ca qT0 ST0 ++ w1 ca qE0 SE0 ++ w6 ca qP1 (.ref (qT1 0)) (rP11) SP1 ++ w7 ca qT1 ST1) H → va_D A (w11 ca qC (rC3) (.ref (qB 0)) (.ref (qR 0)) (rC7) (.ref (qP0 0)) (.ref (qP1 0)) (rC12) (rC14) (rC15) (rC17) (rC18) (rC19) SC ++ wLB ca qB SB ++ w8 ca qR (.ref (qB 0)) (rR11) SR ++ w6 ca qP0 (.ref (qT0 0)) (.ref (qE0 0)) SP0 ++ w7 ca qT0 ST0 ++ w1 ca qE0 SE0 ++ w6 ca qP1 (.ref (qT1 0)) (rP11) SP1 ++ w7 ca qT1 ST1) → va_S A s.heap H locs → lv_has ls 3 [(0, .ref (qC 0))] → W p l e rmX11_table s m args below meth c H locs 0 0 (MQ below (tc_QIx dC dI ca A (fun u => (w11 ca qC (rC3) (.ref (qB 0)) (.ref (qR 0)) (rC7) (.ref (qP0 0)) (.ref (qP1 0)) (rC12) (rC14) (rC15) (rC17) (rC18) (rC19) z.2.1 ++ wLB ca qB SB ++ w8 ca qR (.ref (qB 0)) (u 0) z.2.2.1 ++ w6 ca qP0 (.ref (qT0 0)) (.ref (qE0 0)) SP0 ++ w7 ca qT0 z.2.2.2.1 ++ w1 ca qE0 z.2.2.2.2.1 ++ w6 ca qP1 (.ref (qT1 0)) (rP11) SP1 ++ w7 ca qT1 z.2.2.2.2.2)) (z.1)) args s 0 0 A) (F0 m 12 ls []) := by
  obtain ⟨hx, hb, hr, hml, hown, hts, hlk, hK, hA, hG⟩ := id X
  intro SC SR ST0 SE0 ST1 hf H locs ls hP hD hS hl
  unfold fX11_table_12 at hf
  refine lv_aload_n hx hb dX11_table_12 rfl (lv_at hl 0 rfl) ?_
  refine lv_iconst (v := (5 : Int32)) hx hb dX11_table_13 (by decide) ?_
  obtain ⟨z1, hg, hf⟩ := tc_bi hf
  refine tc_iVp (As := [.int ((5 : Int32))]) (rest := []) (b := qC 0) (wc := w11 ca qC (rC3) (.ref (qB 0)) (.ref (qR 0)) (rC7) (.ref (qP0 0)) (.ref (qP1 0)) (rC12) (rC14) (rC15) (rC17) (rC18) (rC19) SC) (wr := wLB ca qB SB ++ w8 ca qR (.ref (qB 0)) (rR11) SR ++ w6 ca qP0 (.ref (qT0 0)) (.ref (qE0 0)) SP0 ++ w7 ca qT0 ST0 ++ w1 ca qE0 SE0 ++ w6 ca qP1 (.ref (qT1 0)) (rP11) SP1 ++ w7 ca qT1 ST1) X hP hD hS (mX11_refuse hg) okX11_refuse wl_X11_121 wi_X11_refuse ws_X11_X11_refuse_X11_refuse ⟨rfl, rfl, Nat.le_of_ble_eq_true rfl, Nat.le_of_ble_eq_true rfl⟩ 11 0 rfl rfl (pm_4 (w11 ca qC (rC3) (.ref (qB 0)) (.ref (qR 0)) (rC7) (.ref (qP0 0)) (.ref (qP1 0)) (rC12) (rC14) (rC15) (rC17) (rC18) (rC19) SC) (wLB ca qB SB) (w8 ca qR (.ref (qB 0)) (rR11) SR) (w6 ca qP0 (.ref (qT0 0)) (.ref (qE0 0)) SP0) (w7 ca qT0 ST0) (w1 ca qE0 SE0) (w6 ca qP1 (.ref (qT1 0)) (rP11) SP1) (w7 ca qT1 ST1)) rfl hl.1 (Nat.le_of_ble_eq_true rfl) dX11_table_14 (fun H locs hP hD hS => ?_)
  have hP := tc_Pm (pm_5 (w11 ca qC (rC3) (.ref (qB 0)) (.ref (qR 0)) (rC7) (.ref (qP0 0)) (.ref (qP1 0)) (rC12) (rC14) (rC15) (rC17) (rC18) (rC19) z1.2) (wLB ca qB SB) (w8 ca qR (.ref (qB 0)) (rR11) SR) (w6 ca qP0 (.ref (qT0 0)) (.ref (qE0 0)) SP0) (w7 ca qT0 ST0) (w1 ca qE0 SE0) (w6 ca qP1 (.ref (qT1 0)) (rP11) SP1) (w7 ca qT1 ST1)) hP
  have hD := tc_Dm (pm_5 (w11 ca qC (rC3) (.ref (qB 0)) (.ref (qR 0)) (rC7) (.ref (qP0 0)) (.ref (qP1 0)) (rC12) (rC14) (rC15) (rC17) (rC18) (rC19) z1.2) (wLB ca qB SB) (w8 ca qR (.ref (qB 0)) (rR11) SR) (w6 ca qP0 (.ref (qT0 0)) (.ref (qE0 0)) SP0) (w7 ca qT0 ST0) (w1 ca qE0 SE0) (w6 ca qP1 (.ref (qT1 0)) (rP11) SP1) (w7 ca qT1 ST1)) hD
  obtain rfl := Option.some.inj hf
  exact tc_rix X hP hD hS rfl dX11_table_17 (fun _ => rR11) rfl rfl
set_option maxRecDepth 20000 in
theorem mX11_table {qC : Nat → Nat} {qB : Nat → Nat} {qR : Nat → Nat} {qP0 : Nat → Nat} {qT0 : Nat → Nat} {qE0 : Nat → Nat} {qP1 : Nat → Nat} {qT1 : Nat → Nat} {rC3 : Value} {rC7 : Value} {rC12 : Value} {rC14 : Value} {rC15 : Value} {rC17 : Value} {rC18 : Value} {rC19 : Value} {rR11 : Value} {rP11 : Value} {SC : ms_T} {SB : ms_T} {SR : ms_T} {SP0 : ms_T} {ST0 : ms_T} {SE0 : ms_T} {SP1 : ms_T} {ST1 : ms_T} {a1 : Int32} {z : Int32 × ms_T × ms_T × ms_T × ms_T × ms_T}  (hf : fX11_table SC SB SR SP0 ST0 SE0 SP1 ST1 a1 = some z) : tc_MIx l dC dI ca yX11_table cX11_table 3 (some .int) rmX11_table [.ref (qC 0), .int (a1)] (w11 ca qC (rC3) (.ref (qB 0)) (.ref (qR 0)) (rC7) (.ref (qP0 0)) (.ref (qP1 0)) (rC12) (rC14) (rC15) (rC17) (rC18) (rC19) SC ++ wLB ca qB SB ++ w8 ca qR (.ref (qB 0)) (rR11) SR ++ w6 ca qP0 (.ref (qT0 0)) (.ref (qE0 0)) SP0 ++ w7 ca qT0 ST0 ++ w1 ca qE0 SE0 ++ w6 ca qP1 (.ref (qT1 0)) (rP11) SP1 ++ w7 ca qT1 ST1) (fun u => (w11 ca qC (rC3) (.ref (qB 0)) (.ref (qR 0)) (rC7) (.ref (qP0 0)) (.ref (qP1 0)) (rC12) (rC14) (rC15) (rC17) (rC18) (rC19) z.2.1 ++ wLB ca qB SB ++ w8 ca qR (.ref (qB 0)) (u 0) z.2.2.1 ++ w6 ca qP0 (.ref (qT0 0)) (.ref (qE0 0)) SP0 ++ w7 ca qT0 z.2.2.2.1 ++ w1 ca qE0 z.2.2.2.2.1 ++ w6 ca qP1 (.ref (qT1 0)) (rP11) SP1 ++ w7 ca qT1 z.2.2.2.2.2)) (z.1) := by
  refine tc_metIx (own := RX11) (by decide) rfl ?_ (Nat.le_of_ble_eq_true rfl)
  intro p e s m below meth c A X hP hD hS ls hl
  obtain ⟨hx, hb, hr, hml, hown, hts, hlk, hK, hA, hG⟩ := id X
  unfold fX11_table at hf
  have hl : lv_has ls 3 [(0, .ref (qC 0)), (1, .int (a1))] := hl
  refine lv_iload_n hx hb dX11_table_0 rfl (lv_at hl 1 rfl) ?_
  refine lv_if_lt (tgt := 12) hx hb dX11_table_1 (by decide) (fun hc => ?_) (fun hc => ?_)
  · have hf := tc_pos hc hf
    exact tX11_table_12 X z SB SP0 SP1 SC SR ST0 SE0 ST1 hf _ _ _ hP hD hS (lv_sub hl [0] rfl)
  · have hf := tc_neg hc hf
    refine lv_iload_n hx hb dX11_table_4 rfl (lv_at hl 1 rfl) ?_
    refine lv_aload_n hx hb dX11_table_5 rfl (lv_at hl 0 rfl) ?_
    refine va_get (D := (dC, dI)) (ci := 11) (v := .int (gi SC 5)) (C := RX11) (T := TX11) (N := 20) hx hb hts i_X11 hown hK hP 0 rfl rfl 5 (by decide) (hts _ wf_X11_145) (fun _ h9 => h9) rfl dX11_table_6 ?_
    refine lv_icmp_le (tgt := 18) hx hb dX11_table_9 (by decide) (fun hc => ?_) (fun hc => ?_)
    · have hf := tc_pos hc hf
      refine lv_aload_n hx hb dX11_table_18 rfl (lv_at hl 0 rfl) ?_
      refine lv_iconst (v := (0 : Int32)) hx hb dX11_table_19 (by decide) ?_
      refine va_put (D := (dC, dI)) (ci := 11) (v := .int ((0 : Int32))) (ty := .int) (C := RX11) (T := TX11) (N := 20) hx hb hts i_X11 tyX11 tyX11_ok nmX11 hown hK hP hD hS 0 rfl rfl 5 (by decide) (hts _ wf_X11_145) (fun _ h9 => h9) rfl (tyX11_ok 5 (by decide)) rfl rfl (Nat.le_of_ble_eq_true rfl) dX11_table_20 (fun H locs hP hD hS => ?_)
      have hP := tc_eP (pwm26_0_5 ca qC qB qR qP0 qT0 qE0 qP1 qT1 (rC3) (.ref (qB 0)) (.ref (qR 0)) (rC7) (.ref (qP0 0)) (.ref (qP1 0)) (rC12) (rC14) (rC15) (rC17) (rC18) (rC19) (.ref (qB 0)) (rR11) (.ref (qT0 0)) (.ref (qE0 0)) (.ref (qT1 0)) (rP11) SC SB SR SP0 ST0 SE0 SP1 ST1 (0 : Int32)) hP
      have hD := tc_eD (pwm26_0_5 ca qC qB qR qP0 qT0 qE0 qP1 qT1 (rC3) (.ref (qB 0)) (.ref (qR 0)) (rC7) (.ref (qP0 0)) (.ref (qP1 0)) (rC12) (rC14) (rC15) (rC17) (rC18) (rC19) (.ref (qB 0)) (rR11) (.ref (qT0 0)) (.ref (qE0 0)) (.ref (qT1 0)) (rP11) SC SB SR SP0 ST0 SE0 SP1 ST1 (0 : Int32)) hD
      refine lv_aload_n hx hb dX11_table_23 rfl (lv_at hl 0 rfl) ?_
      refine va_get (D := (dC, dI)) (ci := 11) (v := .ref (qR 0)) (C := RX11) (T := TX11) (N := 20) hx hb hts i_X11 hown hK hP 0 rfl rfl 6 (by decide) (hts _ wf_X11_25) (fun _ h9 => h9) rfl dX11_table_24 ?_
      refine lv_iload_n hx hb dX11_table_27 rfl (lv_at hl 1 rfl) ?_
      refine lv_aload_n hx hb dX11_table_28 rfl (lv_at hl 0 rfl) ?_
      refine va_get (D := (dC, dI)) (ci := 11) (v := .ref (qP1 0)) (C := RX11) (T := TX11) (N := 20) hx hb hts i_X11 hown hK hP 0 rfl rfl 11 (by decide) (hts _ wf_X11_43) (fun _ h9 => h9) rfl dX11_table_29 ?_
      refine va_get (D := (dC, dI)) (ci := 6) (v := .ref (qT1 0)) (C := RX6) (T := TX6) (N := 2) hx hb hts i_X6 hown hK hP 21 rfl rfl 0 (by decide) (hts _ wf_X11_152) (fun _ h9 => h9) rfl dX11_table_32 ?_
      obtain ⟨z2, hg, hf⟩ := tc_bi hf
      refine tc_iVp (As := [.int (a1), .ref (qT1 0)]) (rest := []) (b := qR 0) (wc := w8 ca qR (.ref (qB 0)) (rR11) SR ++ wLB ca qB SB ++ w7 ca qT1 ST1) (wr := w11 ca qC (rC3) (.ref (qB 0)) (.ref (qR 0)) (rC7) (.ref (qP0 0)) (.ref (qP1 0)) (rC12) (rC14) (rC15) (rC17) (rC18) (rC19) (si SC 5 (0 : Int32)) ++ w6 ca qP0 (.ref (qT0 0)) (.ref (qE0 0)) SP0 ++ w7 ca qT0 ST0 ++ w1 ca qE0 SE0 ++ w6 ca qP1 (.ref (qT1 0)) (rP11) SP1) X hP hD hS (mX8_readTable hg) okX8_readTable wl_X11_156 wi_X8_readTable ws_X8_X8_readTable_X8_readTable ⟨rfl, rfl, Nat.le_of_ble_eq_true rfl, Nat.le_of_ble_eq_true rfl⟩ 8 0 rfl rfl (pm_6 (w11 ca qC (rC3) (.ref (qB 0)) (.ref (qR 0)) (rC7) (.ref (qP0 0)) (.ref (qP1 0)) (rC12) (rC14) (rC15) (rC17) (rC18) (rC19) (si SC 5 (0 : Int32))) (wLB ca qB SB) (w8 ca qR (.ref (qB 0)) (rR11) SR) (w6 ca qP0 (.ref (qT0 0)) (.ref (qE0 0)) SP0) (w7 ca qT0 ST0) (w1 ca qE0 SE0) (w6 ca qP1 (.ref (qT1 0)) (rP11) SP1) (w7 ca qT1 ST1)) rfl hl.1 (Nat.le_of_ble_eq_true rfl) dX11_table_35 (fun H locs hP hD hS => ?_)
      have hP := tc_Pm (pm_7 (w11 ca qC (rC3) (.ref (qB 0)) (.ref (qR 0)) (rC7) (.ref (qP0 0)) (.ref (qP1 0)) (rC12) (rC14) (rC15) (rC17) (rC18) (rC19) (si SC 5 (0 : Int32))) (wLB ca qB SB) (w8 ca qR (.ref (qB 0)) (.ref (qT1 0)) z2.2.1) (w6 ca qP0 (.ref (qT0 0)) (.ref (qE0 0)) SP0) (w7 ca qT0 ST0) (w1 ca qE0 SE0) (w6 ca qP1 (.ref (qT1 0)) (rP11) SP1) (w7 ca qT1 z2.2.2)) hP
      have hD := tc_Dm (pm_7 (w11 ca qC (rC3) (.ref (qB 0)) (.ref (qR 0)) (rC7) (.ref (qP0 0)) (.ref (qP1 0)) (rC12) (rC14) (rC15) (rC17) (rC18) (rC19) (si SC 5 (0 : Int32))) (wLB ca qB SB) (w8 ca qR (.ref (qB 0)) (.ref (qT1 0)) z2.2.1) (w6 ca qP0 (.ref (qT0 0)) (.ref (qE0 0)) SP0) (w7 ca qT0 ST0) (w1 ca qE0 SE0) (w6 ca qP1 (.ref (qT1 0)) (rP11) SP1) (w7 ca qT1 z2.2.2)) hD
      refine lv_istore_n (lv' := [(2, .int (z2.1)), (0, .ref (qC 0)), (1, .int (a1))]) hx hb dX11_table_38 rfl hl (by decide) rfl (fun ls hl => ?_)
      refine lv_aload_n hx hb dX11_table_39 rfl (lv_at hl 1 rfl) ?_
      refine lv_aload_n hx hb dX11_table_40 rfl (lv_at hl 1 rfl) ?_
      refine va_get (D := (dC, dI)) (ci := 11) (v := .ref (qR 0)) (C := RX11) (T := TX11) (N := 20) hx hb hts i_X11 hown hK hP 0 rfl rfl 6 (by decide) (hts _ wf_X11_25) (fun _ h9 => h9) rfl dX11_table_41 ?_
      obtain ⟨z3, hg, hf⟩ := tc_bi hf
      refine tc_vVp (As := [.ref (qR 0)]) (rest := []) (b := qC 0) (wc := w11 ca qC (rC3) (.ref (qB 0)) (.ref (qR 0)) (rC7) (.ref (qP0 0)) (.ref (qP1 0)) (rC12) (rC14) (rC15) (rC17) (rC18) (rC19) (si SC 5 (0 : Int32)) ++ w8 ca qR (.ref (qB 0)) (.ref (qT1 0)) z2.2.1) (wr := wLB ca qB SB ++ w6 ca qP0 (.ref (qT0 0)) (.ref (qE0 0)) SP0 ++ w7 ca qT0 ST0 ++ w1 ca qE0 SE0 ++ w6 ca qP1 (.ref (qT1 0)) (rP11) SP1 ++ w7 ca qT1 z2.2.2) X hP hD hS (mX11_keepFaultT hg) okX11_keepFault wl_X11_160 wi_X11_keepFault ws_X11_X11_keepFault_X11_keepFault ⟨rfl, rfl, Nat.le_of_ble_eq_true rfl, Nat.le_of_ble_eq_true rfl⟩ 11 0 rfl rfl (pm_8 (w11 ca qC (rC3) (.ref (qB 0)) (.ref (qR 0)) (rC7) (.ref (qP0 0)) (.ref (qP1 0)) (rC12) (rC14) (rC15) (rC17) (rC18) (rC19) (si SC 5 (0 : Int32))) (wLB ca qB SB) (w8 ca qR (.ref (qB 0)) (.ref (qT1 0)) z2.2.1) (w6 ca qP0 (.ref (qT0 0)) (.ref (qE0 0)) SP0) (w7 ca qT0 ST0) (w1 ca qE0 SE0) (w6 ca qP1 (.ref (qT1 0)) (rP11) SP1) (w7 ca qT1 z2.2.2)) rfl hl.1 (Nat.le_of_ble_eq_true rfl) dX11_table_44 (fun H locs hP hD hS => ?_)
      have hP := tc_Pm (pm_9 (w11 ca qC (rC3) (.ref (qB 0)) (.ref (qR 0)) (rC7) (.ref (qP0 0)) (.ref (qP1 0)) (rC12) (rC14) (rC15) (rC17) (rC18) (rC19) z3) (wLB ca qB SB) (w8 ca qR (.ref (qB 0)) (.ref (qT1 0)) z2.2.1) (w6 ca qP0 (.ref (qT0 0)) (.ref (qE0 0)) SP0) (w7 ca qT0 ST0) (w1 ca qE0 SE0) (w6 ca qP1 (.ref (qT1 0)) (rP11) SP1) (w7 ca qT1 z2.2.2)) hP
      have hD := tc_Dm (pm_9 (w11 ca qC (rC3) (.ref (qB 0)) (.ref (qR 0)) (rC7) (.ref (qP0 0)) (.ref (qP1 0)) (rC12) (rC14) (rC15) (rC17) (rC18) (rC19) z3) (wLB ca qB SB) (w8 ca qR (.ref (qB 0)) (.ref (qT1 0)) z2.2.1) (w6 ca qP0 (.ref (qT0 0)) (.ref (qE0 0)) SP0) (w7 ca qT0 ST0) (w1 ca qE0 SE0) (w6 ca qP1 (.ref (qT1 0)) (rP11) SP1) (w7 ca qT1 z2.2.2)) hD
      refine lv_iload_n hx hb dX11_table_47 rfl (lv_at hl 0 rfl) ?_
      refine lv_if_ne (tgt := 58) hx hb dX11_table_48 (by decide) (fun hc => ?_) (fun hc => ?_)
      · have hf := tc_neg hc hf
        refine lv_aload_n hx hb dX11_table_58 rfl (lv_at hl 1 rfl) ?_
        refine va_get (D := (dC, dI)) (ci := 11) (v := .ref (qP0 0)) (C := RX11) (T := TX11) (N := 20) hx hb hts i_X11 hown hK hP 0 rfl rfl 10 (by decide) (hts _ wf_X11_39) (fun _ h9 => h9) rfl dX11_table_59 ?_
        refine va_get (D := (dC, dI)) (ci := 6) (v := .ref (qT0 0)) (C := RX6) (T := TX6) (N := 2) hx hb hts i_X6 hown hK hP 3 rfl rfl 0 (by decide) (hts _ wf_X11_152) (fun _ h9 => h9) rfl dX11_table_62 ?_
        refine lv_aload_n hx hb dX11_table_65 rfl (lv_at hl 1 rfl) ?_
        refine va_get (D := (dC, dI)) (ci := 11) (v := .ref (qP1 0)) (C := RX11) (T := TX11) (N := 20) hx hb hts i_X11 hown hK hP 0 rfl rfl 11 (by decide) (hts _ wf_X11_43) (fun _ h9 => h9) rfl dX11_table_66 ?_
        refine va_get (D := (dC, dI)) (ci := 6) (v := .ref (qT1 0)) (C := RX6) (T := TX6) (N := 2) hx hb hts i_X6 hown hK hP 21 rfl rfl 0 (by decide) (hts _ wf_X11_152) (fun _ h9 => h9) rfl dX11_table_69 ?_
        obtain ⟨z4, hg, hf⟩ := tc_bi hf
        refine tc_vVp (As := [.ref (qT1 0)]) (rest := []) (b := qT0 0) (wc := w7 ca qT0 ST0 ++ w7 ca qT1 z2.2.2) (wr := w11 ca qC (rC3) (.ref (qB 0)) (.ref (qR 0)) (rC7) (.ref (qP0 0)) (.ref (qP1 0)) (rC12) (rC14) (rC15) (rC17) (rC18) (rC19) z3 ++ wLB ca qB SB ++ w8 ca qR (.ref (qB 0)) (.ref (qT1 0)) z2.2.1 ++ w6 ca qP0 (.ref (qT0 0)) (.ref (qE0 0)) SP0 ++ w1 ca qE0 SE0 ++ w6 ca qP1 (.ref (qT1 0)) (rP11) SP1) X hP hD hS (mX7_copyFrom hg) okX7_copyFrom wl_X11_164 wi_X7_copyFrom ws_X7_X7_copyFrom_X7_copyFrom ⟨rfl, rfl, Nat.le_of_ble_eq_true rfl, Nat.le_of_ble_eq_true rfl⟩ 7 0 rfl rfl (pm_10 (w11 ca qC (rC3) (.ref (qB 0)) (.ref (qR 0)) (rC7) (.ref (qP0 0)) (.ref (qP1 0)) (rC12) (rC14) (rC15) (rC17) (rC18) (rC19) z3) (wLB ca qB SB) (w8 ca qR (.ref (qB 0)) (.ref (qT1 0)) z2.2.1) (w6 ca qP0 (.ref (qT0 0)) (.ref (qE0 0)) SP0) (w7 ca qT0 ST0) (w1 ca qE0 SE0) (w6 ca qP1 (.ref (qT1 0)) (rP11) SP1) (w7 ca qT1 z2.2.2)) rfl hl.1 (Nat.le_of_ble_eq_true rfl) dX11_table_72 (fun H locs hP hD hS => ?_)
        have hP := tc_Pm (pm_11 (w11 ca qC (rC3) (.ref (qB 0)) (.ref (qR 0)) (rC7) (.ref (qP0 0)) (.ref (qP1 0)) (rC12) (rC14) (rC15) (rC17) (rC18) (rC19) z3) (wLB ca qB SB) (w8 ca qR (.ref (qB 0)) (.ref (qT1 0)) z2.2.1) (w6 ca qP0 (.ref (qT0 0)) (.ref (qE0 0)) SP0) (w7 ca qT0 z4) (w1 ca qE0 SE0) (w6 ca qP1 (.ref (qT1 0)) (rP11) SP1) (w7 ca qT1 z2.2.2)) hP
        have hD := tc_Dm (pm_11 (w11 ca qC (rC3) (.ref (qB 0)) (.ref (qR 0)) (rC7) (.ref (qP0 0)) (.ref (qP1 0)) (rC12) (rC14) (rC15) (rC17) (rC18) (rC19) z3) (wLB ca qB SB) (w8 ca qR (.ref (qB 0)) (.ref (qT1 0)) z2.2.1) (w6 ca qP0 (.ref (qT0 0)) (.ref (qE0 0)) SP0) (w7 ca qT0 z4) (w1 ca qE0 SE0) (w6 ca qP1 (.ref (qT1 0)) (rP11) SP1) (w7 ca qT1 z2.2.2)) hD
        refine lv_aload_n hx hb dX11_table_75 rfl (lv_at hl 1 rfl) ?_
        refine va_get (D := (dC, dI)) (ci := 11) (v := .ref (qP0 0)) (C := RX11) (T := TX11) (N := 20) hx hb hts i_X11 hown hK hP 0 rfl rfl 10 (by decide) (hts _ wf_X11_39) (fun _ h9 => h9) rfl dX11_table_76 ?_
        refine va_get (D := (dC, dI)) (ci := 6) (v := .ref (qE0 0)) (C := RX6) (T := TX6) (N := 2) hx hb hts i_X6 hown hK hP 3 rfl rfl 1 (by decide) (hts _ wf_X11_170) (fun _ h9 => h9) rfl dX11_table_79 ?_
        obtain ⟨z5, hg, hf⟩ := tc_bi hf
        refine tc_vVp (As := []) (rest := []) (b := qE0 0) (wc := w1 ca qE0 SE0) (wr := w11 ca qC (rC3) (.ref (qB 0)) (.ref (qR 0)) (rC7) (.ref (qP0 0)) (.ref (qP1 0)) (rC12) (rC14) (rC15) (rC17) (rC18) (rC19) z3 ++ wLB ca qB SB ++ w8 ca qR (.ref (qB 0)) (.ref (qT1 0)) z2.2.1 ++ w6 ca qP0 (.ref (qT0 0)) (.ref (qE0 0)) SP0 ++ w7 ca qT0 z4 ++ w6 ca qP1 (.ref (qT1 0)) (rP11) SP1 ++ w7 ca qT1 z2.2.2) X hP hD hS (mX1_clear hg) okX1_clear wl_X11_174 wi_X1_clear ws_X1_X1_clear_X1_clear ⟨rfl, rfl, Nat.le_of_ble_eq_true rfl, Nat.le_of_ble_eq_true rfl⟩ 1 0 rfl rfl (pm_12 (w11 ca qC (rC3) (.ref (qB 0)) (.ref (qR 0)) (rC7) (.ref (qP0 0)) (.ref (qP1 0)) (rC12) (rC14) (rC15) (rC17) (rC18) (rC19) z3) (wLB ca qB SB) (w8 ca qR (.ref (qB 0)) (.ref (qT1 0)) z2.2.1) (w6 ca qP0 (.ref (qT0 0)) (.ref (qE0 0)) SP0) (w7 ca qT0 z4) (w1 ca qE0 SE0) (w6 ca qP1 (.ref (qT1 0)) (rP11) SP1) (w7 ca qT1 z2.2.2)) rfl hl.1 (Nat.le_of_ble_eq_true rfl) dX11_table_82 (fun H locs hP hD hS => ?_)
        have hP := tc_Pm (pm_13 (w11 ca qC (rC3) (.ref (qB 0)) (.ref (qR 0)) (rC7) (.ref (qP0 0)) (.ref (qP1 0)) (rC12) (rC14) (rC15) (rC17) (rC18) (rC19) z3) (wLB ca qB SB) (w8 ca qR (.ref (qB 0)) (.ref (qT1 0)) z2.2.1) (w6 ca qP0 (.ref (qT0 0)) (.ref (qE0 0)) SP0) (w7 ca qT0 z4) (w1 ca qE0 z5) (w6 ca qP1 (.ref (qT1 0)) (rP11) SP1) (w7 ca qT1 z2.2.2)) hP
        have hD := tc_Dm (pm_13 (w11 ca qC (rC3) (.ref (qB 0)) (.ref (qR 0)) (rC7) (.ref (qP0 0)) (.ref (qP1 0)) (rC12) (rC14) (rC15) (rC17) (rC18) (rC19) z3) (wLB ca qB SB) (w8 ca qR (.ref (qB 0)) (.ref (qT1 0)) z2.2.1) (w6 ca qP0 (.ref (qT0 0)) (.ref (qE0 0)) SP0) (w7 ca qT0 z4) (w1 ca qE0 z5) (w6 ca qP1 (.ref (qT1 0)) (rP11) SP1) (w7 ca qT1 z2.2.2)) hD
        refine lv_aload_n hx hb dX11_table_85 rfl (lv_at hl 1 rfl) ?_
        refine lv_aload_n hx hb dX11_table_86 rfl (lv_at hl 1 rfl) ?_
        refine va_get (D := (dC, dI)) (ci := 11) (v := .ref (qP0 0)) (C := RX11) (T := TX11) (N := 20) hx hb hts i_X11 hown hK hP 0 rfl rfl 10 (by decide) (hts _ wf_X11_39) (fun _ h9 => h9) rfl dX11_table_87 ?_
        refine va_get (D := (dC, dI)) (ci := 6) (v := .ref (qT0 0)) (C := RX6) (T := TX6) (N := 2) hx hb hts i_X6 hown hK hP 3 rfl rfl 0 (by decide) (hts _ wf_X11_152) (fun _ h9 => h9) rfl dX11_table_90 ?_
        refine va_get (D := (dC, dI)) (ci := 7) (v := .int (gi z4 8)) (C := RX7) (T := TX7) (N := 18) hx hb hts i_X7 hown hK hP 4 rfl rfl 8 (by decide) (hts _ wf_X11_179) (fun _ h9 => h9) rfl dX11_table_93 ?_
        obtain ⟨z6, hg, hf⟩ := tc_bi hf
        refine tc_iVp (As := [.int (gi z4 8)]) (rest := []) (b := qC 0) (wc := w11 ca qC (rC3) (.ref (qB 0)) (.ref (qR 0)) (rC7) (.ref (qP0 0)) (.ref (qP1 0)) (rC12) (rC14) (rC15) (rC17) (rC18) (rC19) z3) (wr := wLB ca qB SB ++ w8 ca qR (.ref (qB 0)) (.ref (qT1 0)) z2.2.1 ++ w6 ca qP0 (.ref (qT0 0)) (.ref (qE0 0)) SP0 ++ w7 ca qT0 z4 ++ w1 ca qE0 z5 ++ w6 ca qP1 (.ref (qT1 0)) (rP11) SP1 ++ w7 ca qT1 z2.2.2) X hP hD hS (mX11_answer hg) okX11_answer wl_X11_182 wi_X11_answer ws_X11_X11_answer_X11_answer ⟨rfl, rfl, Nat.le_of_ble_eq_true rfl, Nat.le_of_ble_eq_true rfl⟩ 11 0 rfl rfl (pm_4 (w11 ca qC (rC3) (.ref (qB 0)) (.ref (qR 0)) (rC7) (.ref (qP0 0)) (.ref (qP1 0)) (rC12) (rC14) (rC15) (rC17) (rC18) (rC19) z3) (wLB ca qB SB) (w8 ca qR (.ref (qB 0)) (.ref (qT1 0)) z2.2.1) (w6 ca qP0 (.ref (qT0 0)) (.ref (qE0 0)) SP0) (w7 ca qT0 z4) (w1 ca qE0 z5) (w6 ca qP1 (.ref (qT1 0)) (rP11) SP1) (w7 ca qT1 z2.2.2)) rfl hl.1 (Nat.le_of_ble_eq_true rfl) dX11_table_96 (fun H locs hP hD hS => ?_)
        have hP := tc_Pm (pm_5 (w11 ca qC (rC3) (.ref (qB 0)) (.ref (qR 0)) (rC7) (.ref (qP0 0)) (.ref (qP1 0)) (rC12) (rC14) (rC15) (rC17) (rC18) (rC19) z6.2) (wLB ca qB SB) (w8 ca qR (.ref (qB 0)) (.ref (qT1 0)) z2.2.1) (w6 ca qP0 (.ref (qT0 0)) (.ref (qE0 0)) SP0) (w7 ca qT0 z4) (w1 ca qE0 z5) (w6 ca qP1 (.ref (qT1 0)) (rP11) SP1) (w7 ca qT1 z2.2.2)) hP
        have hD := tc_Dm (pm_5 (w11 ca qC (rC3) (.ref (qB 0)) (.ref (qR 0)) (rC7) (.ref (qP0 0)) (.ref (qP1 0)) (rC12) (rC14) (rC15) (rC17) (rC18) (rC19) z6.2) (wLB ca qB SB) (w8 ca qR (.ref (qB 0)) (.ref (qT1 0)) z2.2.1) (w6 ca qP0 (.ref (qT0 0)) (.ref (qE0 0)) SP0) (w7 ca qT0 z4) (w1 ca qE0 z5) (w6 ca qP1 (.ref (qT1 0)) (rP11) SP1) (w7 ca qT1 z2.2.2)) hD
        obtain rfl := Option.some.inj hf
        exact tc_rix X hP hD hS rfl dX11_table_99 (fun _ => .ref (qT1 0)) rfl rfl
      · have hf := tc_pos hc hf
        refine lv_aload_n hx hb dX11_table_51 rfl (lv_at hl 1 rfl) ?_
        refine lv_bipush (v := (10 : Int32)) hx hb dX11_table_52 (by decide) ?_
        obtain ⟨z7, hg, hf⟩ := tc_bi hf
        refine tc_iVp (As := [.int ((10 : Int32))]) (rest := []) (b := qC 0) (wc := w11 ca qC (rC3) (.ref (qB 0)) (.ref (qR 0)) (rC7) (.ref (qP0 0)) (.ref (qP1 0)) (rC12) (rC14) (rC15) (rC17) (rC18) (rC19) z3) (wr := wLB ca qB SB ++ w8 ca qR (.ref (qB 0)) (.ref (qT1 0)) z2.2.1 ++ w6 ca qP0 (.ref (qT0 0)) (.ref (qE0 0)) SP0 ++ w7 ca qT0 ST0 ++ w1 ca qE0 SE0 ++ w6 ca qP1 (.ref (qT1 0)) (rP11) SP1 ++ w7 ca qT1 z2.2.2) X hP hD hS (mX11_refuse hg) okX11_refuse wl_X11_121 wi_X11_refuse ws_X11_X11_refuse_X11_refuse ⟨rfl, rfl, Nat.le_of_ble_eq_true rfl, Nat.le_of_ble_eq_true rfl⟩ 11 0 rfl rfl (pm_4 (w11 ca qC (rC3) (.ref (qB 0)) (.ref (qR 0)) (rC7) (.ref (qP0 0)) (.ref (qP1 0)) (rC12) (rC14) (rC15) (rC17) (rC18) (rC19) z3) (wLB ca qB SB) (w8 ca qR (.ref (qB 0)) (.ref (qT1 0)) z2.2.1) (w6 ca qP0 (.ref (qT0 0)) (.ref (qE0 0)) SP0) (w7 ca qT0 ST0) (w1 ca qE0 SE0) (w6 ca qP1 (.ref (qT1 0)) (rP11) SP1) (w7 ca qT1 z2.2.2)) rfl hl.1 (Nat.le_of_ble_eq_true rfl) dX11_table_54 (fun H locs hP hD hS => ?_)
        have hP := tc_Pm (pm_5 (w11 ca qC (rC3) (.ref (qB 0)) (.ref (qR 0)) (rC7) (.ref (qP0 0)) (.ref (qP1 0)) (rC12) (rC14) (rC15) (rC17) (rC18) (rC19) z7.2) (wLB ca qB SB) (w8 ca qR (.ref (qB 0)) (.ref (qT1 0)) z2.2.1) (w6 ca qP0 (.ref (qT0 0)) (.ref (qE0 0)) SP0) (w7 ca qT0 ST0) (w1 ca qE0 SE0) (w6 ca qP1 (.ref (qT1 0)) (rP11) SP1) (w7 ca qT1 z2.2.2)) hP
        have hD := tc_Dm (pm_5 (w11 ca qC (rC3) (.ref (qB 0)) (.ref (qR 0)) (rC7) (.ref (qP0 0)) (.ref (qP1 0)) (rC12) (rC14) (rC15) (rC17) (rC18) (rC19) z7.2) (wLB ca qB SB) (w8 ca qR (.ref (qB 0)) (.ref (qT1 0)) z2.2.1) (w6 ca qP0 (.ref (qT0 0)) (.ref (qE0 0)) SP0) (w7 ca qT0 ST0) (w1 ca qE0 SE0) (w6 ca qP1 (.ref (qT1 0)) (rP11) SP1) (w7 ca qT1 z2.2.2)) hD
        obtain rfl := Option.some.inj hf
        exact tc_rix X hP hD hS rfl dX11_table_57 (fun _ => .ref (qT1 0)) rfl rfl
    · have hf := tc_neg hc hf
      exact tX11_table_12 X z SB SP0 SP1 SC SR ST0 SE0 ST1 hf _ _ _ hP hD hS (lv_sub hl [0] rfl)
theorem pwm27_0_5 (ca : Nat → ClassId) (q0 q1 q2 q3 q4 q5 q6 q7 : Nat → Nat) (r0_3 r0_4 r0_6 r0_7 r0_10 r0_11 r0_12 r0_14 r0_15 r0_17 r0_18 r0_19 r2_0 r2_11 r2_12 r3_0 r3_1 r6_0 r6_1 : Value) (S0 S1 S2 S3 S4 S5 S6 S7 : ms_T) (v : Int32) : (w11 ca q0 r0_3 r0_4 r0_6 r0_7 r0_10 r0_11 r0_12 r0_14 r0_15 r0_17 r0_18 r0_19 S0 ++ wLB ca q1 S1 ++ w2 ca q2 r2_0 r2_11 r2_12 S2 ++ w6 ca q3 r3_0 r3_1 S3 ++ w7 ca q4 S4 ++ w1 ca q5 S5 ++ w6 ca q6 r6_0 r6_1 S6 ++ w1 ca q7 S7 : va_W).set 0 (q0 0, .inr (11, List.set (.int (gi S0 0) :: .long (gl S0 1) :: .long (gl S0 2) :: r0_3 :: r0_4 :: .int (gi S0 5) :: r0_6 :: r0_7 :: .int (gi S0 8) :: .int (gi S0 9) :: r0_10 :: r0_11 :: r0_12 :: .int (gi S0 13) :: r0_14 :: r0_15 :: .int (gi S0 16) :: r0_17 :: r0_18 :: r0_19 :: []) 5 (.int v))) = w11 ca q0 r0_3 r0_4 r0_6 r0_7 r0_10 r0_11 r0_12 r0_14 r0_15 r0_17 r0_18 r0_19 (si S0 5 v) ++ wLB ca q1 S1 ++ w2 ca q2 r2_0 r2_11 r2_12 S2 ++ w6 ca q3 r3_0 r3_1 S3 ++ w7 ca q4 S4 ++ w1 ca q5 S5 ++ w6 ca q6 r6_0 r6_1 S6 ++ w1 ca q7 S7 := rfl
def fX11_evenings_19  (SB : ms_T) (SP0 : ms_T) (ST0 : ms_T) (SP1 : ms_T)  (SC : ms_T) (SG : ms_T) (SE0 : ms_T) (SE1 : ms_T) : Option (Int32 × ms_T × ms_T × ms_T × ms_T) :=
  (fX11_refuse SC (5 : Int32)).bind fun z1 =>
  some (z1.1, z1.2, SG, SE0, SE1)
def fX11_evenings  (SC : ms_T) (SB : ms_T) (SG : ms_T) (SP0 : ms_T) (ST0 : ms_T) (SE0 : ms_T) (SP1 : ms_T) (SE1 : ms_T) (a1 : Int32) : Option (Int32 × ms_T × ms_T × ms_T × ms_T) :=
  if a1 < 0 then
    fX11_evenings_19 SB SP0 ST0 SP1 SC SG SE0 SE1
  else
    if (gi SC 5) < a1 then
      fX11_evenings_19 SB SP0 ST0 SP1 SC SG SE0 SE1
    else
      if a1 ≤ (300 : Int32) then
        (fX2_readEvenings SG SB ST0 SE1 a1).bind fun z2 =>
        (fX11_keepFaultE (si SC 5 (0 : Int32)) z2.2.1).bind fun z3 =>
        if z2.1 = 0 then
          (fX11_refuse z3 (10 : Int32)).bind fun z6 =>
          some (z6.1, z6.2, z2.2.1, SE0, z2.2.2)
        else
          (fX1_copyFrom SE0 z2.2.2).bind fun z4 =>
          (fX11_answer z3 (gi z4 1)).bind fun z5 =>
          some (z5.1, z5.2, z2.2.1, z4, z2.2.2)
      else
        fX11_evenings_19 SB SP0 ST0 SP1 SC SG SE0 SE1
abbrev rmX11_evenings : Room := { frames := 14, cells := 0, slots := 0, locals := 536 }
theorem okX11_evenings : tc_ok yX11_evenings cX11_evenings 3 (some .int) 1 := ⟨wc_X11_evenings, wn_X11, by decide, by decide, by decide +kernel⟩
set_option maxRecDepth 20000 in
theorem tX11_evenings_19 {qC : Nat → Nat} {qB : Nat → Nat} {qG : Nat → Nat} {qP0 : Nat → Nat} {qT0 : Nat → Nat} {qE0 : Nat → Nat} {qP1 : Nat → Nat} {qE1 : Nat → Nat} {rC3 : Value} {rC6 : Value} {rC12 : Value} {rC14 : Value} {rC15 : Value} {rC17 : Value} {rC18 : Value} {rC19 : Value} {rG11 : Value} {rG12 : Value} {rP10 : Value} (X : tc_X dC dI ca A RX11 cX11_evenings 3 (some .int) p s m args meth c) (z : Int32 × ms_T × ms_T × ms_T × ms_T)  (SB : ms_T) (SP0 : ms_T) (ST0 : ms_T) (SP1 : ms_T)   : ∀ (SC : ms_T) (SG : ms_T) (SE0 : ms_T) (SE1 : ms_T), fX11_evenings_19 SB SP0 ST0 SP1 SC SG SE0 SE1 = some z → ∀ (H : Heap) (locs : List Loc) (ls : Array Slot), va_P (dC, dI) classes (w11 ca qC (rC3) (.ref (qB 0)) (rC6) (.ref (qG 0)) (.ref (qP0 0)) (.ref (qP1 0)) (rC12) (rC14) (rC15) (rC17) (rC18) (rC19) SC ++ wLB ca qB SB ++ w2 ca qG (.ref (qB 0)) (rG11) (rG12) SG ++ w6 ca qP0 (.ref (qT0 0)) (.ref (qE0 0)) SP0 ++ w7 ca qT0 ST0 ++ w1 ca qE0 SE0 ++ w6 ca qP1 (rP10) (.ref (qE1 0)) SP1 ++ w1 ca qE1 SE1) H → va_D A (w11 ca qC (rC3) (.ref (qB 0)) (rC6) (.ref (qG 0)) (.ref (qP0 0)) (.ref (qP1 0)) (rC12) (rC14) (rC15) (rC17) (rC18) (rC19) SC ++ wLB ca qB SB ++ w2 ca qG (.ref (qB 0)) (rG11) (rG12) SG ++ w6 ca qP0 (.ref (qT0 0)) (.ref (qE0 0)) SP0 ++ w7 ca qT0 ST0 ++ w1 ca qE0 SE0 ++ w6 ca qP1 (rP10) (.ref (qE1 0)) SP1 ++ w1 ca qE1 SE1) → va_S A s.heap H locs → lv_has ls 3 [(0, .ref (qC 0))] → W p l e rmX11_evenings s m args below meth c H locs 0 0 (MQ below (tc_QIx dC dI ca A (fun u => (w11 ca qC (rC3) (.ref (qB 0)) (rC6) (.ref (qG 0)) (.ref (qP0 0)) (.ref (qP1 0)) (rC12) (rC14) (rC15) (rC17) (rC18) (rC19) z.2.1 ++ wLB ca qB SB ++ w2 ca qG (.ref (qB 0)) (u 0) (u 1) z.2.2.1 ++ w6 ca qP0 (.ref (qT0 0)) (.ref (qE0 0)) SP0 ++ w7 ca qT0 ST0 ++ w1 ca qE0 z.2.2.2.1 ++ w6 ca qP1 (rP10) (.ref (qE1 0)) SP1 ++ w1 ca qE1 z.2.2.2.2)) (z.1)) args s 0 0 A) (F0 m 19 ls []) := by
  obtain ⟨hx, hb, hr, hml, hown, hts, hlk, hK, hA, hG⟩ := id X
  intro SC SG SE0 SE1 hf H locs ls hP hD hS hl
  unfold fX11_evenings_19 at hf
  refine lv_aload_n hx hb dX11_evenings_19 rfl (lv_at hl 0 rfl) ?_
  refine lv_iconst (v := (5 : Int32)) hx hb dX11_evenings_20 (by decide) ?_
  obtain ⟨z1, hg, hf⟩ := tc_bi hf
  refine tc_iV (As := [.int ((5 : Int32))]) (rest := []) (b := qC 0) (wc := w11 ca qC (rC3) (.ref (qB 0)) (rC6) (.ref (qG 0)) (.ref (qP0 0)) (.ref (qP1 0)) (rC12) (rC14) (rC15) (rC17) (rC18) (rC19) SC) (wr := wLB ca qB SB ++ w2 ca qG (.ref (qB 0)) (rG11) (rG12) SG ++ w6 ca qP0 (.ref (qT0 0)) (.ref (qE0 0)) SP0 ++ w7 ca qT0 ST0 ++ w1 ca qE0 SE0 ++ w6 ca qP1 (rP10) (.ref (qE1 0)) SP1 ++ w1 ca qE1 SE1) X hP hD hS (mX11_refuse hg) okX11_refuse wl_X11_121 wi_X11_refuse ws_X11_X11_refuse_X11_refuse ⟨rfl, rfl, Nat.le_of_ble_eq_true rfl, Nat.le_of_ble_eq_true rfl⟩ 11 0 rfl rfl [0] [1, 2, 3, 4, 5, 6, 7, 8, 9, 10, 11, 12, 13, 14, 15, 16, 17, 18, 19, 20, 21, 22, 23, 24, 25, 26, 27, 28] ⟨rfl, rfl, rfl, rfl, by decide⟩ rfl hl.1 (Nat.le_of_ble_eq_true rfl) dX11_evenings_21 (fun H locs hP hD hS => ?_)
  have hP := hP.sub (ws' := (w11 ca qC (rC3) (.ref (qB 0)) (rC6) (.ref (qG 0)) (.ref (qP0 0)) (.ref (qP1 0)) (rC12) (rC14) (rC15) (rC17) (rC18) (rC19) z1.2 ++ wLB ca qB SB ++ w2 ca qG (.ref (qB 0)) (rG11) (rG12) SG ++ w6 ca qP0 (.ref (qT0 0)) (.ref (qE0 0)) SP0 ++ w7 ca qT0 ST0 ++ w1 ca qE0 SE0 ++ w6 ca qP1 (rP10) (.ref (qE1 0)) SP1 ++ w1 ca qE1 SE1)) [28, 0, 1, 2, 3, 4, 5, 6, 7, 8, 9, 10, 11, 12, 13, 14, 15, 16, 17, 18, 19, 20, 21, 22, 23, 24, 25, 26, 27] rfl
  have hD := hD.sub (ws' := (w11 ca qC (rC3) (.ref (qB 0)) (rC6) (.ref (qG 0)) (.ref (qP0 0)) (.ref (qP1 0)) (rC12) (rC14) (rC15) (rC17) (rC18) (rC19) z1.2 ++ wLB ca qB SB ++ w2 ca qG (.ref (qB 0)) (rG11) (rG12) SG ++ w6 ca qP0 (.ref (qT0 0)) (.ref (qE0 0)) SP0 ++ w7 ca qT0 ST0 ++ w1 ca qE0 SE0 ++ w6 ca qP1 (rP10) (.ref (qE1 0)) SP1 ++ w1 ca qE1 SE1)) [28, 0, 1, 2, 3, 4, 5, 6, 7, 8, 9, 10, 11, 12, 13, 14, 15, 16, 17, 18, 19, 20, 21, 22, 23, 24, 25, 26, 27] rfl rfl
  obtain rfl := Option.some.inj hf
  exact tc_rix X hP hD hS rfl dX11_evenings_24 (fun i => if i = 0 then rG11 else rG12) rfl rfl
set_option maxRecDepth 20000 in
theorem mX11_evenings {qC : Nat → Nat} {qB : Nat → Nat} {qG : Nat → Nat} {qP0 : Nat → Nat} {qT0 : Nat → Nat} {qE0 : Nat → Nat} {qP1 : Nat → Nat} {qE1 : Nat → Nat} {rC3 : Value} {rC6 : Value} {rC12 : Value} {rC14 : Value} {rC15 : Value} {rC17 : Value} {rC18 : Value} {rC19 : Value} {rG11 : Value} {rG12 : Value} {rP10 : Value} {SC : ms_T} {SB : ms_T} {SG : ms_T} {SP0 : ms_T} {ST0 : ms_T} {SE0 : ms_T} {SP1 : ms_T} {SE1 : ms_T} {a1 : Int32} {z : Int32 × ms_T × ms_T × ms_T × ms_T}  (hf : fX11_evenings SC SB SG SP0 ST0 SE0 SP1 SE1 a1 = some z) : tc_MIx l dC dI ca yX11_evenings cX11_evenings 3 (some .int) rmX11_evenings [.ref (qC 0), .int (a1)] (w11 ca qC (rC3) (.ref (qB 0)) (rC6) (.ref (qG 0)) (.ref (qP0 0)) (.ref (qP1 0)) (rC12) (rC14) (rC15) (rC17) (rC18) (rC19) SC ++ wLB ca qB SB ++ w2 ca qG (.ref (qB 0)) (rG11) (rG12) SG ++ w6 ca qP0 (.ref (qT0 0)) (.ref (qE0 0)) SP0 ++ w7 ca qT0 ST0 ++ w1 ca qE0 SE0 ++ w6 ca qP1 (rP10) (.ref (qE1 0)) SP1 ++ w1 ca qE1 SE1) (fun u => (w11 ca qC (rC3) (.ref (qB 0)) (rC6) (.ref (qG 0)) (.ref (qP0 0)) (.ref (qP1 0)) (rC12) (rC14) (rC15) (rC17) (rC18) (rC19) z.2.1 ++ wLB ca qB SB ++ w2 ca qG (.ref (qB 0)) (u 0) (u 1) z.2.2.1 ++ w6 ca qP0 (.ref (qT0 0)) (.ref (qE0 0)) SP0 ++ w7 ca qT0 ST0 ++ w1 ca qE0 z.2.2.2.1 ++ w6 ca qP1 (rP10) (.ref (qE1 0)) SP1 ++ w1 ca qE1 z.2.2.2.2)) (z.1) := by
  refine tc_metIx (own := RX11) (by decide) rfl ?_ (Nat.le_of_ble_eq_true rfl)
  intro p e s m below meth c A X hP hD hS ls hl
  obtain ⟨hx, hb, hr, hml, hown, hts, hlk, hK, hA, hG⟩ := id X
  unfold fX11_evenings at hf
  have hl : lv_has ls 3 [(0, .ref (qC 0)), (1, .int (a1))] := hl
  refine lv_iload_n hx hb dX11_evenings_0 rfl (lv_at hl 1 rfl) ?_
  refine lv_if_lt (tgt := 19) hx hb dX11_evenings_1 (by decide) (fun hc => ?_) (fun hc => ?_)
  · have hf := tc_pos hc hf
    exact tX11_evenings_19 X z SB SP0 ST0 SP1 SC SG SE0 SE1 hf _ _ _ hP hD hS (lv_sub hl [0] rfl)
  · have hf := tc_neg hc hf
    refine lv_iload_n hx hb dX11_evenings_4 rfl (lv_at hl 1 rfl) ?_
    refine lv_aload_n hx hb dX11_evenings_5 rfl (lv_at hl 0 rfl) ?_
    refine va_get (D := (dC, dI)) (ci := 11) (v := .int (gi SC 5)) (C := RX11) (T := TX11) (N := 20) hx hb hts i_X11 hown hK hP 0 rfl rfl 5 (by decide) (hts _ wf_X11_145) (fun _ h9 => h9) rfl dX11_evenings_6 ?_
    refine lv_icmp_gt (tgt := 19) hx hb dX11_evenings_9 (by decide) (fun hc => ?_) (fun hc => ?_)
    · have hf := tc_pos hc hf
      exact tX11_evenings_19 X z SB SP0 ST0 SP1 SC SG SE0 SE1 hf _ _ _ hP hD hS (lv_sub hl [0] rfl)
    · have hf := tc_neg hc hf
      refine lv_iload_n hx hb dX11_evenings_12 rfl (lv_at hl 1 rfl) ?_
      refine lv_sipush (v := (300 : Int32)) hx hb dX11_evenings_13 (by decide) ?_
      refine lv_icmp_le (tgt := 25) hx hb dX11_evenings_16 (by decide) (fun hc => ?_) (fun hc => ?_)
      · have hf := tc_pos hc hf
        refine lv_aload_n hx hb dX11_evenings_25 rfl (lv_at hl 0 rfl) ?_
        refine lv_iconst (v := (0 : Int32)) hx hb dX11_evenings_26 (by decide) ?_
        refine va_put (D := (dC, dI)) (ci := 11) (v := .int ((0 : Int32))) (ty := .int) (C := RX11) (T := TX11) (N := 20) hx hb hts i_X11 tyX11 tyX11_ok nmX11 hown hK hP hD hS 0 rfl rfl 5 (by decide) (hts _ wf_X11_145) (fun _ h9 => h9) rfl (tyX11_ok 5 (by decide)) rfl rfl (Nat.le_of_ble_eq_true rfl) dX11_evenings_27 (fun H locs hP hD hS => ?_)
        have hP := tc_eP (pwm27_0_5 ca qC qB qG qP0 qT0 qE0 qP1 qE1 (rC3) (.ref (qB 0)) (rC6) (.ref (qG 0)) (.ref (qP0 0)) (.ref (qP1 0)) (rC12) (rC14) (rC15) (rC17) (rC18) (rC19) (.ref (qB 0)) (rG11) (rG12) (.ref (qT0 0)) (.ref (qE0 0)) (rP10) (.ref (qE1 0)) SC SB SG SP0 ST0 SE0 SP1 SE1 (0 : Int32)) hP
        have hD := tc_eD (pwm27_0_5 ca qC qB qG qP0 qT0 qE0 qP1 qE1 (rC3) (.ref (qB 0)) (rC6) (.ref (qG 0)) (.ref (qP0 0)) (.ref (qP1 0)) (rC12) (rC14) (rC15) (rC17) (rC18) (rC19) (.ref (qB 0)) (rG11) (rG12) (.ref (qT0 0)) (.ref (qE0 0)) (rP10) (.ref (qE1 0)) SC SB SG SP0 ST0 SE0 SP1 SE1 (0 : Int32)) hD
        refine lv_aload_n hx hb dX11_evenings_30 rfl (lv_at hl 0 rfl) ?_
        refine va_get (D := (dC, dI)) (ci := 11) (v := .ref (qG 0)) (C := RX11) (T := TX11) (N := 20) hx hb hts i_X11 hown hK hP 0 rfl rfl 7 (by decide) (hts _ wf_X11_32) (fun _ h9 => h9) rfl dX11_evenings_31 ?_
        refine lv_iload_n hx hb dX11_evenings_34 rfl (lv_at hl 1 rfl) ?_
        refine lv_aload_n hx hb dX11_evenings_35 rfl (lv_at hl 0 rfl) ?_
        refine va_get (D := (dC, dI)) (ci := 11) (v := .ref (qP0 0)) (C := RX11) (T := TX11) (N := 20) hx hb hts i_X11 hown hK hP 0 rfl rfl 10 (by decide) (hts _ wf_X11_39) (fun _ h9 => h9) rfl dX11_evenings_36 ?_
        refine va_get (D := (dC, dI)) (ci := 6) (v := .ref (qT0 0)) (C := RX6) (T := TX6) (N := 2) hx hb hts i_X6 hown hK hP 4 rfl rfl 0 (by decide) (hts _ wf_X11_152) (fun _ h9 => h9) rfl dX11_evenings_39 ?_
        refine lv_aload_n hx hb dX11_evenings_42 rfl (lv_at hl 0 rfl) ?_
        refine va_get (D := (dC, dI)) (ci := 11) (v := .ref (qP1 0)) (C := RX11) (T := TX11) (N := 20) hx hb hts i_X11 hown hK hP 0 rfl rfl 11 (by decide) (hts _ wf_X11_43) (fun _ h9 => h9) rfl dX11_evenings_43 ?_
        refine va_get (D := (dC, dI)) (ci := 6) (v := .ref (qE1 0)) (C := RX6) (T := TX6) (N := 2) hx hb hts i_X6 hown hK hP 22 rfl rfl 1 (by decide) (hts _ wf_X11_170) (fun _ h9 => h9) rfl dX11_evenings_46 ?_
        obtain ⟨z2, hg, hf⟩ := tc_bi hf
        refine tc_iV (As := [.int (a1), .ref (qT0 0), .ref (qE1 0)]) (rest := []) (b := qG 0) (wc := w2 ca qG (.ref (qB 0)) (rG11) (rG12) SG ++ wLB ca qB SB ++ w7 ca qT0 ST0 ++ w1 ca qE1 SE1) (wr := w11 ca qC (rC3) (.ref (qB 0)) (rC6) (.ref (qG 0)) (.ref (qP0 0)) (.ref (qP1 0)) (rC12) (rC14) (rC15) (rC17) (rC18) (rC19) (si SC 5 (0 : Int32)) ++ w6 ca qP0 (.ref (qT0 0)) (.ref (qE0 0)) SP0 ++ w1 ca qE0 SE0 ++ w6 ca qP1 (rP10) (.ref (qE1 0)) SP1) X hP hD hS (mX2_readEvenings hg) okX2_readEvenings wl_X11_185 wi_X2_readEvenings ws_X2_X2_readEvenings_X2_readEvenings ⟨rfl, rfl, Nat.le_of_ble_eq_true rfl, Nat.le_of_ble_eq_true rfl⟩ 2 0 rfl rfl [2, 3, 1, 5, 6, 7, 8, 9, 10, 11, 12, 13, 14, 15, 23, 24, 25, 26, 27, 28] [0, 4, 16, 17, 18, 19, 20, 21, 22] ⟨rfl, rfl, rfl, rfl, by decide⟩ rfl hl.1 (Nat.le_of_ble_eq_true rfl) dX11_evenings_49 (fun H locs hP hD hS => ?_)
        have hP := hP.sub (ws' := (w11 ca qC (rC3) (.ref (qB 0)) (rC6) (.ref (qG 0)) (.ref (qP0 0)) (.ref (qP1 0)) (rC12) (rC14) (rC15) (rC17) (rC18) (rC19) (si SC 5 (0 : Int32)) ++ wLB ca qB SB ++ w2 ca qG (.ref (qB 0)) (.ref (qT0 0)) (.ref (qE1 0)) z2.2.1 ++ w6 ca qP0 (.ref (qT0 0)) (.ref (qE0 0)) SP0 ++ w7 ca qT0 ST0 ++ w1 ca qE0 SE0 ++ w6 ca qP1 (rP10) (.ref (qE1 0)) SP1 ++ w1 ca qE1 z2.2.2)) [0, 11, 9, 10, 1, 12, 13, 14, 15, 16, 17, 18, 19, 20, 21, 22, 2, 3, 4, 5, 6, 7, 8, 23, 24, 25, 26, 27, 28] rfl
        have hD := hD.sub (ws' := (w11 ca qC (rC3) (.ref (qB 0)) (rC6) (.ref (qG 0)) (.ref (qP0 0)) (.ref (qP1 0)) (rC12) (rC14) (rC15) (rC17) (rC18) (rC19) (si SC 5 (0 : Int32)) ++ wLB ca qB SB ++ w2 ca qG (.ref (qB 0)) (.ref (qT0 0)) (.ref (qE1 0)) z2.2.1 ++ w6 ca qP0 (.ref (qT0 0)) (.ref (qE0 0)) SP0 ++ w7 ca qT0 ST0 ++ w1 ca qE0 SE0 ++ w6 ca qP1 (rP10) (.ref (qE1 0)) SP1 ++ w1 ca qE1 z2.2.2)) [0, 11, 9, 10, 1, 12, 13, 14, 15, 16, 17, 18, 19, 20, 21, 22, 2, 3, 4, 5, 6, 7, 8, 23, 24, 25, 26, 27, 28] rfl rfl
        refine lv_istore_n (lv' := [(2, .int (z2.1)), (0, .ref (qC 0)), (1, .int (a1))]) hx hb dX11_evenings_52 rfl hl (by decide) rfl (fun ls hl => ?_)
        refine lv_aload_n hx hb dX11_evenings_53 rfl (lv_at hl 1 rfl) ?_
        refine lv_aload_n hx hb dX11_evenings_54 rfl (lv_at hl 1 rfl) ?_
        refine va_get (D := (dC, dI)) (ci := 11) (v := .ref (qG 0)) (C := RX11) (T := TX11) (N := 20) hx hb hts i_X11 hown hK hP 0 rfl rfl 7 (by decide) (hts _ wf_X11_32) (fun _ h9 => h9) rfl dX11_evenings_55 ?_
        obtain ⟨z3, hg, hf⟩ := tc_bi hf
        refine tc_vV (As := [.ref (qG 0)]) (rest := []) (b := qC 0) (wc := w11 ca qC (rC3) (.ref (qB 0)) (rC6) (.ref (qG 0)) (.ref (qP0 0)) (.ref (qP1 0)) (rC12) (rC14) (rC15) (rC17) (rC18) (rC19) (si SC 5 (0 : Int32)) ++ w2 ca qG (.ref (qB 0)) (.ref (qT0 0)) (.ref (qE1 0)) z2.2.1) (wr := wLB ca qB SB ++ w6 ca qP0 (.ref (qT0 0)) (.ref (qE0 0)) SP0 ++ w7 ca qT0 ST0 ++ w1 ca qE0 SE0 ++ w6 ca qP1 (rP10) (.ref (qE1 0)) SP1 ++ w1 ca qE1 z2.2.2) X hP hD hS (mX11_keepFaultE hg) okX11_keepFault wl_X11_160 wi_X11_keepFault ws_X11_X11_keepFault_X11_keepFault ⟨rfl, rfl, Nat.le_of_ble_eq_true rfl, Nat.le_of_ble_eq_true rfl⟩ 11 0 rfl rfl [0, 2, 3] [1, 4, 5, 6, 7, 8, 9, 10, 11, 12, 13, 14, 15, 16, 17, 18, 19, 20, 21, 22, 23, 24, 25, 26, 27, 28] ⟨rfl, rfl, rfl, rfl, by decide⟩ rfl hl.1 (Nat.le_of_ble_eq_true rfl) dX11_evenings_58 (fun H locs hP hD hS => ?_)
        have hP := hP.sub (ws' := (w11 ca qC (rC3) (.ref (qB 0)) (rC6) (.ref (qG 0)) (.ref (qP0 0)) (.ref (qP1 0)) (rC12) (rC14) (rC15) (rC17) (rC18) (rC19) z3 ++ wLB ca qB SB ++ w2 ca qG (.ref (qB 0)) (.ref (qT0 0)) (.ref (qE1 0)) z2.2.1 ++ w6 ca qP0 (.ref (qT0 0)) (.ref (qE0 0)) SP0 ++ w7 ca qT0 ST0 ++ w1 ca qE0 SE0 ++ w6 ca qP1 (rP10) (.ref (qE1 0)) SP1 ++ w1 ca qE1 z2.2.2)) [26, 0, 27, 28, 1, 2, 3, 4, 5, 6, 7, 8, 9, 10, 11, 12, 13, 14, 15, 16, 17, 18, 19, 20, 21, 22, 23, 24, 25] rfl
        have hD := hD.sub (ws' := (w11 ca qC (rC3) (.ref (qB 0)) (rC6) (.ref (qG 0)) (.ref (qP0 0)) (.ref (qP1 0)) (rC12) (rC14) (rC15) (rC17) (rC18) (rC19) z3 ++ wLB ca qB SB ++ w2 ca qG (.ref (qB 0)) (.ref (qT0 0)) (.ref (qE1 0)) z2.2.1 ++ w6 ca qP0 (.ref (qT0 0)) (.ref (qE0 0)) SP0 ++ w7 ca qT0 ST0 ++ w1 ca qE0 SE0 ++ w6 ca qP1 (rP10) (.ref (qE1 0)) SP1 ++ w1 ca qE1 z2.2.2)) [26, 0, 27, 28, 1, 2, 3, 4, 5, 6, 7, 8, 9, 10, 11, 12, 13, 14, 15, 16, 17, 18, 19, 20, 21, 22, 23, 24, 25] rfl rfl
        refine lv_iload_n hx hb dX11_evenings_61 rfl (lv_at hl 0 rfl) ?_
        refine lv_if_ne (tgt := 72) hx hb dX11_evenings_62 (by decide) (fun hc => ?_) (fun hc => ?_)
        · have hf := tc_neg hc hf
          refine lv_aload_n hx hb dX11_evenings_72 rfl (lv_at hl 1 rfl) ?_
          refine va_get (D := (dC, dI)) (ci := 11) (v := .ref (qP0 0)) (C := RX11) (T := TX11) (N := 20) hx hb hts i_X11 hown hK hP 0 rfl rfl 10 (by decide) (hts _ wf_X11_39) (fun _ h9 => h9) rfl dX11_evenings_73 ?_
          refine va_get (D := (dC, dI)) (ci := 6) (v := .ref (qE0 0)) (C := RX6) (T := TX6) (N := 2) hx hb hts i_X6 hown hK hP 4 rfl rfl 1 (by decide) (hts _ wf_X11_170) (fun _ h9 => h9) rfl dX11_evenings_76 ?_
          refine lv_aload_n hx hb dX11_evenings_79 rfl (lv_at hl 1 rfl) ?_
          refine va_get (D := (dC, dI)) (ci := 11) (v := .ref (qP1 0)) (C := RX11) (T := TX11) (N := 20) hx hb hts i_X11 hown hK hP 0 rfl rfl 11 (by decide) (hts _ wf_X11_43) (fun _ h9 => h9) rfl dX11_evenings_80 ?_
          refine va_get (D := (dC, dI)) (ci := 6) (v := .ref (qE1 0)) (C := RX6) (T := TX6) (N := 2) hx hb hts i_X6 hown hK hP 22 rfl rfl 1 (by decide) (hts _ wf_X11_170) (fun _ h9 => h9) rfl dX11_evenings_83 ?_
          obtain ⟨z4, hg, hf⟩ := tc_bi hf
          refine tc_vV (As := [.ref (qE1 0)]) (rest := []) (b := qE0 0) (wc := w1 ca qE0 SE0 ++ w1 ca qE1 z2.2.2) (wr := w11 ca qC (rC3) (.ref (qB 0)) (rC6) (.ref (qG 0)) (.ref (qP0 0)) (.ref (qP1 0)) (rC12) (rC14) (rC15) (rC17) (rC18) (rC19) z3 ++ wLB ca qB SB ++ w2 ca qG (.ref (qB 0)) (.ref (qT0 0)) (.ref (qE1 0)) z2.2.1 ++ w6 ca qP0 (.ref (qT0 0)) (.ref (qE0 0)) SP0 ++ w7 ca qT0 ST0 ++ w6 ca qP1 (rP10) (.ref (qE1 0)) SP1) X hP hD hS (mX1_copyFrom hg) okX1_copyFrom wl_X11_189 wi_X1_copyFrom ws_X1_X1_copyFrom_X1_copyFrom ⟨rfl, rfl, Nat.le_of_ble_eq_true rfl, Nat.le_of_ble_eq_true rfl⟩ 1 0 rfl rfl [16, 17, 18, 19, 20, 21, 23, 24, 25, 26, 27, 28] [0, 1, 2, 3, 4, 5, 6, 7, 8, 9, 10, 11, 12, 13, 14, 15, 22] ⟨rfl, rfl, rfl, rfl, by decide⟩ rfl hl.1 (Nat.le_of_ble_eq_true rfl) dX11_evenings_86 (fun H locs hP hD hS => ?_)
          have hP := hP.sub (ws' := (w11 ca qC (rC3) (.ref (qB 0)) (rC6) (.ref (qG 0)) (.ref (qP0 0)) (.ref (qP1 0)) (rC12) (rC14) (rC15) (rC17) (rC18) (rC19) z3 ++ wLB ca qB SB ++ w2 ca qG (.ref (qB 0)) (.ref (qT0 0)) (.ref (qE1 0)) z2.2.1 ++ w6 ca qP0 (.ref (qT0 0)) (.ref (qE0 0)) SP0 ++ w7 ca qT0 ST0 ++ w1 ca qE0 z4 ++ w6 ca qP1 (rP10) (.ref (qE1 0)) SP1 ++ w1 ca qE1 z2.2.2)) [0, 1, 2, 3, 4, 5, 6, 7, 8, 9, 10, 11, 12, 13, 14, 15, 17, 18, 19, 20, 21, 22, 16, 23, 24, 25, 26, 27, 28] rfl
          have hD := hD.sub (ws' := (w11 ca qC (rC3) (.ref (qB 0)) (rC6) (.ref (qG 0)) (.ref (qP0 0)) (.ref (qP1 0)) (rC12) (rC14) (rC15) (rC17) (rC18) (rC19) z3 ++ wLB ca qB SB ++ w2 ca qG (.ref (qB 0)) (.ref (qT0 0)) (.ref (qE1 0)) z2.2.1 ++ w6 ca qP0 (.ref (qT0 0)) (.ref (qE0 0)) SP0 ++ w7 ca qT0 ST0 ++ w1 ca qE0 z4 ++ w6 ca qP1 (rP10) (.ref (qE1 0)) SP1 ++ w1 ca qE1 z2.2.2)) [0, 1, 2, 3, 4, 5, 6, 7, 8, 9, 10, 11, 12, 13, 14, 15, 17, 18, 19, 20, 21, 22, 16, 23, 24, 25, 26, 27, 28] rfl rfl
          refine lv_aload_n hx hb dX11_evenings_89 rfl (lv_at hl 1 rfl) ?_
          refine lv_aload_n hx hb dX11_evenings_90 rfl (lv_at hl 1 rfl) ?_
          refine va_get (D := (dC, dI)) (ci := 11) (v := .ref (qP0 0)) (C := RX11) (T := TX11) (N := 20) hx hb hts i_X11 hown hK hP 0 rfl rfl 10 (by decide) (hts _ wf_X11_39) (fun _ h9 => h9) rfl dX11_evenings_91 ?_
          refine va_get (D := (dC, dI)) (ci := 6) (v := .ref (qE0 0)) (C := RX6) (T := TX6) (N := 2) hx hb hts i_X6 hown hK hP 4 rfl rfl 1 (by decide) (hts _ wf_X11_170) (fun _ h9 => h9) rfl dX11_evenings_94 ?_
          refine va_get (D := (dC, dI)) (ci := 1) (v := .int (gi z4 1)) (C := RX1) (T := TX1) (N := 8) hx hb hts i_X1 hown hK hP 16 rfl rfl 1 (by decide) (hts _ wf_X11_192) (fun _ h9 => h9) rfl dX11_evenings_97 ?_
          obtain ⟨z5, hg, hf⟩ := tc_bi hf
          refine tc_iV (As := [.int (gi z4 1)]) (rest := []) (b := qC 0) (wc := w11 ca qC (rC3) (.ref (qB 0)) (rC6) (.ref (qG 0)) (.ref (qP0 0)) (.ref (qP1 0)) (rC12) (rC14) (rC15) (rC17) (rC18) (rC19) z3) (wr := wLB ca qB SB ++ w2 ca qG (.ref (qB 0)) (.ref (qT0 0)) (.ref (qE1 0)) z2.2.1 ++ w6 ca qP0 (.ref (qT0 0)) (.ref (qE0 0)) SP0 ++ w7 ca qT0 ST0 ++ w1 ca qE0 z4 ++ w6 ca qP1 (rP10) (.ref (qE1 0)) SP1 ++ w1 ca qE1 z2.2.2) X hP hD hS (mX11_answer hg) okX11_answer wl_X11_182 wi_X11_answer ws_X11_X11_answer_X11_answer ⟨rfl, rfl, Nat.le_of_ble_eq_true rfl, Nat.le_of_ble_eq_true rfl⟩ 11 0 rfl rfl [0] [1, 2, 3, 4, 5, 6, 7, 8, 9, 10, 11, 12, 13, 14, 15, 16, 17, 18, 19, 20, 21, 22, 23, 24, 25, 26, 27, 28] ⟨rfl, rfl, rfl, rfl, by decide⟩ rfl hl.1 (Nat.le_of_ble_eq_true rfl) dX11_evenings_100 (fun H locs hP hD hS => ?_)
          have hP := hP.sub (ws' := (w11 ca qC (rC3) (.ref (qB 0)) (rC6) (.ref (qG 0)) (.ref (qP0 0)) (.ref (qP1 0)) (rC12) (rC14) (rC15) (rC17) (rC18) (rC19) z5.2 ++ wLB ca qB SB ++ w2 ca qG (.ref (qB 0)) (.ref (qT0 0)) (.ref (qE1 0)) z2.2.1 ++ w6 ca qP0 (.ref (qT0 0)) (.ref (qE0 0)) SP0 ++ w7 ca qT0 ST0 ++ w1 ca qE0 z4 ++ w6 ca qP1 (rP10) (.ref (qE1 0)) SP1 ++ w1 ca qE1 z2.2.2)) [28, 0, 1, 2, 3, 4, 5, 6, 7, 8, 9, 10, 11, 12, 13, 14, 15, 16, 17, 18, 19, 20, 21, 22, 23, 24, 25, 26, 27] rfl
          have hD := hD.sub (ws' := (w11 ca qC (rC3) (.ref (qB 0)) (rC6) (.ref (qG 0)) (.ref (qP0 0)) (.ref (qP1 0)) (rC12) (rC14) (rC15) (rC17) (rC18) (rC19) z5.2 ++ wLB ca qB SB ++ w2 ca qG (.ref (qB 0)) (.ref (qT0 0)) (.ref (qE1 0)) z2.2.1 ++ w6 ca qP0 (.ref (qT0 0)) (.ref (qE0 0)) SP0 ++ w7 ca qT0 ST0 ++ w1 ca qE0 z4 ++ w6 ca qP1 (rP10) (.ref (qE1 0)) SP1 ++ w1 ca qE1 z2.2.2)) [28, 0, 1, 2, 3, 4, 5, 6, 7, 8, 9, 10, 11, 12, 13, 14, 15, 16, 17, 18, 19, 20, 21, 22, 23, 24, 25, 26, 27] rfl rfl
          obtain rfl := Option.some.inj hf
          exact tc_rix X hP hD hS rfl dX11_evenings_103 (fun i => if i = 0 then .ref (qT0 0) else .ref (qE1 0)) rfl rfl
        · have hf := tc_pos hc hf
          refine lv_aload_n hx hb dX11_evenings_65 rfl (lv_at hl 1 rfl) ?_
          refine lv_bipush (v := (10 : Int32)) hx hb dX11_evenings_66 (by decide) ?_
          obtain ⟨z6, hg, hf⟩ := tc_bi hf
          refine tc_iV (As := [.int ((10 : Int32))]) (rest := []) (b := qC 0) (wc := w11 ca qC (rC3) (.ref (qB 0)) (rC6) (.ref (qG 0)) (.ref (qP0 0)) (.ref (qP1 0)) (rC12) (rC14) (rC15) (rC17) (rC18) (rC19) z3) (wr := wLB ca qB SB ++ w2 ca qG (.ref (qB 0)) (.ref (qT0 0)) (.ref (qE1 0)) z2.2.1 ++ w6 ca qP0 (.ref (qT0 0)) (.ref (qE0 0)) SP0 ++ w7 ca qT0 ST0 ++ w1 ca qE0 SE0 ++ w6 ca qP1 (rP10) (.ref (qE1 0)) SP1 ++ w1 ca qE1 z2.2.2) X hP hD hS (mX11_refuse hg) okX11_refuse wl_X11_121 wi_X11_refuse ws_X11_X11_refuse_X11_refuse ⟨rfl, rfl, Nat.le_of_ble_eq_true rfl, Nat.le_of_ble_eq_true rfl⟩ 11 0 rfl rfl [0] [1, 2, 3, 4, 5, 6, 7, 8, 9, 10, 11, 12, 13, 14, 15, 16, 17, 18, 19, 20, 21, 22, 23, 24, 25, 26, 27, 28] ⟨rfl, rfl, rfl, rfl, by decide⟩ rfl hl.1 (Nat.le_of_ble_eq_true rfl) dX11_evenings_68 (fun H locs hP hD hS => ?_)
          have hP := hP.sub (ws' := (w11 ca qC (rC3) (.ref (qB 0)) (rC6) (.ref (qG 0)) (.ref (qP0 0)) (.ref (qP1 0)) (rC12) (rC14) (rC15) (rC17) (rC18) (rC19) z6.2 ++ wLB ca qB SB ++ w2 ca qG (.ref (qB 0)) (.ref (qT0 0)) (.ref (qE1 0)) z2.2.1 ++ w6 ca qP0 (.ref (qT0 0)) (.ref (qE0 0)) SP0 ++ w7 ca qT0 ST0 ++ w1 ca qE0 SE0 ++ w6 ca qP1 (rP10) (.ref (qE1 0)) SP1 ++ w1 ca qE1 z2.2.2)) [28, 0, 1, 2, 3, 4, 5, 6, 7, 8, 9, 10, 11, 12, 13, 14, 15, 16, 17, 18, 19, 20, 21, 22, 23, 24, 25, 26, 27] rfl
          have hD := hD.sub (ws' := (w11 ca qC (rC3) (.ref (qB 0)) (rC6) (.ref (qG 0)) (.ref (qP0 0)) (.ref (qP1 0)) (rC12) (rC14) (rC15) (rC17) (rC18) (rC19) z6.2 ++ wLB ca qB SB ++ w2 ca qG (.ref (qB 0)) (.ref (qT0 0)) (.ref (qE1 0)) z2.2.1 ++ w6 ca qP0 (.ref (qT0 0)) (.ref (qE0 0)) SP0 ++ w7 ca qT0 ST0 ++ w1 ca qE0 SE0 ++ w6 ca qP1 (rP10) (.ref (qE1 0)) SP1 ++ w1 ca qE1 z2.2.2)) [28, 0, 1, 2, 3, 4, 5, 6, 7, 8, 9, 10, 11, 12, 13, 14, 15, 16, 17, 18, 19, 20, 21, 22, 23, 24, 25, 26, 27] rfl rfl
          obtain rfl := Option.some.inj hf
          exact tc_rix X hP hD hS rfl dX11_evenings_71 (fun i => if i = 0 then .ref (qT0 0) else .ref (qE1 0)) rfl rfl
      · have hf := tc_neg hc hf
        exact tX11_evenings_19 X z SB SP0 ST0 SP1 SC SG SE0 SE1 hf _ _ _ hP hD hS (lv_sub hl [0] rfl)
def fX11_fault  (S : ms_T) (a1 : Int32) : Option (Int32) :=
  if a1 = 0 then
    some (gi S 8)
  else
    if a1 = (1 : Int32) then
      some (gi S 9)
    else
      some ((-1 : Int32))
abbrev rmX11_fault : Room := { frames := 0, cells := 0, slots := 0, locals := 0 }
theorem okX11_fault : tc_ok yX11_fault cX11_fault 2 (some .int) 1 := ⟨wc_X11_fault, wn_X11, by decide, by decide, by decide +kernel⟩
set_option maxRecDepth 20000 in
theorem mX11_fault {q : Nat → Nat} {rC3 : Value} {rC4 : Value} {rC6 : Value} {rC7 : Value} {rC10 : Value} {rC11 : Value} {rC12 : Value} {rC14 : Value} {rC15 : Value} {rC17 : Value} {rC18 : Value} {rC19 : Value} {S : ms_T} {a1 : Int32} {z : Int32}  (hf : fX11_fault S a1 = some z) : tc_MI l dC dI ca yX11_fault cX11_fault 2 (some .int) rmX11_fault [.ref (q 0), .int (a1)] (w11 ca q (rC3) (rC4) (rC6) (rC7) (rC10) (rC11) (rC12) (rC14) (rC15) (rC17) (rC18) (rC19) S) (w11 ca q (rC3) (rC4) (rC6) (rC7) (rC10) (rC11) (rC12) (rC14) (rC15) (rC17) (rC18) (rC19) S) (z) := by
  refine tc_metI (own := RX11) (by decide) rfl ?_ (Nat.le_of_ble_eq_true rfl)
  intro p e s m below meth c A X hP hD hS ls hl
  obtain ⟨hx, hb, hr, hml, hown, hts, hlk, hK, hA, hG⟩ := id X
  unfold fX11_fault at hf
  have hl : lv_has ls 2 [(0, .ref (q 0)), (1, .int (a1))] := hl
  refine lv_iload_n hx hb dX11_fault_0 rfl (lv_at hl 1 rfl) ?_
  refine lv_if_ne (tgt := 9) hx hb dX11_fault_1 (by decide) (fun hc => ?_) (fun hc => ?_)
  · have hf := tc_neg hc hf
    refine lv_iload_n hx hb dX11_fault_9 rfl (lv_at hl 1 rfl) ?_
    refine lv_iconst (v := (1 : Int32)) hx hb dX11_fault_10 (by decide) ?_
    refine lv_icmp_ne (tgt := 21) hx hb dX11_fault_11 (by decide) (fun hc => ?_) (fun hc => ?_)
    · have hf := tc_neg hc hf
      refine lv_iconst (v := (-1 : Int32)) hx hb dX11_fault_21 (by decide) ?_
      obtain rfl := Option.some.inj hf
      exact tc_ri X hP hD hS rfl dX11_fault_22 rfl rfl
    · have hf := tc_pos hc hf
      refine lv_aload_n hx hb dX11_fault_14 rfl (lv_at hl 0 rfl) ?_
      refine va_get (D := (dC, dI)) (ci := 11) (v := .int (gi S 9)) (C := RX11) (T := TX11) (N := 20) hx hb hts i_X11 hown hK hP 0 rfl rfl 9 (by decide) (hts _ wf_X11_89) (fun _ h9 => h9) rfl dX11_fault_15 ?_
      refine lv_goto (tgt := 22) hx hb dX11_fault_18 (by decide) ?_
      obtain rfl := Option.some.inj hf
      exact tc_ri X hP hD hS rfl dX11_fault_22 rfl rfl
  · have hf := tc_pos hc hf
    refine lv_aload_n hx hb dX11_fault_4 rfl (lv_at hl 0 rfl) ?_
    refine va_get (D := (dC, dI)) (ci := 11) (v := .int (gi S 8)) (C := RX11) (T := TX11) (N := 20) hx hb hts i_X11 hown hK hP 0 rfl rfl 8 (by decide) (hts _ wf_X11_85) (fun _ h9 => h9) rfl dX11_fault_5 ?_
    obtain rfl := Option.some.inj hf
    exact tc_ri X hP hD hS rfl dX11_fault_8 rfl rfl
def fX11_many  (SC : ms_T) (SP0 : ms_T) (ST0 : ms_T) (a1 : Int32) : Option (Int32 × ms_T) :=
  if a1 = (0 : Int32) then
    (fX11_answer SC (gi ST0 1)).bind fun z2 =>
    some (z2.1, z2.2)
  else
    if a1 = (1 : Int32) then
      (fX11_answer SC (gi ST0 4)).bind fun z3 =>
      some (z3.1, z3.2)
    else
      if a1 = (2 : Int32) then
        (fX11_answer SC (gi ST0 8)).bind fun z4 =>
        some (z4.1, z4.2)
      else
        if a1 = (3 : Int32) then
          (fX11_answer SC (gi ST0 13)).bind fun z5 =>
          some (z5.1, z5.2)
        else
          if a1 = (4 : Int32) then
            (fX11_answer SC (gi ST0 0)).bind fun z6 =>
            some (z6.1, z6.2)
          else
            if a1 = (5 : Int32) then
              (fX11_answer SC (gi ST0 16)).bind fun z7 =>
              some (z7.1, z7.2)
            else
              if a1 = (6 : Int32) then
                (fX7_standing ST0).bind fun z8 =>
                (fX11_answer SC z8).bind fun z9 =>
                some (z9.1, z9.2)
              else
                if a1 = (7 : Int32) then
                  (fX11_answer SC (gi ST0 7)).bind fun z10 =>
                  some (z10.1, z10.2)
                else
                  if a1 = (8 : Int32) then
                    (fX11_answer SC (gi ST0 12)).bind fun z11 =>
                    some (z11.1, z11.2)
                  else
                    if a1 = (9 : Int32) then
                      (fX7_talkersAt ST0 (0 : Int32)).bind fun z12 =>
                      (fX11_answer SC z12).bind fun z13 =>
                      some (z13.1, z13.2)
                    else
                      (fX11_refuse SC (5 : Int32)).bind fun z1 =>
                      some (z1.1, z1.2)
abbrev rmX11_many : Room := { frames := 2, cells := 0, slots := 0, locals := 45 }
theorem okX11_many : tc_ok yX11_many cX11_many 3 (some .int) 1 := ⟨wc_X11_many, wn_X11, by decide, by decide, by decide +kernel⟩
set_option maxRecDepth 20000 in
theorem mX11_many {qC : Nat → Nat} {qP0 : Nat → Nat} {qT0 : Nat → Nat} {rC3 : Value} {rC4 : Value} {rC6 : Value} {rC7 : Value} {rC11 : Value} {rC12 : Value} {rC14 : Value} {rC15 : Value} {rC17 : Value} {rC18 : Value} {rC19 : Value} {rP01 : Value} {SC : ms_T} {SP0 : ms_T} {ST0 : ms_T} {a1 : Int32} {z : Int32 × ms_T}  (hf : fX11_many SC SP0 ST0 a1 = some z) : tc_MI l dC dI ca yX11_many cX11_many 3 (some .int) rmX11_many [.ref (qC 0), .int (a1)] (w11 ca qC (rC3) (rC4) (rC6) (rC7) (.ref (qP0 0)) (rC11) (rC12) (rC14) (rC15) (rC17) (rC18) (rC19) SC ++ w6 ca qP0 (.ref (qT0 0)) (rP01) SP0 ++ w7 ca qT0 ST0) (w11 ca qC (rC3) (rC4) (rC6) (rC7) (.ref (qP0 0)) (rC11) (rC12) (rC14) (rC15) (rC17) (rC18) (rC19) z.2 ++ w6 ca qP0 (.ref (qT0 0)) (rP01) SP0 ++ w7 ca qT0 ST0) (z.1) := by
  refine tc_metI (own := RX11) (by decide) rfl ?_ (Nat.le_of_ble_eq_true rfl)
  intro p e s m below meth c A X hP hD hS ls hl
  obtain ⟨hx, hb, hr, hml, hown, hts, hlk, hK, hA, hG⟩ := id X
  unfold fX11_many at hf
  have hl : lv_has ls 3 [(0, .ref (qC 0)), (1, .int (a1))] := hl
  refine lv_aload_n hx hb dX11_many_0 rfl (lv_at hl 0 rfl) ?_
  refine va_get (D := (dC, dI)) (ci := 11) (v := .ref (qP0 0)) (C := RX11) (T := TX11) (N := 20) hx hb hts i_X11 hown hK hP 0 rfl rfl 10 (by decide) (hts _ wf_X11_39) (fun _ h9 => h9) rfl dX11_many_1 ?_
  refine va_get (D := (dC, dI)) (ci := 6) (v := .ref (qT0 0)) (C := RX6) (T := TX6) (N := 2) hx hb hts i_X6 hown hK hP 1 rfl rfl 0 (by decide) (hts _ wf_X11_152) (fun _ h9 => h9) rfl dX11_many_4 ?_
  refine lv_astore_n (lv' := [(2, .ref (qT0 0)), (0, .ref (qC 0)), (1, .int (a1))]) hx hb dX11_many_7 rfl hl (by decide) rfl (fun ls hl => ?_)
  refine lv_iload_n hx hb dX11_many_8 rfl (lv_at hl 2 rfl) ?_
  by_cases hn0 : a1 = (0 : Int32)
  · have hf := tc_pos hn0 hf
    refine lv_tableIn (off := 55) (tgt := 64) hx hb dX11_many_9 (tc_sw (P := fun y => ¬ y.toInt < 0) hn0 (by decide)) (tc_sw (P := fun y => ¬ 9 < y.toInt) hn0 (by decide)) (tc_sw (P := fun y => (#[55, 64, 73, 82, 91, 100, 109, 118, 127, 136] : Array Int)[(y.toInt - 0).toNat]? = some 55) hn0 (by decide)) (by decide) ?_
    refine lv_aload_n hx hb dX11_many_64 rfl (lv_at hl 1 rfl) ?_
    refine lv_aload_n hx hb dX11_many_65 rfl (lv_at hl 0 rfl) ?_
    refine va_get (D := (dC, dI)) (ci := 7) (v := .int (gi ST0 1)) (C := RX7) (T := TX7) (N := 18) hx hb hts i_X7 hown hK hP 2 rfl rfl 1 (by decide) (hts _ wf_X11_195) (fun _ h9 => h9) rfl dX11_many_66 ?_
    obtain ⟨z2, hg, hf⟩ := tc_bi hf
    refine tc_iV (As := [.int (gi ST0 1)]) (rest := []) (b := qC 0) (wc := w11 ca qC (rC3) (rC4) (rC6) (rC7) (.ref (qP0 0)) (rC11) (rC12) (rC14) (rC15) (rC17) (rC18) (rC19) SC) (wr := w6 ca qP0 (.ref (qT0 0)) (rP01) SP0 ++ w7 ca qT0 ST0) X hP hD hS (mX11_answer hg) okX11_answer wl_X11_182 wi_X11_answer ws_X11_X11_answer_X11_answer ⟨rfl, rfl, Nat.le_of_ble_eq_true rfl, Nat.le_of_ble_eq_true rfl⟩ 11 0 rfl rfl [0] [1, 2, 3, 4, 5, 6, 7, 8, 9, 10, 11, 12] ⟨rfl, rfl, rfl, rfl, by decide⟩ rfl hl.1 (Nat.le_of_ble_eq_true rfl) dX11_many_69 (fun H locs hP hD hS => ?_)
    have hP := hP.sub (ws' := (w11 ca qC (rC3) (rC4) (rC6) (rC7) (.ref (qP0 0)) (rC11) (rC12) (rC14) (rC15) (rC17) (rC18) (rC19) z2.2 ++ w6 ca qP0 (.ref (qT0 0)) (rP01) SP0 ++ w7 ca qT0 ST0)) [12, 0, 1, 2, 3, 4, 5, 6, 7, 8, 9, 10, 11] rfl
    have hD := hD.sub (ws' := (w11 ca qC (rC3) (rC4) (rC6) (rC7) (.ref (qP0 0)) (rC11) (rC12) (rC14) (rC15) (rC17) (rC18) (rC19) z2.2 ++ w6 ca qP0 (.ref (qT0 0)) (rP01) SP0 ++ w7 ca qT0 ST0)) [12, 0, 1, 2, 3, 4, 5, 6, 7, 8, 9, 10, 11] rfl rfl
    obtain rfl := Option.some.inj hf
    exact tc_ri X hP hD hS rfl dX11_many_72 rfl rfl
  · have hf := tc_neg hn0 hf
    by_cases hn1 : a1 = (1 : Int32)
    · have hf := tc_pos hn1 hf
      refine lv_tableIn (off := 64) (tgt := 73) hx hb dX11_many_9 (tc_sw (P := fun y => ¬ y.toInt < 0) hn1 (by decide)) (tc_sw (P := fun y => ¬ 9 < y.toInt) hn1 (by decide)) (tc_sw (P := fun y => (#[55, 64, 73, 82, 91, 100, 109, 118, 127, 136] : Array Int)[(y.toInt - 0).toNat]? = some 64) hn1 (by decide)) (by decide) ?_
      refine lv_aload_n hx hb dX11_many_73 rfl (lv_at hl 1 rfl) ?_
      refine lv_aload_n hx hb dX11_many_74 rfl (lv_at hl 0 rfl) ?_
      refine va_get (D := (dC, dI)) (ci := 7) (v := .int (gi ST0 4)) (C := RX7) (T := TX7) (N := 18) hx hb hts i_X7 hown hK hP 2 rfl rfl 4 (by decide) (hts _ wf_X11_198) (fun _ h9 => h9) rfl dX11_many_75 ?_
      obtain ⟨z3, hg, hf⟩ := tc_bi hf
      refine tc_iV (As := [.int (gi ST0 4)]) (rest := []) (b := qC 0) (wc := w11 ca qC (rC3) (rC4) (rC6) (rC7) (.ref (qP0 0)) (rC11) (rC12) (rC14) (rC15) (rC17) (rC18) (rC19) SC) (wr := w6 ca qP0 (.ref (qT0 0)) (rP01) SP0 ++ w7 ca qT0 ST0) X hP hD hS (mX11_answer hg) okX11_answer wl_X11_182 wi_X11_answer ws_X11_X11_answer_X11_answer ⟨rfl, rfl, Nat.le_of_ble_eq_true rfl, Nat.le_of_ble_eq_true rfl⟩ 11 0 rfl rfl [0] [1, 2, 3, 4, 5, 6, 7, 8, 9, 10, 11, 12] ⟨rfl, rfl, rfl, rfl, by decide⟩ rfl hl.1 (Nat.le_of_ble_eq_true rfl) dX11_many_78 (fun H locs hP hD hS => ?_)
      have hP := hP.sub (ws' := (w11 ca qC (rC3) (rC4) (rC6) (rC7) (.ref (qP0 0)) (rC11) (rC12) (rC14) (rC15) (rC17) (rC18) (rC19) z3.2 ++ w6 ca qP0 (.ref (qT0 0)) (rP01) SP0 ++ w7 ca qT0 ST0)) [12, 0, 1, 2, 3, 4, 5, 6, 7, 8, 9, 10, 11] rfl
      have hD := hD.sub (ws' := (w11 ca qC (rC3) (rC4) (rC6) (rC7) (.ref (qP0 0)) (rC11) (rC12) (rC14) (rC15) (rC17) (rC18) (rC19) z3.2 ++ w6 ca qP0 (.ref (qT0 0)) (rP01) SP0 ++ w7 ca qT0 ST0)) [12, 0, 1, 2, 3, 4, 5, 6, 7, 8, 9, 10, 11] rfl rfl
      obtain rfl := Option.some.inj hf
      exact tc_ri X hP hD hS rfl dX11_many_81 rfl rfl
    · have hf := tc_neg hn1 hf
      by_cases hn2 : a1 = (2 : Int32)
      · have hf := tc_pos hn2 hf
        refine lv_tableIn (off := 73) (tgt := 82) hx hb dX11_many_9 (tc_sw (P := fun y => ¬ y.toInt < 0) hn2 (by decide)) (tc_sw (P := fun y => ¬ 9 < y.toInt) hn2 (by decide)) (tc_sw (P := fun y => (#[55, 64, 73, 82, 91, 100, 109, 118, 127, 136] : Array Int)[(y.toInt - 0).toNat]? = some 73) hn2 (by decide)) (by decide) ?_
        refine lv_aload_n hx hb dX11_many_82 rfl (lv_at hl 1 rfl) ?_
        refine lv_aload_n hx hb dX11_many_83 rfl (lv_at hl 0 rfl) ?_
        refine va_get (D := (dC, dI)) (ci := 7) (v := .int (gi ST0 8)) (C := RX7) (T := TX7) (N := 18) hx hb hts i_X7 hown hK hP 2 rfl rfl 8 (by decide) (hts _ wf_X11_179) (fun _ h9 => h9) rfl dX11_many_84 ?_
        obtain ⟨z4, hg, hf⟩ := tc_bi hf
        refine tc_iV (As := [.int (gi ST0 8)]) (rest := []) (b := qC 0) (wc := w11 ca qC (rC3) (rC4) (rC6) (rC7) (.ref (qP0 0)) (rC11) (rC12) (rC14) (rC15) (rC17) (rC18) (rC19) SC) (wr := w6 ca qP0 (.ref (qT0 0)) (rP01) SP0 ++ w7 ca qT0 ST0) X hP hD hS (mX11_answer hg) okX11_answer wl_X11_182 wi_X11_answer ws_X11_X11_answer_X11_answer ⟨rfl, rfl, Nat.le_of_ble_eq_true rfl, Nat.le_of_ble_eq_true rfl⟩ 11 0 rfl rfl [0] [1, 2, 3, 4, 5, 6, 7, 8, 9, 10, 11, 12] ⟨rfl, rfl, rfl, rfl, by decide⟩ rfl hl.1 (Nat.le_of_ble_eq_true rfl) dX11_many_87 (fun H locs hP hD hS => ?_)
        have hP := hP.sub (ws' := (w11 ca qC (rC3) (rC4) (rC6) (rC7) (.ref (qP0 0)) (rC11) (rC12) (rC14) (rC15) (rC17) (rC18) (rC19) z4.2 ++ w6 ca qP0 (.ref (qT0 0)) (rP01) SP0 ++ w7 ca qT0 ST0)) [12, 0, 1, 2, 3, 4, 5, 6, 7, 8, 9, 10, 11] rfl
        have hD := hD.sub (ws' := (w11 ca qC (rC3) (rC4) (rC6) (rC7) (.ref (qP0 0)) (rC11) (rC12) (rC14) (rC15) (rC17) (rC18) (rC19) z4.2 ++ w6 ca qP0 (.ref (qT0 0)) (rP01) SP0 ++ w7 ca qT0 ST0)) [12, 0, 1, 2, 3, 4, 5, 6, 7, 8, 9, 10, 11] rfl rfl
        obtain rfl := Option.some.inj hf
        exact tc_ri X hP hD hS rfl dX11_many_90 rfl rfl
      · have hf := tc_neg hn2 hf
        by_cases hn3 : a1 = (3 : Int32)
        · have hf := tc_pos hn3 hf
          refine lv_tableIn (off := 82) (tgt := 91) hx hb dX11_many_9 (tc_sw (P := fun y => ¬ y.toInt < 0) hn3 (by decide)) (tc_sw (P := fun y => ¬ 9 < y.toInt) hn3 (by decide)) (tc_sw (P := fun y => (#[55, 64, 73, 82, 91, 100, 109, 118, 127, 136] : Array Int)[(y.toInt - 0).toNat]? = some 82) hn3 (by decide)) (by decide) ?_
          refine lv_aload_n hx hb dX11_many_91 rfl (lv_at hl 1 rfl) ?_
          refine lv_aload_n hx hb dX11_many_92 rfl (lv_at hl 0 rfl) ?_
          refine va_get (D := (dC, dI)) (ci := 7) (v := .int (gi ST0 13)) (C := RX7) (T := TX7) (N := 18) hx hb hts i_X7 hown hK hP 2 rfl rfl 13 (by decide) (hts _ wf_X11_201) (fun _ h9 => h9) rfl dX11_many_93 ?_
          obtain ⟨z5, hg, hf⟩ := tc_bi hf
          refine tc_iV (As := [.int (gi ST0 13)]) (rest := []) (b := qC 0) (wc := w11 ca qC (rC3) (rC4) (rC6) (rC7) (.ref (qP0 0)) (rC11) (rC12) (rC14) (rC15) (rC17) (rC18) (rC19) SC) (wr := w6 ca qP0 (.ref (qT0 0)) (rP01) SP0 ++ w7 ca qT0 ST0) X hP hD hS (mX11_answer hg) okX11_answer wl_X11_182 wi_X11_answer ws_X11_X11_answer_X11_answer ⟨rfl, rfl, Nat.le_of_ble_eq_true rfl, Nat.le_of_ble_eq_true rfl⟩ 11 0 rfl rfl [0] [1, 2, 3, 4, 5, 6, 7, 8, 9, 10, 11, 12] ⟨rfl, rfl, rfl, rfl, by decide⟩ rfl hl.1 (Nat.le_of_ble_eq_true rfl) dX11_many_96 (fun H locs hP hD hS => ?_)
          have hP := hP.sub (ws' := (w11 ca qC (rC3) (rC4) (rC6) (rC7) (.ref (qP0 0)) (rC11) (rC12) (rC14) (rC15) (rC17) (rC18) (rC19) z5.2 ++ w6 ca qP0 (.ref (qT0 0)) (rP01) SP0 ++ w7 ca qT0 ST0)) [12, 0, 1, 2, 3, 4, 5, 6, 7, 8, 9, 10, 11] rfl
          have hD := hD.sub (ws' := (w11 ca qC (rC3) (rC4) (rC6) (rC7) (.ref (qP0 0)) (rC11) (rC12) (rC14) (rC15) (rC17) (rC18) (rC19) z5.2 ++ w6 ca qP0 (.ref (qT0 0)) (rP01) SP0 ++ w7 ca qT0 ST0)) [12, 0, 1, 2, 3, 4, 5, 6, 7, 8, 9, 10, 11] rfl rfl
          obtain rfl := Option.some.inj hf
          exact tc_ri X hP hD hS rfl dX11_many_99 rfl rfl
        · have hf := tc_neg hn3 hf
          by_cases hn4 : a1 = (4 : Int32)
          · have hf := tc_pos hn4 hf
            refine lv_tableIn (off := 91) (tgt := 100) hx hb dX11_many_9 (tc_sw (P := fun y => ¬ y.toInt < 0) hn4 (by decide)) (tc_sw (P := fun y => ¬ 9 < y.toInt) hn4 (by decide)) (tc_sw (P := fun y => (#[55, 64, 73, 82, 91, 100, 109, 118, 127, 136] : Array Int)[(y.toInt - 0).toNat]? = some 91) hn4 (by decide)) (by decide) ?_
            refine lv_aload_n hx hb dX11_many_100 rfl (lv_at hl 1 rfl) ?_
            refine lv_aload_n hx hb dX11_many_101 rfl (lv_at hl 0 rfl) ?_
            refine va_get (D := (dC, dI)) (ci := 7) (v := .int (gi ST0 0)) (C := RX7) (T := TX7) (N := 18) hx hb hts i_X7 hown hK hP 2 rfl rfl 0 (by decide) (hts _ wf_X11_203) (fun _ h9 => h9) rfl dX11_many_102 ?_
            obtain ⟨z6, hg, hf⟩ := tc_bi hf
            refine tc_iV (As := [.int (gi ST0 0)]) (rest := []) (b := qC 0) (wc := w11 ca qC (rC3) (rC4) (rC6) (rC7) (.ref (qP0 0)) (rC11) (rC12) (rC14) (rC15) (rC17) (rC18) (rC19) SC) (wr := w6 ca qP0 (.ref (qT0 0)) (rP01) SP0 ++ w7 ca qT0 ST0) X hP hD hS (mX11_answer hg) okX11_answer wl_X11_182 wi_X11_answer ws_X11_X11_answer_X11_answer ⟨rfl, rfl, Nat.le_of_ble_eq_true rfl, Nat.le_of_ble_eq_true rfl⟩ 11 0 rfl rfl [0] [1, 2, 3, 4, 5, 6, 7, 8, 9, 10, 11, 12] ⟨rfl, rfl, rfl, rfl, by decide⟩ rfl hl.1 (Nat.le_of_ble_eq_true rfl) dX11_many_105 (fun H locs hP hD hS => ?_)
            have hP := hP.sub (ws' := (w11 ca qC (rC3) (rC4) (rC6) (rC7) (.ref (qP0 0)) (rC11) (rC12) (rC14) (rC15) (rC17) (rC18) (rC19) z6.2 ++ w6 ca qP0 (.ref (qT0 0)) (rP01) SP0 ++ w7 ca qT0 ST0)) [12, 0, 1, 2, 3, 4, 5, 6, 7, 8, 9, 10, 11] rfl
            have hD := hD.sub (ws' := (w11 ca qC (rC3) (rC4) (rC6) (rC7) (.ref (qP0 0)) (rC11) (rC12) (rC14) (rC15) (rC17) (rC18) (rC19) z6.2 ++ w6 ca qP0 (.ref (qT0 0)) (rP01) SP0 ++ w7 ca qT0 ST0)) [12, 0, 1, 2, 3, 4, 5, 6, 7, 8, 9, 10, 11] rfl rfl
            obtain rfl := Option.some.inj hf
            exact tc_ri X hP hD hS rfl dX11_many_108 rfl rfl
          · have hf := tc_neg hn4 hf
            by_cases hn5 : a1 = (5 : Int32)
            · have hf := tc_pos hn5 hf
              refine lv_tableIn (off := 100) (tgt := 109) hx hb dX11_many_9 (tc_sw (P := fun y => ¬ y.toInt < 0) hn5 (by decide)) (tc_sw (P := fun y => ¬ 9 < y.toInt) hn5 (by decide)) (tc_sw (P := fun y => (#[55, 64, 73, 82, 91, 100, 109, 118, 127, 136] : Array Int)[(y.toInt - 0).toNat]? = some 100) hn5 (by decide)) (by decide) ?_
              refine lv_aload_n hx hb dX11_many_109 rfl (lv_at hl 1 rfl) ?_
              refine lv_aload_n hx hb dX11_many_110 rfl (lv_at hl 0 rfl) ?_
              refine va_get (D := (dC, dI)) (ci := 7) (v := .int (gi ST0 16)) (C := RX7) (T := TX7) (N := 18) hx hb hts i_X7 hown hK hP 2 rfl rfl 16 (by decide) (hts _ wf_X11_206) (fun _ h9 => h9) rfl dX11_many_111 ?_
              obtain ⟨z7, hg, hf⟩ := tc_bi hf
              refine tc_iV (As := [.int (gi ST0 16)]) (rest := []) (b := qC 0) (wc := w11 ca qC (rC3) (rC4) (rC6) (rC7) (.ref (qP0 0)) (rC11) (rC12) (rC14) (rC15) (rC17) (rC18) (rC19) SC) (wr := w6 ca qP0 (.ref (qT0 0)) (rP01) SP0 ++ w7 ca qT0 ST0) X hP hD hS (mX11_answer hg) okX11_answer wl_X11_182 wi_X11_answer ws_X11_X11_answer_X11_answer ⟨rfl, rfl, Nat.le_of_ble_eq_true rfl, Nat.le_of_ble_eq_true rfl⟩ 11 0 rfl rfl [0] [1, 2, 3, 4, 5, 6, 7, 8, 9, 10, 11, 12] ⟨rfl, rfl, rfl, rfl, by decide⟩ rfl hl.1 (Nat.le_of_ble_eq_true rfl) dX11_many_114 (fun H locs hP hD hS => ?_)
              have hP := hP.sub (ws' := (w11 ca qC (rC3) (rC4) (rC6) (rC7) (.ref (qP0 0)) (rC11) (rC12) (rC14) (rC15) (rC17) (rC18) (rC19) z7.2 ++ w6 ca qP0 (.ref (qT0 0)) (rP01) SP0 ++ w7 ca qT0 ST0)) [12, 0, 1, 2, 3, 4, 5, 6, 7, 8, 9, 10, 11] rfl
              have hD := hD.sub (ws' := (w11 ca qC (rC3) (rC4) (rC6) (rC7) (.ref (qP0 0)) (rC11) (rC12) (rC14) (rC15) (rC17) (rC18) (rC19) z7.2 ++ w6 ca qP0 (.ref (qT0 0)) (rP01) SP0 ++ w7 ca qT0 ST0)) [12, 0, 1, 2, 3, 4, 5, 6, 7, 8, 9, 10, 11] rfl rfl
              obtain rfl := Option.some.inj hf
              exact tc_ri X hP hD hS rfl dX11_many_117 rfl rfl
            · have hf := tc_neg hn5 hf
              by_cases hn6 : a1 = (6 : Int32)
              · have hf := tc_pos hn6 hf
                refine lv_tableIn (off := 109) (tgt := 118) hx hb dX11_many_9 (tc_sw (P := fun y => ¬ y.toInt < 0) hn6 (by decide)) (tc_sw (P := fun y => ¬ 9 < y.toInt) hn6 (by decide)) (tc_sw (P := fun y => (#[55, 64, 73, 82, 91, 100, 109, 118, 127, 136] : Array Int)[(y.toInt - 0).toNat]? = some 109) hn6 (by decide)) (by decide) ?_
                refine lv_aload_n hx hb dX11_many_118 rfl (lv_at hl 1 rfl) ?_
                refine lv_aload_n hx hb dX11_many_119 rfl (lv_at hl 0 rfl) ?_
                obtain ⟨z8, hg, hf⟩ := tc_bi hf
                refine tc_iV (As := []) (rest := [.ref (qC 0)]) (b := qT0 0) (wc := w7 ca qT0 ST0) (wr := w11 ca qC (rC3) (rC4) (rC6) (rC7) (.ref (qP0 0)) (rC11) (rC12) (rC14) (rC15) (rC17) (rC18) (rC19) SC ++ w6 ca qP0 (.ref (qT0 0)) (rP01) SP0) X hP hD hS (mX7_standing hg) okX7_standing wl_X11_209 wi_X7_standing ws_X7_X7_standing_X7_standing ⟨rfl, rfl, Nat.le_of_ble_eq_true rfl, Nat.le_of_ble_eq_true rfl⟩ 7 0 rfl rfl [2, 3, 4, 5, 6, 7, 8, 9, 10, 11, 12] [0, 1] ⟨rfl, rfl, rfl, rfl, by decide⟩ rfl hl.1 (Nat.le_of_ble_eq_true rfl) dX11_many_120 (fun H locs hP hD hS => ?_)
                have hP := hP.sub (ws' := (w11 ca qC (rC3) (rC4) (rC6) (rC7) (.ref (qP0 0)) (rC11) (rC12) (rC14) (rC15) (rC17) (rC18) (rC19) SC ++ w6 ca qP0 (.ref (qT0 0)) (rP01) SP0 ++ w7 ca qT0 ST0)) [0, 1, 2, 3, 4, 5, 6, 7, 8, 9, 10, 11, 12] rfl
                have hD := hD.sub (ws' := (w11 ca qC (rC3) (rC4) (rC6) (rC7) (.ref (qP0 0)) (rC11) (rC12) (rC14) (rC15) (rC17) (rC18) (rC19) SC ++ w6 ca qP0 (.ref (qT0 0)) (rP01) SP0 ++ w7 ca qT0 ST0)) [0, 1, 2, 3, 4, 5, 6, 7, 8, 9, 10, 11, 12] rfl rfl
                obtain ⟨z9, hg, hf⟩ := tc_bi hf
                refine tc_iV (As := [.int (z8)]) (rest := []) (b := qC 0) (wc := w11 ca qC (rC3) (rC4) (rC6) (rC7) (.ref (qP0 0)) (rC11) (rC12) (rC14) (rC15) (rC17) (rC18) (rC19) SC) (wr := w6 ca qP0 (.ref (qT0 0)) (rP01) SP0 ++ w7 ca qT0 ST0) X hP hD hS (mX11_answer hg) okX11_answer wl_X11_182 wi_X11_answer ws_X11_X11_answer_X11_answer ⟨rfl, rfl, Nat.le_of_ble_eq_true rfl, Nat.le_of_ble_eq_true rfl⟩ 11 0 rfl rfl [0] [1, 2, 3, 4, 5, 6, 7, 8, 9, 10, 11, 12] ⟨rfl, rfl, rfl, rfl, by decide⟩ rfl hl.1 (Nat.le_of_ble_eq_true rfl) dX11_many_123 (fun H locs hP hD hS => ?_)
                have hP := hP.sub (ws' := (w11 ca qC (rC3) (rC4) (rC6) (rC7) (.ref (qP0 0)) (rC11) (rC12) (rC14) (rC15) (rC17) (rC18) (rC19) z9.2 ++ w6 ca qP0 (.ref (qT0 0)) (rP01) SP0 ++ w7 ca qT0 ST0)) [12, 0, 1, 2, 3, 4, 5, 6, 7, 8, 9, 10, 11] rfl
                have hD := hD.sub (ws' := (w11 ca qC (rC3) (rC4) (rC6) (rC7) (.ref (qP0 0)) (rC11) (rC12) (rC14) (rC15) (rC17) (rC18) (rC19) z9.2 ++ w6 ca qP0 (.ref (qT0 0)) (rP01) SP0 ++ w7 ca qT0 ST0)) [12, 0, 1, 2, 3, 4, 5, 6, 7, 8, 9, 10, 11] rfl rfl
                obtain rfl := Option.some.inj hf
                exact tc_ri X hP hD hS rfl dX11_many_126 rfl rfl
              · have hf := tc_neg hn6 hf
                by_cases hn7 : a1 = (7 : Int32)
                · have hf := tc_pos hn7 hf
                  refine lv_tableIn (off := 118) (tgt := 127) hx hb dX11_many_9 (tc_sw (P := fun y => ¬ y.toInt < 0) hn7 (by decide)) (tc_sw (P := fun y => ¬ 9 < y.toInt) hn7 (by decide)) (tc_sw (P := fun y => (#[55, 64, 73, 82, 91, 100, 109, 118, 127, 136] : Array Int)[(y.toInt - 0).toNat]? = some 118) hn7 (by decide)) (by decide) ?_
                  refine lv_aload_n hx hb dX11_many_127 rfl (lv_at hl 1 rfl) ?_
                  refine lv_aload_n hx hb dX11_many_128 rfl (lv_at hl 0 rfl) ?_
                  refine va_get (D := (dC, dI)) (ci := 7) (v := .int (gi ST0 7)) (C := RX7) (T := TX7) (N := 18) hx hb hts i_X7 hown hK hP 2 rfl rfl 7 (by decide) (hts _ wf_X11_213) (fun _ h9 => h9) rfl dX11_many_129 ?_
                  obtain ⟨z10, hg, hf⟩ := tc_bi hf
                  refine tc_iV (As := [.int (gi ST0 7)]) (rest := []) (b := qC 0) (wc := w11 ca qC (rC3) (rC4) (rC6) (rC7) (.ref (qP0 0)) (rC11) (rC12) (rC14) (rC15) (rC17) (rC18) (rC19) SC) (wr := w6 ca qP0 (.ref (qT0 0)) (rP01) SP0 ++ w7 ca qT0 ST0) X hP hD hS (mX11_answer hg) okX11_answer wl_X11_182 wi_X11_answer ws_X11_X11_answer_X11_answer ⟨rfl, rfl, Nat.le_of_ble_eq_true rfl, Nat.le_of_ble_eq_true rfl⟩ 11 0 rfl rfl [0] [1, 2, 3, 4, 5, 6, 7, 8, 9, 10, 11, 12] ⟨rfl, rfl, rfl, rfl, by decide⟩ rfl hl.1 (Nat.le_of_ble_eq_true rfl) dX11_many_132 (fun H locs hP hD hS => ?_)
                  have hP := hP.sub (ws' := (w11 ca qC (rC3) (rC4) (rC6) (rC7) (.ref (qP0 0)) (rC11) (rC12) (rC14) (rC15) (rC17) (rC18) (rC19) z10.2 ++ w6 ca qP0 (.ref (qT0 0)) (rP01) SP0 ++ w7 ca qT0 ST0)) [12, 0, 1, 2, 3, 4, 5, 6, 7, 8, 9, 10, 11] rfl
                  have hD := hD.sub (ws' := (w11 ca qC (rC3) (rC4) (rC6) (rC7) (.ref (qP0 0)) (rC11) (rC12) (rC14) (rC15) (rC17) (rC18) (rC19) z10.2 ++ w6 ca qP0 (.ref (qT0 0)) (rP01) SP0 ++ w7 ca qT0 ST0)) [12, 0, 1, 2, 3, 4, 5, 6, 7, 8, 9, 10, 11] rfl rfl
                  obtain rfl := Option.some.inj hf
                  exact tc_ri X hP hD hS rfl dX11_many_135 rfl rfl
                · have hf := tc_neg hn7 hf
                  by_cases hn8 : a1 = (8 : Int32)
                  · have hf := tc_pos hn8 hf
                    refine lv_tableIn (off := 127) (tgt := 136) hx hb dX11_many_9 (tc_sw (P := fun y => ¬ y.toInt < 0) hn8 (by decide)) (tc_sw (P := fun y => ¬ 9 < y.toInt) hn8 (by decide)) (tc_sw (P := fun y => (#[55, 64, 73, 82, 91, 100, 109, 118, 127, 136] : Array Int)[(y.toInt - 0).toNat]? = some 127) hn8 (by decide)) (by decide) ?_
                    refine lv_aload_n hx hb dX11_many_136 rfl (lv_at hl 1 rfl) ?_
                    refine lv_aload_n hx hb dX11_many_137 rfl (lv_at hl 0 rfl) ?_
                    refine va_get (D := (dC, dI)) (ci := 7) (v := .int (gi ST0 12)) (C := RX7) (T := TX7) (N := 18) hx hb hts i_X7 hown hK hP 2 rfl rfl 12 (by decide) (hts _ wf_X11_216) (fun _ h9 => h9) rfl dX11_many_138 ?_
                    obtain ⟨z11, hg, hf⟩ := tc_bi hf
                    refine tc_iV (As := [.int (gi ST0 12)]) (rest := []) (b := qC 0) (wc := w11 ca qC (rC3) (rC4) (rC6) (rC7) (.ref (qP0 0)) (rC11) (rC12) (rC14) (rC15) (rC17) (rC18) (rC19) SC) (wr := w6 ca qP0 (.ref (qT0 0)) (rP01) SP0 ++ w7 ca qT0 ST0) X hP hD hS (mX11_answer hg) okX11_answer wl_X11_182 wi_X11_answer ws_X11_X11_answer_X11_answer ⟨rfl, rfl, Nat.le_of_ble_eq_true rfl, Nat.le_of_ble_eq_true rfl⟩ 11 0 rfl rfl [0] [1, 2, 3, 4, 5, 6, 7, 8, 9, 10, 11, 12] ⟨rfl, rfl, rfl, rfl, by decide⟩ rfl hl.1 (Nat.le_of_ble_eq_true rfl) dX11_many_141 (fun H locs hP hD hS => ?_)
                    have hP := hP.sub (ws' := (w11 ca qC (rC3) (rC4) (rC6) (rC7) (.ref (qP0 0)) (rC11) (rC12) (rC14) (rC15) (rC17) (rC18) (rC19) z11.2 ++ w6 ca qP0 (.ref (qT0 0)) (rP01) SP0 ++ w7 ca qT0 ST0)) [12, 0, 1, 2, 3, 4, 5, 6, 7, 8, 9, 10, 11] rfl
                    have hD := hD.sub (ws' := (w11 ca qC (rC3) (rC4) (rC6) (rC7) (.ref (qP0 0)) (rC11) (rC12) (rC14) (rC15) (rC17) (rC18) (rC19) z11.2 ++ w6 ca qP0 (.ref (qT0 0)) (rP01) SP0 ++ w7 ca qT0 ST0)) [12, 0, 1, 2, 3, 4, 5, 6, 7, 8, 9, 10, 11] rfl rfl
                    obtain rfl := Option.some.inj hf
                    exact tc_ri X hP hD hS rfl dX11_many_144 rfl rfl
                  · have hf := tc_neg hn8 hf
                    by_cases hn9 : a1 = (9 : Int32)
                    · have hf := tc_pos hn9 hf
                      refine lv_tableIn (off := 136) (tgt := 145) hx hb dX11_many_9 (tc_sw (P := fun y => ¬ y.toInt < 0) hn9 (by decide)) (tc_sw (P := fun y => ¬ 9 < y.toInt) hn9 (by decide)) (tc_sw (P := fun y => (#[55, 64, 73, 82, 91, 100, 109, 118, 127, 136] : Array Int)[(y.toInt - 0).toNat]? = some 136) hn9 (by decide)) (by decide) ?_
                      refine lv_aload_n hx hb dX11_many_145 rfl (lv_at hl 1 rfl) ?_
                      refine lv_aload_n hx hb dX11_many_146 rfl (lv_at hl 0 rfl) ?_
                      refine lv_iconst (v := (0 : Int32)) hx hb dX11_many_147 (by decide) ?_
                      obtain ⟨z12, hg, hf⟩ := tc_bi hf
                      refine tc_iV (As := [.int ((0 : Int32))]) (rest := [.ref (qC 0)]) (b := qT0 0) (wc := w7 ca qT0 ST0) (wr := w11 ca qC (rC3) (rC4) (rC6) (rC7) (.ref (qP0 0)) (rC11) (rC12) (rC14) (rC15) (rC17) (rC18) (rC19) SC ++ w6 ca qP0 (.ref (qT0 0)) (rP01) SP0) X hP hD hS (mX7_talkersAt hg) okX7_talkersAt wl_X11_219 wi_X7_talkersAt ws_X7_X7_talkersAt_X7_talkersAt ⟨rfl, rfl, Nat.le_of_ble_eq_true rfl, Nat.le_of_ble_eq_true rfl⟩ 7 0 rfl rfl [2, 3, 4, 5, 6, 7, 8, 9, 10, 11, 12] [0, 1] ⟨rfl, rfl, rfl, rfl, by decide⟩ rfl hl.1 (Nat.le_of_ble_eq_true rfl) dX11_many_148 (fun H locs hP hD hS => ?_)
                      have hP := hP.sub (ws' := (w11 ca qC (rC3) (rC4) (rC6) (rC7) (.ref (qP0 0)) (rC11) (rC12) (rC14) (rC15) (rC17) (rC18) (rC19) SC ++ w6 ca qP0 (.ref (qT0 0)) (rP01) SP0 ++ w7 ca qT0 ST0)) [0, 1, 2, 3, 4, 5, 6, 7, 8, 9, 10, 11, 12] rfl
                      have hD := hD.sub (ws' := (w11 ca qC (rC3) (rC4) (rC6) (rC7) (.ref (qP0 0)) (rC11) (rC12) (rC14) (rC15) (rC17) (rC18) (rC19) SC ++ w6 ca qP0 (.ref (qT0 0)) (rP01) SP0 ++ w7 ca qT0 ST0)) [0, 1, 2, 3, 4, 5, 6, 7, 8, 9, 10, 11, 12] rfl rfl
                      obtain ⟨z13, hg, hf⟩ := tc_bi hf
                      refine tc_iV (As := [.int (z12)]) (rest := []) (b := qC 0) (wc := w11 ca qC (rC3) (rC4) (rC6) (rC7) (.ref (qP0 0)) (rC11) (rC12) (rC14) (rC15) (rC17) (rC18) (rC19) SC) (wr := w6 ca qP0 (.ref (qT0 0)) (rP01) SP0 ++ w7 ca qT0 ST0) X hP hD hS (mX11_answer hg) okX11_answer wl_X11_182 wi_X11_answer ws_X11_X11_answer_X11_answer ⟨rfl, rfl, Nat.le_of_ble_eq_true rfl, Nat.le_of_ble_eq_true rfl⟩ 11 0 rfl rfl [0] [1, 2, 3, 4, 5, 6, 7, 8, 9, 10, 11, 12] ⟨rfl, rfl, rfl, rfl, by decide⟩ rfl hl.1 (Nat.le_of_ble_eq_true rfl) dX11_many_151 (fun H locs hP hD hS => ?_)
                      have hP := hP.sub (ws' := (w11 ca qC (rC3) (rC4) (rC6) (rC7) (.ref (qP0 0)) (rC11) (rC12) (rC14) (rC15) (rC17) (rC18) (rC19) z13.2 ++ w6 ca qP0 (.ref (qT0 0)) (rP01) SP0 ++ w7 ca qT0 ST0)) [12, 0, 1, 2, 3, 4, 5, 6, 7, 8, 9, 10, 11] rfl
                      have hD := hD.sub (ws' := (w11 ca qC (rC3) (rC4) (rC6) (rC7) (.ref (qP0 0)) (rC11) (rC12) (rC14) (rC15) (rC17) (rC18) (rC19) z13.2 ++ w6 ca qP0 (.ref (qT0 0)) (rP01) SP0 ++ w7 ca qT0 ST0)) [12, 0, 1, 2, 3, 4, 5, 6, 7, 8, 9, 10, 11] rfl rfl
                      obtain rfl := Option.some.inj hf
                      exact tc_ri X hP hD hS rfl dX11_many_154 rfl rfl
                    · have hf := tc_neg hn9 hf
                      have hout : (a1).toInt < 0 ∨ 9 < (a1).toInt := by
                        have e0 := tc_ne hn0
                        have e1 := tc_ne hn1
                        have e2 := tc_ne hn2
                        have e3 := tc_ne hn3
                        have e4 := tc_ne hn4
                        have e5 := tc_ne hn5
                        have e6 := tc_ne hn6
                        have e7 := tc_ne hn7
                        have e8 := tc_ne hn8
                        have e9 := tc_ne hn9
                        simp only [show ((0 : Int32)).toInt = 0 from by decide, show ((1 : Int32)).toInt = 1 from by decide, show ((2 : Int32)).toInt = 2 from by decide, show ((3 : Int32)).toInt = 3 from by decide, show ((4 : Int32)).toInt = 4 from by decide, show ((5 : Int32)).toInt = 5 from by decide, show ((6 : Int32)).toInt = 6 from by decide, show ((7 : Int32)).toInt = 7 from by decide, show ((8 : Int32)).toInt = 8 from by decide, show ((9 : Int32)).toInt = 9 from by decide] at e0 e1 e2 e3 e4 e5 e6 e7 e8 e9
                        omega
                      refine lv_tableOut (tgt := 155) hx hb dX11_many_9 hout (by decide) ?_
                      refine lv_aload_n hx hb dX11_many_155 rfl (lv_at hl 1 rfl) ?_
                      refine lv_iconst (v := (5 : Int32)) hx hb dX11_many_156 (by decide) ?_
                      obtain ⟨z1, hg, hf⟩ := tc_bi hf
                      refine tc_iV (As := [.int ((5 : Int32))]) (rest := []) (b := qC 0) (wc := w11 ca qC (rC3) (rC4) (rC6) (rC7) (.ref (qP0 0)) (rC11) (rC12) (rC14) (rC15) (rC17) (rC18) (rC19) SC) (wr := w6 ca qP0 (.ref (qT0 0)) (rP01) SP0 ++ w7 ca qT0 ST0) X hP hD hS (mX11_refuse hg) okX11_refuse wl_X11_121 wi_X11_refuse ws_X11_X11_refuse_X11_refuse ⟨rfl, rfl, Nat.le_of_ble_eq_true rfl, Nat.le_of_ble_eq_true rfl⟩ 11 0 rfl rfl [0] [1, 2, 3, 4, 5, 6, 7, 8, 9, 10, 11, 12] ⟨rfl, rfl, rfl, rfl, by decide⟩ rfl hl.1 (Nat.le_of_ble_eq_true rfl) dX11_many_157 (fun H locs hP hD hS => ?_)
                      have hP := hP.sub (ws' := (w11 ca qC (rC3) (rC4) (rC6) (rC7) (.ref (qP0 0)) (rC11) (rC12) (rC14) (rC15) (rC17) (rC18) (rC19) z1.2 ++ w6 ca qP0 (.ref (qT0 0)) (rP01) SP0 ++ w7 ca qT0 ST0)) [12, 0, 1, 2, 3, 4, 5, 6, 7, 8, 9, 10, 11] rfl
                      have hD := hD.sub (ws' := (w11 ca qC (rC3) (rC4) (rC6) (rC7) (.ref (qP0 0)) (rC11) (rC12) (rC14) (rC15) (rC17) (rC18) (rC19) z1.2 ++ w6 ca qP0 (.ref (qT0 0)) (rP01) SP0 ++ w7 ca qT0 ST0)) [12, 0, 1, 2, 3, 4, 5, 6, 7, 8, 9, 10, 11] rfl rfl
                      obtain rfl := Option.some.inj hf
                      exact tc_ri X hP hD hS rfl dX11_many_160 rfl rfl
def fX11_topic  (SC : ms_T) (SP0 : ms_T) (ST0 : ms_T) (a1 : Int32) (a2 : Int32) : Option (Int32 × ms_T) :=
  (fX7_isTopic ST0 a1).bind fun z1 =>
  if z1 = 0 then
    (fX11_refuse SC (2 : Int32)).bind fun z11 =>
    some (z11.1, z11.2)
  else
    if a2 = (0 : Int32) then
      if inb a1 9 = true then
        (fX11_answer SC (ia ST0 1 a1)).bind fun z4 =>
        some (z4.1, z4.2)
      else none
    else
      if a2 = (1 : Int32) then
        if inb a1 9 = true then
          (fX11_answer SC (ia ST0 2 a1)).bind fun z6 =>
          some (z6.1, z6.2)
        else none
      else
        if a2 = (2 : Int32) then
          (fX7_claimsAt ST0 a1).bind fun z7 =>
          (fX11_answer SC z7).bind fun z8 =>
          some (z8.1, z8.2)
        else
          if a2 = (3 : Int32) then
            (fX7_talkersAt ST0 (a1 + (1 : Int32))).bind fun z9 =>
            (fX11_answer SC z9).bind fun z10 =>
            some (z10.1, z10.2)
          else
            (fX11_refuse SC (5 : Int32)).bind fun z2 =>
            some (z2.1, z2.2)
abbrev rmX11_topic : Room := { frames := 1, cells := 0, slots := 0, locals := 23 }
theorem okX11_topic : tc_ok yX11_topic cX11_topic 4 (some .int) 2 := ⟨wc_X11_topic, wn_X11, by decide, by decide, by decide +kernel⟩
set_option maxRecDepth 20000 in
theorem mX11_topic {qC : Nat → Nat} {qP0 : Nat → Nat} {qT0 : Nat → Nat} {rC3 : Value} {rC4 : Value} {rC6 : Value} {rC7 : Value} {rC11 : Value} {rC12 : Value} {rC14 : Value} {rC15 : Value} {rC17 : Value} {rC18 : Value} {rC19 : Value} {rP01 : Value} {SC : ms_T} {SP0 : ms_T} {ST0 : ms_T} {a1 : Int32} {a2 : Int32} {z : Int32 × ms_T}  (hf : fX11_topic SC SP0 ST0 a1 a2 = some z) : tc_MI l dC dI ca yX11_topic cX11_topic 4 (some .int) rmX11_topic [.ref (qC 0), .int (a1), .int (a2)] (w11 ca qC (rC3) (rC4) (rC6) (rC7) (.ref (qP0 0)) (rC11) (rC12) (rC14) (rC15) (rC17) (rC18) (rC19) SC ++ w6 ca qP0 (.ref (qT0 0)) (rP01) SP0 ++ w7 ca qT0 ST0) (w11 ca qC (rC3) (rC4) (rC6) (rC7) (.ref (qP0 0)) (rC11) (rC12) (rC14) (rC15) (rC17) (rC18) (rC19) z.2 ++ w6 ca qP0 (.ref (qT0 0)) (rP01) SP0 ++ w7 ca qT0 ST0) (z.1) := by
  refine tc_metI (own := RX11) (by decide) rfl ?_ (Nat.le_of_ble_eq_true rfl)
  intro p e s m below meth c A X hP hD hS ls hl
  obtain ⟨hx, hb, hr, hml, hown, hts, hlk, hK, hA, hG⟩ := id X
  unfold fX11_topic at hf
  have hl : lv_has ls 4 [(0, .ref (qC 0)), (1, .int (a1)), (2, .int (a2))] := hl
  refine lv_aload_n hx hb dX11_topic_0 rfl (lv_at hl 0 rfl) ?_
  refine va_get (D := (dC, dI)) (ci := 11) (v := .ref (qP0 0)) (C := RX11) (T := TX11) (N := 20) hx hb hts i_X11 hown hK hP 0 rfl rfl 10 (by decide) (hts _ wf_X11_39) (fun _ h9 => h9) rfl dX11_topic_1 ?_
  refine va_get (D := (dC, dI)) (ci := 6) (v := .ref (qT0 0)) (C := RX6) (T := TX6) (N := 2) hx hb hts i_X6 hown hK hP 1 rfl rfl 0 (by decide) (hts _ wf_X11_152) (fun _ h9 => h9) rfl dX11_topic_4 ?_
  refine lv_astore_n (lv' := [(3, .ref (qT0 0)), (0, .ref (qC 0)), (1, .int (a1)), (2, .int (a2))]) hx hb dX11_topic_7 rfl hl (by decide) rfl (fun ls hl => ?_)
  refine lv_aload_n hx hb dX11_topic_8 rfl (lv_at hl 0 rfl) ?_
  refine lv_iload_n hx hb dX11_topic_9 rfl (lv_at hl 2 rfl) ?_
  obtain ⟨z1, hg, hf⟩ := tc_bi hf
  refine tc_iV (As := [.int (a1)]) (rest := []) (b := qT0 0) (wc := w7 ca qT0 ST0) (wr := w11 ca qC (rC3) (rC4) (rC6) (rC7) (.ref (qP0 0)) (rC11) (rC12) (rC14) (rC15) (rC17) (rC18) (rC19) SC ++ w6 ca qP0 (.ref (qT0 0)) (rP01) SP0) X hP hD hS (mX7_isTopic hg) okX7_isTopic wl_X11_222 wi_X7_isTopic ws_X7_X7_isTopic_X7_isTopic ⟨rfl, rfl, Nat.le_of_ble_eq_true rfl, Nat.le_of_ble_eq_true rfl⟩ 7 0 rfl rfl [2, 3, 4, 5, 6, 7, 8, 9, 10, 11, 12] [0, 1] ⟨rfl, rfl, rfl, rfl, by decide⟩ rfl hl.1 (Nat.le_of_ble_eq_true rfl) dX11_topic_10 (fun H locs hP hD hS => ?_)
  have hP := hP.sub (ws' := (w11 ca qC (rC3) (rC4) (rC6) (rC7) (.ref (qP0 0)) (rC11) (rC12) (rC14) (rC15) (rC17) (rC18) (rC19) SC ++ w6 ca qP0 (.ref (qT0 0)) (rP01) SP0 ++ w7 ca qT0 ST0)) [0, 1, 2, 3, 4, 5, 6, 7, 8, 9, 10, 11, 12] rfl
  have hD := hD.sub (ws' := (w11 ca qC (rC3) (rC4) (rC6) (rC7) (.ref (qP0 0)) (rC11) (rC12) (rC14) (rC15) (rC17) (rC18) (rC19) SC ++ w6 ca qP0 (.ref (qT0 0)) (rP01) SP0 ++ w7 ca qT0 ST0)) [0, 1, 2, 3, 4, 5, 6, 7, 8, 9, 10, 11, 12] rfl rfl
  refine lv_if_ne (tgt := 22) hx hb dX11_topic_13 (by decide) (fun hc => ?_) (fun hc => ?_)
  · have hf := tc_neg hc hf
    refine lv_iload_n hx hb dX11_topic_22 rfl (lv_at hl 3 rfl) ?_
    by_cases hn0 : a2 = (0 : Int32)
    · have hf := tc_pos hn0 hf
      refine lv_tableIn (off := 29) (tgt := 52) hx hb dX11_topic_23 (tc_sw (P := fun y => ¬ y.toInt < 0) hn0 (by decide)) (tc_sw (P := fun y => ¬ 3 < y.toInt) hn0 (by decide)) (tc_sw (P := fun y => (#[29, 40, 51, 61] : Array Int)[(y.toInt - 0).toNat]? = some 29) hn0 (by decide)) (by decide) ?_
      refine lv_aload_n hx hb dX11_topic_52 rfl (lv_at hl 1 rfl) ?_
      refine lv_aload_n hx hb dX11_topic_53 rfl (lv_at hl 0 rfl) ?_
      refine va_get (D := (dC, dI)) (ci := 7) (v := .ref (qT0 1)) (C := RX7) (T := TX7) (N := 18) hx hb hts i_X7 hown hK hP 2 rfl rfl 2 (by decide) (hts _ wf_X11_225) (fun _ h9 => h9) rfl dX11_topic_54 ?_
      refine lv_iload_n hx hb dX11_topic_57 rfl (lv_at hl 2 rfl) ?_
      obtain ⟨hi3, hf⟩ := tc_in hf
      refine va_iald hx hb hK hP 3 1 rfl rfl hi3 dX11_topic_58 ?_
      obtain ⟨z4, hg, hf⟩ := tc_bi hf
      refine tc_iV (As := [.int (ia ST0 1 a1)]) (rest := []) (b := qC 0) (wc := w11 ca qC (rC3) (rC4) (rC6) (rC7) (.ref (qP0 0)) (rC11) (rC12) (rC14) (rC15) (rC17) (rC18) (rC19) SC) (wr := w6 ca qP0 (.ref (qT0 0)) (rP01) SP0 ++ w7 ca qT0 ST0) X hP hD hS (mX11_answer hg) okX11_answer wl_X11_182 wi_X11_answer ws_X11_X11_answer_X11_answer ⟨rfl, rfl, Nat.le_of_ble_eq_true rfl, Nat.le_of_ble_eq_true rfl⟩ 11 0 rfl rfl [0] [1, 2, 3, 4, 5, 6, 7, 8, 9, 10, 11, 12] ⟨rfl, rfl, rfl, rfl, by decide⟩ rfl hl.1 (Nat.le_of_ble_eq_true rfl) dX11_topic_59 (fun H locs hP hD hS => ?_)
      have hP := hP.sub (ws' := (w11 ca qC (rC3) (rC4) (rC6) (rC7) (.ref (qP0 0)) (rC11) (rC12) (rC14) (rC15) (rC17) (rC18) (rC19) z4.2 ++ w6 ca qP0 (.ref (qT0 0)) (rP01) SP0 ++ w7 ca qT0 ST0)) [12, 0, 1, 2, 3, 4, 5, 6, 7, 8, 9, 10, 11] rfl
      have hD := hD.sub (ws' := (w11 ca qC (rC3) (rC4) (rC6) (rC7) (.ref (qP0 0)) (rC11) (rC12) (rC14) (rC15) (rC17) (rC18) (rC19) z4.2 ++ w6 ca qP0 (.ref (qT0 0)) (rP01) SP0 ++ w7 ca qT0 ST0)) [12, 0, 1, 2, 3, 4, 5, 6, 7, 8, 9, 10, 11] rfl rfl
      obtain rfl := Option.some.inj hf
      exact tc_ri X hP hD hS rfl dX11_topic_62 rfl rfl
    · have hf := tc_neg hn0 hf
      by_cases hn1 : a2 = (1 : Int32)
      · have hf := tc_pos hn1 hf
        refine lv_tableIn (off := 40) (tgt := 63) hx hb dX11_topic_23 (tc_sw (P := fun y => ¬ y.toInt < 0) hn1 (by decide)) (tc_sw (P := fun y => ¬ 3 < y.toInt) hn1 (by decide)) (tc_sw (P := fun y => (#[29, 40, 51, 61] : Array Int)[(y.toInt - 0).toNat]? = some 40) hn1 (by decide)) (by decide) ?_
        refine lv_aload_n hx hb dX11_topic_63 rfl (lv_at hl 1 rfl) ?_
        refine lv_aload_n hx hb dX11_topic_64 rfl (lv_at hl 0 rfl) ?_
        refine va_get (D := (dC, dI)) (ci := 7) (v := .ref (qT0 2)) (C := RX7) (T := TX7) (N := 18) hx hb hts i_X7 hown hK hP 2 rfl rfl 3 (by decide) (hts _ wf_X11_229) (fun _ h9 => h9) rfl dX11_topic_65 ?_
        refine lv_iload_n hx hb dX11_topic_68 rfl (lv_at hl 2 rfl) ?_
        obtain ⟨hi5, hf⟩ := tc_in hf
        refine va_iald hx hb hK hP 4 1 rfl rfl hi5 dX11_topic_69 ?_
        obtain ⟨z6, hg, hf⟩ := tc_bi hf
        refine tc_iV (As := [.int (ia ST0 2 a1)]) (rest := []) (b := qC 0) (wc := w11 ca qC (rC3) (rC4) (rC6) (rC7) (.ref (qP0 0)) (rC11) (rC12) (rC14) (rC15) (rC17) (rC18) (rC19) SC) (wr := w6 ca qP0 (.ref (qT0 0)) (rP01) SP0 ++ w7 ca qT0 ST0) X hP hD hS (mX11_answer hg) okX11_answer wl_X11_182 wi_X11_answer ws_X11_X11_answer_X11_answer ⟨rfl, rfl, Nat.le_of_ble_eq_true rfl, Nat.le_of_ble_eq_true rfl⟩ 11 0 rfl rfl [0] [1, 2, 3, 4, 5, 6, 7, 8, 9, 10, 11, 12] ⟨rfl, rfl, rfl, rfl, by decide⟩ rfl hl.1 (Nat.le_of_ble_eq_true rfl) dX11_topic_70 (fun H locs hP hD hS => ?_)
        have hP := hP.sub (ws' := (w11 ca qC (rC3) (rC4) (rC6) (rC7) (.ref (qP0 0)) (rC11) (rC12) (rC14) (rC15) (rC17) (rC18) (rC19) z6.2 ++ w6 ca qP0 (.ref (qT0 0)) (rP01) SP0 ++ w7 ca qT0 ST0)) [12, 0, 1, 2, 3, 4, 5, 6, 7, 8, 9, 10, 11] rfl
        have hD := hD.sub (ws' := (w11 ca qC (rC3) (rC4) (rC6) (rC7) (.ref (qP0 0)) (rC11) (rC12) (rC14) (rC15) (rC17) (rC18) (rC19) z6.2 ++ w6 ca qP0 (.ref (qT0 0)) (rP01) SP0 ++ w7 ca qT0 ST0)) [12, 0, 1, 2, 3, 4, 5, 6, 7, 8, 9, 10, 11] rfl rfl
        obtain rfl := Option.some.inj hf
        exact tc_ri X hP hD hS rfl dX11_topic_73 rfl rfl
      · have hf := tc_neg hn1 hf
        by_cases hn2 : a2 = (2 : Int32)
        · have hf := tc_pos hn2 hf
          refine lv_tableIn (off := 51) (tgt := 74) hx hb dX11_topic_23 (tc_sw (P := fun y => ¬ y.toInt < 0) hn2 (by decide)) (tc_sw (P := fun y => ¬ 3 < y.toInt) hn2 (by decide)) (tc_sw (P := fun y => (#[29, 40, 51, 61] : Array Int)[(y.toInt - 0).toNat]? = some 51) hn2 (by decide)) (by decide) ?_
          refine lv_aload_n hx hb dX11_topic_74 rfl (lv_at hl 1 rfl) ?_
          refine lv_aload_n hx hb dX11_topic_75 rfl (lv_at hl 0 rfl) ?_
          refine lv_iload_n hx hb dX11_topic_76 rfl (lv_at hl 2 rfl) ?_
          obtain ⟨z7, hg, hf⟩ := tc_bi hf
          refine tc_iV (As := [.int (a1)]) (rest := [.ref (qC 0)]) (b := qT0 0) (wc := w7 ca qT0 ST0) (wr := w11 ca qC (rC3) (rC4) (rC6) (rC7) (.ref (qP0 0)) (rC11) (rC12) (rC14) (rC15) (rC17) (rC18) (rC19) SC ++ w6 ca qP0 (.ref (qT0 0)) (rP01) SP0) X hP hD hS (mX7_claimsAt hg) okX7_claimsAt wl_X11_232 wi_X7_claimsAt ws_X7_X7_claimsAt_X7_claimsAt ⟨rfl, rfl, Nat.le_of_ble_eq_true rfl, Nat.le_of_ble_eq_true rfl⟩ 7 0 rfl rfl [2, 3, 4, 5, 6, 7, 8, 9, 10, 11, 12] [0, 1] ⟨rfl, rfl, rfl, rfl, by decide⟩ rfl hl.1 (Nat.le_of_ble_eq_true rfl) dX11_topic_77 (fun H locs hP hD hS => ?_)
          have hP := hP.sub (ws' := (w11 ca qC (rC3) (rC4) (rC6) (rC7) (.ref (qP0 0)) (rC11) (rC12) (rC14) (rC15) (rC17) (rC18) (rC19) SC ++ w6 ca qP0 (.ref (qT0 0)) (rP01) SP0 ++ w7 ca qT0 ST0)) [0, 1, 2, 3, 4, 5, 6, 7, 8, 9, 10, 11, 12] rfl
          have hD := hD.sub (ws' := (w11 ca qC (rC3) (rC4) (rC6) (rC7) (.ref (qP0 0)) (rC11) (rC12) (rC14) (rC15) (rC17) (rC18) (rC19) SC ++ w6 ca qP0 (.ref (qT0 0)) (rP01) SP0 ++ w7 ca qT0 ST0)) [0, 1, 2, 3, 4, 5, 6, 7, 8, 9, 10, 11, 12] rfl rfl
          obtain ⟨z8, hg, hf⟩ := tc_bi hf
          refine tc_iV (As := [.int (z7)]) (rest := []) (b := qC 0) (wc := w11 ca qC (rC3) (rC4) (rC6) (rC7) (.ref (qP0 0)) (rC11) (rC12) (rC14) (rC15) (rC17) (rC18) (rC19) SC) (wr := w6 ca qP0 (.ref (qT0 0)) (rP01) SP0 ++ w7 ca qT0 ST0) X hP hD hS (mX11_answer hg) okX11_answer wl_X11_182 wi_X11_answer ws_X11_X11_answer_X11_answer ⟨rfl, rfl, Nat.le_of_ble_eq_true rfl, Nat.le_of_ble_eq_true rfl⟩ 11 0 rfl rfl [0] [1, 2, 3, 4, 5, 6, 7, 8, 9, 10, 11, 12] ⟨rfl, rfl, rfl, rfl, by decide⟩ rfl hl.1 (Nat.le_of_ble_eq_true rfl) dX11_topic_80 (fun H locs hP hD hS => ?_)
          have hP := hP.sub (ws' := (w11 ca qC (rC3) (rC4) (rC6) (rC7) (.ref (qP0 0)) (rC11) (rC12) (rC14) (rC15) (rC17) (rC18) (rC19) z8.2 ++ w6 ca qP0 (.ref (qT0 0)) (rP01) SP0 ++ w7 ca qT0 ST0)) [12, 0, 1, 2, 3, 4, 5, 6, 7, 8, 9, 10, 11] rfl
          have hD := hD.sub (ws' := (w11 ca qC (rC3) (rC4) (rC6) (rC7) (.ref (qP0 0)) (rC11) (rC12) (rC14) (rC15) (rC17) (rC18) (rC19) z8.2 ++ w6 ca qP0 (.ref (qT0 0)) (rP01) SP0 ++ w7 ca qT0 ST0)) [12, 0, 1, 2, 3, 4, 5, 6, 7, 8, 9, 10, 11] rfl rfl
          obtain rfl := Option.some.inj hf
          exact tc_ri X hP hD hS rfl dX11_topic_83 rfl rfl
        · have hf := tc_neg hn2 hf
          by_cases hn3 : a2 = (3 : Int32)
          · have hf := tc_pos hn3 hf
            refine lv_tableIn (off := 61) (tgt := 84) hx hb dX11_topic_23 (tc_sw (P := fun y => ¬ y.toInt < 0) hn3 (by decide)) (tc_sw (P := fun y => ¬ 3 < y.toInt) hn3 (by decide)) (tc_sw (P := fun y => (#[29, 40, 51, 61] : Array Int)[(y.toInt - 0).toNat]? = some 61) hn3 (by decide)) (by decide) ?_
            refine lv_aload_n hx hb dX11_topic_84 rfl (lv_at hl 1 rfl) ?_
            refine lv_aload_n hx hb dX11_topic_85 rfl (lv_at hl 0 rfl) ?_
            refine lv_iload_n hx hb dX11_topic_86 rfl (lv_at hl 2 rfl) ?_
            refine lv_iconst (v := (1 : Int32)) hx hb dX11_topic_87 (by decide) ?_
            refine lv_iadd hx hb dX11_topic_88 ?_
            obtain ⟨z9, hg, hf⟩ := tc_bi hf
            refine tc_iV (As := [.int (a1 + (1 : Int32))]) (rest := [.ref (qC 0)]) (b := qT0 0) (wc := w7 ca qT0 ST0) (wr := w11 ca qC (rC3) (rC4) (rC6) (rC7) (.ref (qP0 0)) (rC11) (rC12) (rC14) (rC15) (rC17) (rC18) (rC19) SC ++ w6 ca qP0 (.ref (qT0 0)) (rP01) SP0) X hP hD hS (mX7_talkersAt hg) okX7_talkersAt wl_X11_219 wi_X7_talkersAt ws_X7_X7_talkersAt_X7_talkersAt ⟨rfl, rfl, Nat.le_of_ble_eq_true rfl, Nat.le_of_ble_eq_true rfl⟩ 7 0 rfl rfl [2, 3, 4, 5, 6, 7, 8, 9, 10, 11, 12] [0, 1] ⟨rfl, rfl, rfl, rfl, by decide⟩ rfl hl.1 (Nat.le_of_ble_eq_true rfl) dX11_topic_89 (fun H locs hP hD hS => ?_)
            have hP := hP.sub (ws' := (w11 ca qC (rC3) (rC4) (rC6) (rC7) (.ref (qP0 0)) (rC11) (rC12) (rC14) (rC15) (rC17) (rC18) (rC19) SC ++ w6 ca qP0 (.ref (qT0 0)) (rP01) SP0 ++ w7 ca qT0 ST0)) [0, 1, 2, 3, 4, 5, 6, 7, 8, 9, 10, 11, 12] rfl
            have hD := hD.sub (ws' := (w11 ca qC (rC3) (rC4) (rC6) (rC7) (.ref (qP0 0)) (rC11) (rC12) (rC14) (rC15) (rC17) (rC18) (rC19) SC ++ w6 ca qP0 (.ref (qT0 0)) (rP01) SP0 ++ w7 ca qT0 ST0)) [0, 1, 2, 3, 4, 5, 6, 7, 8, 9, 10, 11, 12] rfl rfl
            obtain ⟨z10, hg, hf⟩ := tc_bi hf
            refine tc_iV (As := [.int (z9)]) (rest := []) (b := qC 0) (wc := w11 ca qC (rC3) (rC4) (rC6) (rC7) (.ref (qP0 0)) (rC11) (rC12) (rC14) (rC15) (rC17) (rC18) (rC19) SC) (wr := w6 ca qP0 (.ref (qT0 0)) (rP01) SP0 ++ w7 ca qT0 ST0) X hP hD hS (mX11_answer hg) okX11_answer wl_X11_182 wi_X11_answer ws_X11_X11_answer_X11_answer ⟨rfl, rfl, Nat.le_of_ble_eq_true rfl, Nat.le_of_ble_eq_true rfl⟩ 11 0 rfl rfl [0] [1, 2, 3, 4, 5, 6, 7, 8, 9, 10, 11, 12] ⟨rfl, rfl, rfl, rfl, by decide⟩ rfl hl.1 (Nat.le_of_ble_eq_true rfl) dX11_topic_92 (fun H locs hP hD hS => ?_)
            have hP := hP.sub (ws' := (w11 ca qC (rC3) (rC4) (rC6) (rC7) (.ref (qP0 0)) (rC11) (rC12) (rC14) (rC15) (rC17) (rC18) (rC19) z10.2 ++ w6 ca qP0 (.ref (qT0 0)) (rP01) SP0 ++ w7 ca qT0 ST0)) [12, 0, 1, 2, 3, 4, 5, 6, 7, 8, 9, 10, 11] rfl
            have hD := hD.sub (ws' := (w11 ca qC (rC3) (rC4) (rC6) (rC7) (.ref (qP0 0)) (rC11) (rC12) (rC14) (rC15) (rC17) (rC18) (rC19) z10.2 ++ w6 ca qP0 (.ref (qT0 0)) (rP01) SP0 ++ w7 ca qT0 ST0)) [12, 0, 1, 2, 3, 4, 5, 6, 7, 8, 9, 10, 11] rfl rfl
            obtain rfl := Option.some.inj hf
            exact tc_ri X hP hD hS rfl dX11_topic_95 rfl rfl
          · have hf := tc_neg hn3 hf
            have hout : (a2).toInt < 0 ∨ 3 < (a2).toInt := by
              have e0 := tc_ne hn0
              have e1 := tc_ne hn1
              have e2 := tc_ne hn2
              have e3 := tc_ne hn3
              simp only [show ((0 : Int32)).toInt = 0 from by decide, show ((1 : Int32)).toInt = 1 from by decide, show ((2 : Int32)).toInt = 2 from by decide, show ((3 : Int32)).toInt = 3 from by decide] at e0 e1 e2 e3
              omega
            refine lv_tableOut (tgt := 96) hx hb dX11_topic_23 hout (by decide) ?_
            refine lv_aload_n hx hb dX11_topic_96 rfl (lv_at hl 1 rfl) ?_
            refine lv_iconst (v := (5 : Int32)) hx hb dX11_topic_97 (by decide) ?_
            obtain ⟨z2, hg, hf⟩ := tc_bi hf
            refine tc_iV (As := [.int ((5 : Int32))]) (rest := []) (b := qC 0) (wc := w11 ca qC (rC3) (rC4) (rC6) (rC7) (.ref (qP0 0)) (rC11) (rC12) (rC14) (rC15) (rC17) (rC18) (rC19) SC) (wr := w6 ca qP0 (.ref (qT0 0)) (rP01) SP0 ++ w7 ca qT0 ST0) X hP hD hS (mX11_refuse hg) okX11_refuse wl_X11_121 wi_X11_refuse ws_X11_X11_refuse_X11_refuse ⟨rfl, rfl, Nat.le_of_ble_eq_true rfl, Nat.le_of_ble_eq_true rfl⟩ 11 0 rfl rfl [0] [1, 2, 3, 4, 5, 6, 7, 8, 9, 10, 11, 12] ⟨rfl, rfl, rfl, rfl, by decide⟩ rfl hl.1 (Nat.le_of_ble_eq_true rfl) dX11_topic_98 (fun H locs hP hD hS => ?_)
            have hP := hP.sub (ws' := (w11 ca qC (rC3) (rC4) (rC6) (rC7) (.ref (qP0 0)) (rC11) (rC12) (rC14) (rC15) (rC17) (rC18) (rC19) z2.2 ++ w6 ca qP0 (.ref (qT0 0)) (rP01) SP0 ++ w7 ca qT0 ST0)) [12, 0, 1, 2, 3, 4, 5, 6, 7, 8, 9, 10, 11] rfl
            have hD := hD.sub (ws' := (w11 ca qC (rC3) (rC4) (rC6) (rC7) (.ref (qP0 0)) (rC11) (rC12) (rC14) (rC15) (rC17) (rC18) (rC19) z2.2 ++ w6 ca qP0 (.ref (qT0 0)) (rP01) SP0 ++ w7 ca qT0 ST0)) [12, 0, 1, 2, 3, 4, 5, 6, 7, 8, 9, 10, 11] rfl rfl
            obtain rfl := Option.some.inj hf
            exact tc_ri X hP hD hS rfl dX11_topic_101 rfl rfl
  · have hf := tc_pos hc hf
    refine lv_aload_n hx hb dX11_topic_16 rfl (lv_at hl 1 rfl) ?_
    refine lv_iconst (v := (2 : Int32)) hx hb dX11_topic_17 (by decide) ?_
    obtain ⟨z11, hg, hf⟩ := tc_bi hf
    refine tc_iV (As := [.int ((2 : Int32))]) (rest := []) (b := qC 0) (wc := w11 ca qC (rC3) (rC4) (rC6) (rC7) (.ref (qP0 0)) (rC11) (rC12) (rC14) (rC15) (rC17) (rC18) (rC19) SC) (wr := w6 ca qP0 (.ref (qT0 0)) (rP01) SP0 ++ w7 ca qT0 ST0) X hP hD hS (mX11_refuse hg) okX11_refuse wl_X11_121 wi_X11_refuse ws_X11_X11_refuse_X11_refuse ⟨rfl, rfl, Nat.le_of_ble_eq_true rfl, Nat.le_of_ble_eq_true rfl⟩ 11 0 rfl rfl [0] [1, 2, 3, 4, 5, 6, 7, 8, 9, 10, 11, 12] ⟨rfl, rfl, rfl, rfl, by decide⟩ rfl hl.1 (Nat.le_of_ble_eq_true rfl) dX11_topic_18 (fun H locs hP hD hS => ?_)
    have hP := hP.sub (ws' := (w11 ca qC (rC3) (rC4) (rC6) (rC7) (.ref (qP0 0)) (rC11) (rC12) (rC14) (rC15) (rC17) (rC18) (rC19) z11.2 ++ w6 ca qP0 (.ref (qT0 0)) (rP01) SP0 ++ w7 ca qT0 ST0)) [12, 0, 1, 2, 3, 4, 5, 6, 7, 8, 9, 10, 11] rfl
    have hD := hD.sub (ws' := (w11 ca qC (rC3) (rC4) (rC6) (rC7) (.ref (qP0 0)) (rC11) (rC12) (rC14) (rC15) (rC17) (rC18) (rC19) z11.2 ++ w6 ca qP0 (.ref (qT0 0)) (rP01) SP0 ++ w7 ca qT0 ST0)) [12, 0, 1, 2, 3, 4, 5, 6, 7, 8, 9, 10, 11] rfl rfl
    obtain rfl := Option.some.inj hf
    exact tc_ri X hP hD hS rfl dX11_topic_21 rfl rfl
def fX11_claim  (SC : ms_T) (SP0 : ms_T) (ST0 : ms_T) (a1 : Int32) (a2 : Int32) : Option (Int32 × ms_T) :=
  (fX7_isClaim ST0 a1).bind fun z1 =>
  if z1 = 0 then
    (fX11_refuse SC (2 : Int32)).bind fun z10 =>
    some (z10.1, z10.2)
  else
    if a2 = (0 : Int32) then
      if inb a1 8 = true then
        (fX11_answer SC (ia ST0 3 a1)).bind fun z4 =>
        some (z4.1, z4.2)
      else none
    else
      if a2 = (1 : Int32) then
        if inb a1 8 = true then
          (fX11_answer SC (ia ST0 4 a1)).bind fun z6 =>
          some (z6.1, z6.2)
        else none
      else
        if a2 = (2 : Int32) then
          (fX11_answer SC (((gi ST0 7) >>> (a1 &&& 31)) &&& (1 : Int32))).bind fun z7 =>
          some (z7.1, z7.2)
        else
          if a2 = (3 : Int32) then
            (fX7_standing ST0).bind fun z8 =>
            (fX11_answer SC ((z8 >>> (a1 &&& 31)) &&& (1 : Int32))).bind fun z9 =>
            some (z9.1, z9.2)
          else
            (fX11_refuse SC (5 : Int32)).bind fun z2 =>
            some (z2.1, z2.2)
abbrev rmX11_claim : Room := { frames := 2, cells := 0, slots := 0, locals := 45 }
theorem okX11_claim : tc_ok yX11_claim cX11_claim 4 (some .int) 2 := ⟨wc_X11_claim, wn_X11, by decide, by decide, by decide +kernel⟩
set_option maxRecDepth 20000 in
theorem mX11_claim {qC : Nat → Nat} {qP0 : Nat → Nat} {qT0 : Nat → Nat} {rC3 : Value} {rC4 : Value} {rC6 : Value} {rC7 : Value} {rC11 : Value} {rC12 : Value} {rC14 : Value} {rC15 : Value} {rC17 : Value} {rC18 : Value} {rC19 : Value} {rP01 : Value} {SC : ms_T} {SP0 : ms_T} {ST0 : ms_T} {a1 : Int32} {a2 : Int32} {z : Int32 × ms_T}  (hf : fX11_claim SC SP0 ST0 a1 a2 = some z) : tc_MI l dC dI ca yX11_claim cX11_claim 4 (some .int) rmX11_claim [.ref (qC 0), .int (a1), .int (a2)] (w11 ca qC (rC3) (rC4) (rC6) (rC7) (.ref (qP0 0)) (rC11) (rC12) (rC14) (rC15) (rC17) (rC18) (rC19) SC ++ w6 ca qP0 (.ref (qT0 0)) (rP01) SP0 ++ w7 ca qT0 ST0) (w11 ca qC (rC3) (rC4) (rC6) (rC7) (.ref (qP0 0)) (rC11) (rC12) (rC14) (rC15) (rC17) (rC18) (rC19) z.2 ++ w6 ca qP0 (.ref (qT0 0)) (rP01) SP0 ++ w7 ca qT0 ST0) (z.1) := by
  refine tc_metI (own := RX11) (by decide) rfl ?_ (Nat.le_of_ble_eq_true rfl)
  intro p e s m below meth c A X hP hD hS ls hl
  obtain ⟨hx, hb, hr, hml, hown, hts, hlk, hK, hA, hG⟩ := id X
  unfold fX11_claim at hf
  have hl : lv_has ls 4 [(0, .ref (qC 0)), (1, .int (a1)), (2, .int (a2))] := hl
  refine lv_aload_n hx hb dX11_claim_0 rfl (lv_at hl 0 rfl) ?_
  refine va_get (D := (dC, dI)) (ci := 11) (v := .ref (qP0 0)) (C := RX11) (T := TX11) (N := 20) hx hb hts i_X11 hown hK hP 0 rfl rfl 10 (by decide) (hts _ wf_X11_39) (fun _ h9 => h9) rfl dX11_claim_1 ?_
  refine va_get (D := (dC, dI)) (ci := 6) (v := .ref (qT0 0)) (C := RX6) (T := TX6) (N := 2) hx hb hts i_X6 hown hK hP 1 rfl rfl 0 (by decide) (hts _ wf_X11_152) (fun _ h9 => h9) rfl dX11_claim_4 ?_
  refine lv_astore_n (lv' := [(3, .ref (qT0 0)), (0, .ref (qC 0)), (1, .int (a1)), (2, .int (a2))]) hx hb dX11_claim_7 rfl hl (by decide) rfl (fun ls hl => ?_)
  refine lv_aload_n hx hb dX11_claim_8 rfl (lv_at hl 0 rfl) ?_
  refine lv_iload_n hx hb dX11_claim_9 rfl (lv_at hl 2 rfl) ?_
  obtain ⟨z1, hg, hf⟩ := tc_bi hf
  refine tc_iV (As := [.int (a1)]) (rest := []) (b := qT0 0) (wc := w7 ca qT0 ST0) (wr := w11 ca qC (rC3) (rC4) (rC6) (rC7) (.ref (qP0 0)) (rC11) (rC12) (rC14) (rC15) (rC17) (rC18) (rC19) SC ++ w6 ca qP0 (.ref (qT0 0)) (rP01) SP0) X hP hD hS (mX7_isClaim hg) okX7_isClaim wl_X11_235 wi_X7_isClaim ws_X7_X7_isClaim_X7_isClaim ⟨rfl, rfl, Nat.le_of_ble_eq_true rfl, Nat.le_of_ble_eq_true rfl⟩ 7 0 rfl rfl [2, 3, 4, 5, 6, 7, 8, 9, 10, 11, 12] [0, 1] ⟨rfl, rfl, rfl, rfl, by decide⟩ rfl hl.1 (Nat.le_of_ble_eq_true rfl) dX11_claim_10 (fun H locs hP hD hS => ?_)
  have hP := hP.sub (ws' := (w11 ca qC (rC3) (rC4) (rC6) (rC7) (.ref (qP0 0)) (rC11) (rC12) (rC14) (rC15) (rC17) (rC18) (rC19) SC ++ w6 ca qP0 (.ref (qT0 0)) (rP01) SP0 ++ w7 ca qT0 ST0)) [0, 1, 2, 3, 4, 5, 6, 7, 8, 9, 10, 11, 12] rfl
  have hD := hD.sub (ws' := (w11 ca qC (rC3) (rC4) (rC6) (rC7) (.ref (qP0 0)) (rC11) (rC12) (rC14) (rC15) (rC17) (rC18) (rC19) SC ++ w6 ca qP0 (.ref (qT0 0)) (rP01) SP0 ++ w7 ca qT0 ST0)) [0, 1, 2, 3, 4, 5, 6, 7, 8, 9, 10, 11, 12] rfl rfl
  refine lv_if_ne (tgt := 22) hx hb dX11_claim_13 (by decide) (fun hc => ?_) (fun hc => ?_)
  · have hf := tc_neg hc hf
    refine lv_iload_n hx hb dX11_claim_22 rfl (lv_at hl 3 rfl) ?_
    by_cases hn0 : a2 = (0 : Int32)
    · have hf := tc_pos hn0 hf
      refine lv_tableIn (off := 29) (tgt := 52) hx hb dX11_claim_23 (tc_sw (P := fun y => ¬ y.toInt < 0) hn0 (by decide)) (tc_sw (P := fun y => ¬ 3 < y.toInt) hn0 (by decide)) (tc_sw (P := fun y => (#[29, 40, 51, 64] : Array Int)[(y.toInt - 0).toNat]? = some 29) hn0 (by decide)) (by decide) ?_
      refine lv_aload_n hx hb dX11_claim_52 rfl (lv_at hl 1 rfl) ?_
      refine lv_aload_n hx hb dX11_claim_53 rfl (lv_at hl 0 rfl) ?_
      refine va_get (D := (dC, dI)) (ci := 7) (v := .ref (qT0 3)) (C := RX7) (T := TX7) (N := 18) hx hb hts i_X7 hown hK hP 2 rfl rfl 5 (by decide) (hts _ wf_X11_238) (fun _ h9 => h9) rfl dX11_claim_54 ?_
      refine lv_iload_n hx hb dX11_claim_57 rfl (lv_at hl 2 rfl) ?_
      obtain ⟨hi3, hf⟩ := tc_in hf
      refine va_iald hx hb hK hP 5 1 rfl rfl hi3 dX11_claim_58 ?_
      obtain ⟨z4, hg, hf⟩ := tc_bi hf
      refine tc_iV (As := [.int (ia ST0 3 a1)]) (rest := []) (b := qC 0) (wc := w11 ca qC (rC3) (rC4) (rC6) (rC7) (.ref (qP0 0)) (rC11) (rC12) (rC14) (rC15) (rC17) (rC18) (rC19) SC) (wr := w6 ca qP0 (.ref (qT0 0)) (rP01) SP0 ++ w7 ca qT0 ST0) X hP hD hS (mX11_answer hg) okX11_answer wl_X11_182 wi_X11_answer ws_X11_X11_answer_X11_answer ⟨rfl, rfl, Nat.le_of_ble_eq_true rfl, Nat.le_of_ble_eq_true rfl⟩ 11 0 rfl rfl [0] [1, 2, 3, 4, 5, 6, 7, 8, 9, 10, 11, 12] ⟨rfl, rfl, rfl, rfl, by decide⟩ rfl hl.1 (Nat.le_of_ble_eq_true rfl) dX11_claim_59 (fun H locs hP hD hS => ?_)
      have hP := hP.sub (ws' := (w11 ca qC (rC3) (rC4) (rC6) (rC7) (.ref (qP0 0)) (rC11) (rC12) (rC14) (rC15) (rC17) (rC18) (rC19) z4.2 ++ w6 ca qP0 (.ref (qT0 0)) (rP01) SP0 ++ w7 ca qT0 ST0)) [12, 0, 1, 2, 3, 4, 5, 6, 7, 8, 9, 10, 11] rfl
      have hD := hD.sub (ws' := (w11 ca qC (rC3) (rC4) (rC6) (rC7) (.ref (qP0 0)) (rC11) (rC12) (rC14) (rC15) (rC17) (rC18) (rC19) z4.2 ++ w6 ca qP0 (.ref (qT0 0)) (rP01) SP0 ++ w7 ca qT0 ST0)) [12, 0, 1, 2, 3, 4, 5, 6, 7, 8, 9, 10, 11] rfl rfl
      obtain rfl := Option.some.inj hf
      exact tc_ri X hP hD hS rfl dX11_claim_62 rfl rfl
    · have hf := tc_neg hn0 hf
      by_cases hn1 : a2 = (1 : Int32)
      · have hf := tc_pos hn1 hf
        refine lv_tableIn (off := 40) (tgt := 63) hx hb dX11_claim_23 (tc_sw (P := fun y => ¬ y.toInt < 0) hn1 (by decide)) (tc_sw (P := fun y => ¬ 3 < y.toInt) hn1 (by decide)) (tc_sw (P := fun y => (#[29, 40, 51, 64] : Array Int)[(y.toInt - 0).toNat]? = some 40) hn1 (by decide)) (by decide) ?_
        refine lv_aload_n hx hb dX11_claim_63 rfl (lv_at hl 1 rfl) ?_
        refine lv_aload_n hx hb dX11_claim_64 rfl (lv_at hl 0 rfl) ?_
        refine va_get (D := (dC, dI)) (ci := 7) (v := .ref (qT0 4)) (C := RX7) (T := TX7) (N := 18) hx hb hts i_X7 hown hK hP 2 rfl rfl 6 (by decide) (hts _ wf_X11_241) (fun _ h9 => h9) rfl dX11_claim_65 ?_
        refine lv_iload_n hx hb dX11_claim_68 rfl (lv_at hl 2 rfl) ?_
        obtain ⟨hi5, hf⟩ := tc_in hf
        refine va_iald hx hb hK hP 6 1 rfl rfl hi5 dX11_claim_69 ?_
        obtain ⟨z6, hg, hf⟩ := tc_bi hf
        refine tc_iV (As := [.int (ia ST0 4 a1)]) (rest := []) (b := qC 0) (wc := w11 ca qC (rC3) (rC4) (rC6) (rC7) (.ref (qP0 0)) (rC11) (rC12) (rC14) (rC15) (rC17) (rC18) (rC19) SC) (wr := w6 ca qP0 (.ref (qT0 0)) (rP01) SP0 ++ w7 ca qT0 ST0) X hP hD hS (mX11_answer hg) okX11_answer wl_X11_182 wi_X11_answer ws_X11_X11_answer_X11_answer ⟨rfl, rfl, Nat.le_of_ble_eq_true rfl, Nat.le_of_ble_eq_true rfl⟩ 11 0 rfl rfl [0] [1, 2, 3, 4, 5, 6, 7, 8, 9, 10, 11, 12] ⟨rfl, rfl, rfl, rfl, by decide⟩ rfl hl.1 (Nat.le_of_ble_eq_true rfl) dX11_claim_70 (fun H locs hP hD hS => ?_)
        have hP := hP.sub (ws' := (w11 ca qC (rC3) (rC4) (rC6) (rC7) (.ref (qP0 0)) (rC11) (rC12) (rC14) (rC15) (rC17) (rC18) (rC19) z6.2 ++ w6 ca qP0 (.ref (qT0 0)) (rP01) SP0 ++ w7 ca qT0 ST0)) [12, 0, 1, 2, 3, 4, 5, 6, 7, 8, 9, 10, 11] rfl
        have hD := hD.sub (ws' := (w11 ca qC (rC3) (rC4) (rC6) (rC7) (.ref (qP0 0)) (rC11) (rC12) (rC14) (rC15) (rC17) (rC18) (rC19) z6.2 ++ w6 ca qP0 (.ref (qT0 0)) (rP01) SP0 ++ w7 ca qT0 ST0)) [12, 0, 1, 2, 3, 4, 5, 6, 7, 8, 9, 10, 11] rfl rfl
        obtain rfl := Option.some.inj hf
        exact tc_ri X hP hD hS rfl dX11_claim_73 rfl rfl
      · have hf := tc_neg hn1 hf
        by_cases hn2 : a2 = (2 : Int32)
        · have hf := tc_pos hn2 hf
          refine lv_tableIn (off := 51) (tgt := 74) hx hb dX11_claim_23 (tc_sw (P := fun y => ¬ y.toInt < 0) hn2 (by decide)) (tc_sw (P := fun y => ¬ 3 < y.toInt) hn2 (by decide)) (tc_sw (P := fun y => (#[29, 40, 51, 64] : Array Int)[(y.toInt - 0).toNat]? = some 51) hn2 (by decide)) (by decide) ?_
          refine lv_aload_n hx hb dX11_claim_74 rfl (lv_at hl 1 rfl) ?_
          refine lv_aload_n hx hb dX11_claim_75 rfl (lv_at hl 0 rfl) ?_
          refine va_get (D := (dC, dI)) (ci := 7) (v := .int (gi ST0 7)) (C := RX7) (T := TX7) (N := 18) hx hb hts i_X7 hown hK hP 2 rfl rfl 7 (by decide) (hts _ wf_X11_213) (fun _ h9 => h9) rfl dX11_claim_76 ?_
          refine lv_iload_n hx hb dX11_claim_79 rfl (lv_at hl 2 rfl) ?_
          refine lv_ishr hx hb dX11_claim_80 ?_
          refine lv_iconst (v := (1 : Int32)) hx hb dX11_claim_81 (by decide) ?_
          refine lv_iand hx hb dX11_claim_82 ?_
          obtain ⟨z7, hg, hf⟩ := tc_bi hf
          refine tc_iV (As := [.int (((gi ST0 7) >>> (a1 &&& 31)) &&& (1 : Int32))]) (rest := []) (b := qC 0) (wc := w11 ca qC (rC3) (rC4) (rC6) (rC7) (.ref (qP0 0)) (rC11) (rC12) (rC14) (rC15) (rC17) (rC18) (rC19) SC) (wr := w6 ca qP0 (.ref (qT0 0)) (rP01) SP0 ++ w7 ca qT0 ST0) X hP hD hS (mX11_answer hg) okX11_answer wl_X11_182 wi_X11_answer ws_X11_X11_answer_X11_answer ⟨rfl, rfl, Nat.le_of_ble_eq_true rfl, Nat.le_of_ble_eq_true rfl⟩ 11 0 rfl rfl [0] [1, 2, 3, 4, 5, 6, 7, 8, 9, 10, 11, 12] ⟨rfl, rfl, rfl, rfl, by decide⟩ rfl hl.1 (Nat.le_of_ble_eq_true rfl) dX11_claim_83 (fun H locs hP hD hS => ?_)
          have hP := hP.sub (ws' := (w11 ca qC (rC3) (rC4) (rC6) (rC7) (.ref (qP0 0)) (rC11) (rC12) (rC14) (rC15) (rC17) (rC18) (rC19) z7.2 ++ w6 ca qP0 (.ref (qT0 0)) (rP01) SP0 ++ w7 ca qT0 ST0)) [12, 0, 1, 2, 3, 4, 5, 6, 7, 8, 9, 10, 11] rfl
          have hD := hD.sub (ws' := (w11 ca qC (rC3) (rC4) (rC6) (rC7) (.ref (qP0 0)) (rC11) (rC12) (rC14) (rC15) (rC17) (rC18) (rC19) z7.2 ++ w6 ca qP0 (.ref (qT0 0)) (rP01) SP0 ++ w7 ca qT0 ST0)) [12, 0, 1, 2, 3, 4, 5, 6, 7, 8, 9, 10, 11] rfl rfl
          obtain rfl := Option.some.inj hf
          exact tc_ri X hP hD hS rfl dX11_claim_86 rfl rfl
        · have hf := tc_neg hn2 hf
          by_cases hn3 : a2 = (3 : Int32)
          · have hf := tc_pos hn3 hf
            refine lv_tableIn (off := 64) (tgt := 87) hx hb dX11_claim_23 (tc_sw (P := fun y => ¬ y.toInt < 0) hn3 (by decide)) (tc_sw (P := fun y => ¬ 3 < y.toInt) hn3 (by decide)) (tc_sw (P := fun y => (#[29, 40, 51, 64] : Array Int)[(y.toInt - 0).toNat]? = some 64) hn3 (by decide)) (by decide) ?_
            refine lv_aload_n hx hb dX11_claim_87 rfl (lv_at hl 1 rfl) ?_
            refine lv_aload_n hx hb dX11_claim_88 rfl (lv_at hl 0 rfl) ?_
            obtain ⟨z8, hg, hf⟩ := tc_bi hf
            refine tc_iV (As := []) (rest := [.ref (qC 0)]) (b := qT0 0) (wc := w7 ca qT0 ST0) (wr := w11 ca qC (rC3) (rC4) (rC6) (rC7) (.ref (qP0 0)) (rC11) (rC12) (rC14) (rC15) (rC17) (rC18) (rC19) SC ++ w6 ca qP0 (.ref (qT0 0)) (rP01) SP0) X hP hD hS (mX7_standing hg) okX7_standing wl_X11_209 wi_X7_standing ws_X7_X7_standing_X7_standing ⟨rfl, rfl, Nat.le_of_ble_eq_true rfl, Nat.le_of_ble_eq_true rfl⟩ 7 0 rfl rfl [2, 3, 4, 5, 6, 7, 8, 9, 10, 11, 12] [0, 1] ⟨rfl, rfl, rfl, rfl, by decide⟩ rfl hl.1 (Nat.le_of_ble_eq_true rfl) dX11_claim_89 (fun H locs hP hD hS => ?_)
            have hP := hP.sub (ws' := (w11 ca qC (rC3) (rC4) (rC6) (rC7) (.ref (qP0 0)) (rC11) (rC12) (rC14) (rC15) (rC17) (rC18) (rC19) SC ++ w6 ca qP0 (.ref (qT0 0)) (rP01) SP0 ++ w7 ca qT0 ST0)) [0, 1, 2, 3, 4, 5, 6, 7, 8, 9, 10, 11, 12] rfl
            have hD := hD.sub (ws' := (w11 ca qC (rC3) (rC4) (rC6) (rC7) (.ref (qP0 0)) (rC11) (rC12) (rC14) (rC15) (rC17) (rC18) (rC19) SC ++ w6 ca qP0 (.ref (qT0 0)) (rP01) SP0 ++ w7 ca qT0 ST0)) [0, 1, 2, 3, 4, 5, 6, 7, 8, 9, 10, 11, 12] rfl rfl
            refine lv_iload_n hx hb dX11_claim_92 rfl (lv_at hl 2 rfl) ?_
            refine lv_ishr hx hb dX11_claim_93 ?_
            refine lv_iconst (v := (1 : Int32)) hx hb dX11_claim_94 (by decide) ?_
            refine lv_iand hx hb dX11_claim_95 ?_
            obtain ⟨z9, hg, hf⟩ := tc_bi hf
            refine tc_iV (As := [.int ((z8 >>> (a1 &&& 31)) &&& (1 : Int32))]) (rest := []) (b := qC 0) (wc := w11 ca qC (rC3) (rC4) (rC6) (rC7) (.ref (qP0 0)) (rC11) (rC12) (rC14) (rC15) (rC17) (rC18) (rC19) SC) (wr := w6 ca qP0 (.ref (qT0 0)) (rP01) SP0 ++ w7 ca qT0 ST0) X hP hD hS (mX11_answer hg) okX11_answer wl_X11_182 wi_X11_answer ws_X11_X11_answer_X11_answer ⟨rfl, rfl, Nat.le_of_ble_eq_true rfl, Nat.le_of_ble_eq_true rfl⟩ 11 0 rfl rfl [0] [1, 2, 3, 4, 5, 6, 7, 8, 9, 10, 11, 12] ⟨rfl, rfl, rfl, rfl, by decide⟩ rfl hl.1 (Nat.le_of_ble_eq_true rfl) dX11_claim_96 (fun H locs hP hD hS => ?_)
            have hP := hP.sub (ws' := (w11 ca qC (rC3) (rC4) (rC6) (rC7) (.ref (qP0 0)) (rC11) (rC12) (rC14) (rC15) (rC17) (rC18) (rC19) z9.2 ++ w6 ca qP0 (.ref (qT0 0)) (rP01) SP0 ++ w7 ca qT0 ST0)) [12, 0, 1, 2, 3, 4, 5, 6, 7, 8, 9, 10, 11] rfl
            have hD := hD.sub (ws' := (w11 ca qC (rC3) (rC4) (rC6) (rC7) (.ref (qP0 0)) (rC11) (rC12) (rC14) (rC15) (rC17) (rC18) (rC19) z9.2 ++ w6 ca qP0 (.ref (qT0 0)) (rP01) SP0 ++ w7 ca qT0 ST0)) [12, 0, 1, 2, 3, 4, 5, 6, 7, 8, 9, 10, 11] rfl rfl
            obtain rfl := Option.some.inj hf
            exact tc_ri X hP hD hS rfl dX11_claim_99 rfl rfl
          · have hf := tc_neg hn3 hf
            have hout : (a2).toInt < 0 ∨ 3 < (a2).toInt := by
              have e0 := tc_ne hn0
              have e1 := tc_ne hn1
              have e2 := tc_ne hn2
              have e3 := tc_ne hn3
              simp only [show ((0 : Int32)).toInt = 0 from by decide, show ((1 : Int32)).toInt = 1 from by decide, show ((2 : Int32)).toInt = 2 from by decide, show ((3 : Int32)).toInt = 3 from by decide] at e0 e1 e2 e3
              omega
            refine lv_tableOut (tgt := 100) hx hb dX11_claim_23 hout (by decide) ?_
            refine lv_aload_n hx hb dX11_claim_100 rfl (lv_at hl 1 rfl) ?_
            refine lv_iconst (v := (5 : Int32)) hx hb dX11_claim_101 (by decide) ?_
            obtain ⟨z2, hg, hf⟩ := tc_bi hf
            refine tc_iV (As := [.int ((5 : Int32))]) (rest := []) (b := qC 0) (wc := w11 ca qC (rC3) (rC4) (rC6) (rC7) (.ref (qP0 0)) (rC11) (rC12) (rC14) (rC15) (rC17) (rC18) (rC19) SC) (wr := w6 ca qP0 (.ref (qT0 0)) (rP01) SP0 ++ w7 ca qT0 ST0) X hP hD hS (mX11_refuse hg) okX11_refuse wl_X11_121 wi_X11_refuse ws_X11_X11_refuse_X11_refuse ⟨rfl, rfl, Nat.le_of_ble_eq_true rfl, Nat.le_of_ble_eq_true rfl⟩ 11 0 rfl rfl [0] [1, 2, 3, 4, 5, 6, 7, 8, 9, 10, 11, 12] ⟨rfl, rfl, rfl, rfl, by decide⟩ rfl hl.1 (Nat.le_of_ble_eq_true rfl) dX11_claim_102 (fun H locs hP hD hS => ?_)
            have hP := hP.sub (ws' := (w11 ca qC (rC3) (rC4) (rC6) (rC7) (.ref (qP0 0)) (rC11) (rC12) (rC14) (rC15) (rC17) (rC18) (rC19) z2.2 ++ w6 ca qP0 (.ref (qT0 0)) (rP01) SP0 ++ w7 ca qT0 ST0)) [12, 0, 1, 2, 3, 4, 5, 6, 7, 8, 9, 10, 11] rfl
            have hD := hD.sub (ws' := (w11 ca qC (rC3) (rC4) (rC6) (rC7) (.ref (qP0 0)) (rC11) (rC12) (rC14) (rC15) (rC17) (rC18) (rC19) z2.2 ++ w6 ca qP0 (.ref (qT0 0)) (rP01) SP0 ++ w7 ca qT0 ST0)) [12, 0, 1, 2, 3, 4, 5, 6, 7, 8, 9, 10, 11] rfl rfl
            obtain rfl := Option.some.inj hf
            exact tc_ri X hP hD hS rfl dX11_claim_105 rfl rfl
  · have hf := tc_pos hc hf
    refine lv_aload_n hx hb dX11_claim_16 rfl (lv_at hl 1 rfl) ?_
    refine lv_iconst (v := (2 : Int32)) hx hb dX11_claim_17 (by decide) ?_
    obtain ⟨z10, hg, hf⟩ := tc_bi hf
    refine tc_iV (As := [.int ((2 : Int32))]) (rest := []) (b := qC 0) (wc := w11 ca qC (rC3) (rC4) (rC6) (rC7) (.ref (qP0 0)) (rC11) (rC12) (rC14) (rC15) (rC17) (rC18) (rC19) SC) (wr := w6 ca qP0 (.ref (qT0 0)) (rP01) SP0 ++ w7 ca qT0 ST0) X hP hD hS (mX11_refuse hg) okX11_refuse wl_X11_121 wi_X11_refuse ws_X11_X11_refuse_X11_refuse ⟨rfl, rfl, Nat.le_of_ble_eq_true rfl, Nat.le_of_ble_eq_true rfl⟩ 11 0 rfl rfl [0] [1, 2, 3, 4, 5, 6, 7, 8, 9, 10, 11, 12] ⟨rfl, rfl, rfl, rfl, by decide⟩ rfl hl.1 (Nat.le_of_ble_eq_true rfl) dX11_claim_18 (fun H locs hP hD hS => ?_)
    have hP := hP.sub (ws' := (w11 ca qC (rC3) (rC4) (rC6) (rC7) (.ref (qP0 0)) (rC11) (rC12) (rC14) (rC15) (rC17) (rC18) (rC19) z10.2 ++ w6 ca qP0 (.ref (qT0 0)) (rP01) SP0 ++ w7 ca qT0 ST0)) [12, 0, 1, 2, 3, 4, 5, 6, 7, 8, 9, 10, 11] rfl
    have hD := hD.sub (ws' := (w11 ca qC (rC3) (rC4) (rC6) (rC7) (.ref (qP0 0)) (rC11) (rC12) (rC14) (rC15) (rC17) (rC18) (rC19) z10.2 ++ w6 ca qP0 (.ref (qT0 0)) (rP01) SP0 ++ w7 ca qT0 ST0)) [12, 0, 1, 2, 3, 4, 5, 6, 7, 8, 9, 10, 11] rfl rfl
    obtain rfl := Option.some.inj hf
    exact tc_ri X hP hD hS rfl dX11_claim_21 rfl rfl
def fX11_talker  (SC : ms_T) (SP0 : ms_T) (ST0 : ms_T) (a1 : Int32) (a2 : Int32) : Option (Int32 × ms_T) :=
  (fX7_isTalker ST0 a1).bind fun z1 =>
  if z1 = 0 then
    (fX11_refuse SC (2 : Int32)).bind fun z12 =>
    some (z12.1, z12.2)
  else
    if a2 = (0 : Int32) then
      if inb a1 6 = true then
        (fX11_answer SC (ia ST0 5 a1)).bind fun z4 =>
        some (z4.1, z4.2)
      else none
    else
      if a2 = (1 : Int32) then
        if inb a1 6 = true then
          (fX11_answer SC (ia ST0 6 a1)).bind fun z6 =>
          some (z6.1, z6.2)
        else none
      else
        if a2 = (2 : Int32) then
          (fX11_answer SC (((gi ST0 12) >>> (a1 &&& 31)) &&& (1 : Int32))).bind fun z7 =>
          some (z7.1, z7.2)
        else
          if a2 = (3 : Int32) then
            if inb a1 6 = true then
              (fX11_answer SC (ia ST0 7 a1)).bind fun z9 =>
              some (z9.1, z9.2)
            else none
          else
            if a2 = (4 : Int32) then
              (fX7_sayable ST0 a1).bind fun z10 =>
              (fX11_answer SC z10).bind fun z11 =>
              some (z11.1, z11.2)
            else
              (fX11_refuse SC (5 : Int32)).bind fun z2 =>
              some (z2.1, z2.2)
abbrev rmX11_talker : Room := { frames := 3, cells := 0, slots := 0, locals := 68 }
theorem okX11_talker : tc_ok yX11_talker cX11_talker 4 (some .int) 2 := ⟨wc_X11_talker, wn_X11, by decide, by decide, by decide +kernel⟩
set_option maxRecDepth 20000 in
theorem mX11_talker {qC : Nat → Nat} {qP0 : Nat → Nat} {qT0 : Nat → Nat} {rC3 : Value} {rC4 : Value} {rC6 : Value} {rC7 : Value} {rC11 : Value} {rC12 : Value} {rC14 : Value} {rC15 : Value} {rC17 : Value} {rC18 : Value} {rC19 : Value} {rP01 : Value} {SC : ms_T} {SP0 : ms_T} {ST0 : ms_T} {a1 : Int32} {a2 : Int32} {z : Int32 × ms_T}  (hf : fX11_talker SC SP0 ST0 a1 a2 = some z) : tc_MI l dC dI ca yX11_talker cX11_talker 4 (some .int) rmX11_talker [.ref (qC 0), .int (a1), .int (a2)] (w11 ca qC (rC3) (rC4) (rC6) (rC7) (.ref (qP0 0)) (rC11) (rC12) (rC14) (rC15) (rC17) (rC18) (rC19) SC ++ w6 ca qP0 (.ref (qT0 0)) (rP01) SP0 ++ w7 ca qT0 ST0) (w11 ca qC (rC3) (rC4) (rC6) (rC7) (.ref (qP0 0)) (rC11) (rC12) (rC14) (rC15) (rC17) (rC18) (rC19) z.2 ++ w6 ca qP0 (.ref (qT0 0)) (rP01) SP0 ++ w7 ca qT0 ST0) (z.1) := by
  refine tc_metI (own := RX11) (by decide) rfl ?_ (Nat.le_of_ble_eq_true rfl)
  intro p e s m below meth c A X hP hD hS ls hl
  obtain ⟨hx, hb, hr, hml, hown, hts, hlk, hK, hA, hG⟩ := id X
  unfold fX11_talker at hf
  have hl : lv_has ls 4 [(0, .ref (qC 0)), (1, .int (a1)), (2, .int (a2))] := hl
  refine lv_aload_n hx hb dX11_talker_0 rfl (lv_at hl 0 rfl) ?_
  refine va_get (D := (dC, dI)) (ci := 11) (v := .ref (qP0 0)) (C := RX11) (T := TX11) (N := 20) hx hb hts i_X11 hown hK hP 0 rfl rfl 10 (by decide) (hts _ wf_X11_39) (fun _ h9 => h9) rfl dX11_talker_1 ?_
  refine va_get (D := (dC, dI)) (ci := 6) (v := .ref (qT0 0)) (C := RX6) (T := TX6) (N := 2) hx hb hts i_X6 hown hK hP 1 rfl rfl 0 (by decide) (hts _ wf_X11_152) (fun _ h9 => h9) rfl dX11_talker_4 ?_
  refine lv_astore_n (lv' := [(3, .ref (qT0 0)), (0, .ref (qC 0)), (1, .int (a1)), (2, .int (a2))]) hx hb dX11_talker_7 rfl hl (by decide) rfl (fun ls hl => ?_)
  refine lv_aload_n hx hb dX11_talker_8 rfl (lv_at hl 0 rfl) ?_
  refine lv_iload_n hx hb dX11_talker_9 rfl (lv_at hl 2 rfl) ?_
  obtain ⟨z1, hg, hf⟩ := tc_bi hf
  refine tc_iV (As := [.int (a1)]) (rest := []) (b := qT0 0) (wc := w7 ca qT0 ST0) (wr := w11 ca qC (rC3) (rC4) (rC6) (rC7) (.ref (qP0 0)) (rC11) (rC12) (rC14) (rC15) (rC17) (rC18) (rC19) SC ++ w6 ca qP0 (.ref (qT0 0)) (rP01) SP0) X hP hD hS (mX7_isTalker hg) okX7_isTalker wl_X11_244 wi_X7_isTalker ws_X7_X7_isTalker_X7_isTalker ⟨rfl, rfl, Nat.le_of_ble_eq_true rfl, Nat.le_of_ble_eq_true rfl⟩ 7 0 rfl rfl [2, 3, 4, 5, 6, 7, 8, 9, 10, 11, 12] [0, 1] ⟨rfl, rfl, rfl, rfl, by decide⟩ rfl hl.1 (Nat.le_of_ble_eq_true rfl) dX11_talker_10 (fun H locs hP hD hS => ?_)
  have hP := hP.sub (ws' := (w11 ca qC (rC3) (rC4) (rC6) (rC7) (.ref (qP0 0)) (rC11) (rC12) (rC14) (rC15) (rC17) (rC18) (rC19) SC ++ w6 ca qP0 (.ref (qT0 0)) (rP01) SP0 ++ w7 ca qT0 ST0)) [0, 1, 2, 3, 4, 5, 6, 7, 8, 9, 10, 11, 12] rfl
  have hD := hD.sub (ws' := (w11 ca qC (rC3) (rC4) (rC6) (rC7) (.ref (qP0 0)) (rC11) (rC12) (rC14) (rC15) (rC17) (rC18) (rC19) SC ++ w6 ca qP0 (.ref (qT0 0)) (rP01) SP0 ++ w7 ca qT0 ST0)) [0, 1, 2, 3, 4, 5, 6, 7, 8, 9, 10, 11, 12] rfl rfl
  refine lv_if_ne (tgt := 22) hx hb dX11_talker_13 (by decide) (fun hc => ?_) (fun hc => ?_)
  · have hf := tc_neg hc hf
    refine lv_iload_n hx hb dX11_talker_22 rfl (lv_at hl 3 rfl) ?_
    by_cases hn0 : a2 = (0 : Int32)
    · have hf := tc_pos hn0 hf
      refine lv_tableIn (off := 33) (tgt := 56) hx hb dX11_talker_23 (tc_sw (P := fun y => ¬ y.toInt < 0) hn0 (by decide)) (tc_sw (P := fun y => ¬ 4 < y.toInt) hn0 (by decide)) (tc_sw (P := fun y => (#[33, 44, 55, 68, 79] : Array Int)[(y.toInt - 0).toNat]? = some 33) hn0 (by decide)) (by decide) ?_
      refine lv_aload_n hx hb dX11_talker_56 rfl (lv_at hl 1 rfl) ?_
      refine lv_aload_n hx hb dX11_talker_57 rfl (lv_at hl 0 rfl) ?_
      refine va_get (D := (dC, dI)) (ci := 7) (v := .ref (qT0 5)) (C := RX7) (T := TX7) (N := 18) hx hb hts i_X7 hown hK hP 2 rfl rfl 9 (by decide) (hts _ wf_X11_247) (fun _ h9 => h9) rfl dX11_talker_58 ?_
      refine lv_iload_n hx hb dX11_talker_61 rfl (lv_at hl 2 rfl) ?_
      obtain ⟨hi3, hf⟩ := tc_in hf
      refine va_iald hx hb hK hP 7 1 rfl rfl hi3 dX11_talker_62 ?_
      obtain ⟨z4, hg, hf⟩ := tc_bi hf
      refine tc_iV (As := [.int (ia ST0 5 a1)]) (rest := []) (b := qC 0) (wc := w11 ca qC (rC3) (rC4) (rC6) (rC7) (.ref (qP0 0)) (rC11) (rC12) (rC14) (rC15) (rC17) (rC18) (rC19) SC) (wr := w6 ca qP0 (.ref (qT0 0)) (rP01) SP0 ++ w7 ca qT0 ST0) X hP hD hS (mX11_answer hg) okX11_answer wl_X11_182 wi_X11_answer ws_X11_X11_answer_X11_answer ⟨rfl, rfl, Nat.le_of_ble_eq_true rfl, Nat.le_of_ble_eq_true rfl⟩ 11 0 rfl rfl [0] [1, 2, 3, 4, 5, 6, 7, 8, 9, 10, 11, 12] ⟨rfl, rfl, rfl, rfl, by decide⟩ rfl hl.1 (Nat.le_of_ble_eq_true rfl) dX11_talker_63 (fun H locs hP hD hS => ?_)
      have hP := hP.sub (ws' := (w11 ca qC (rC3) (rC4) (rC6) (rC7) (.ref (qP0 0)) (rC11) (rC12) (rC14) (rC15) (rC17) (rC18) (rC19) z4.2 ++ w6 ca qP0 (.ref (qT0 0)) (rP01) SP0 ++ w7 ca qT0 ST0)) [12, 0, 1, 2, 3, 4, 5, 6, 7, 8, 9, 10, 11] rfl
      have hD := hD.sub (ws' := (w11 ca qC (rC3) (rC4) (rC6) (rC7) (.ref (qP0 0)) (rC11) (rC12) (rC14) (rC15) (rC17) (rC18) (rC19) z4.2 ++ w6 ca qP0 (.ref (qT0 0)) (rP01) SP0 ++ w7 ca qT0 ST0)) [12, 0, 1, 2, 3, 4, 5, 6, 7, 8, 9, 10, 11] rfl rfl
      obtain rfl := Option.some.inj hf
      exact tc_ri X hP hD hS rfl dX11_talker_66 rfl rfl
    · have hf := tc_neg hn0 hf
      by_cases hn1 : a2 = (1 : Int32)
      · have hf := tc_pos hn1 hf
        refine lv_tableIn (off := 44) (tgt := 67) hx hb dX11_talker_23 (tc_sw (P := fun y => ¬ y.toInt < 0) hn1 (by decide)) (tc_sw (P := fun y => ¬ 4 < y.toInt) hn1 (by decide)) (tc_sw (P := fun y => (#[33, 44, 55, 68, 79] : Array Int)[(y.toInt - 0).toNat]? = some 44) hn1 (by decide)) (by decide) ?_
        refine lv_aload_n hx hb dX11_talker_67 rfl (lv_at hl 1 rfl) ?_
        refine lv_aload_n hx hb dX11_talker_68 rfl (lv_at hl 0 rfl) ?_
        refine va_get (D := (dC, dI)) (ci := 7) (v := .ref (qT0 6)) (C := RX7) (T := TX7) (N := 18) hx hb hts i_X7 hown hK hP 2 rfl rfl 10 (by decide) (hts _ wf_X11_250) (fun _ h9 => h9) rfl dX11_talker_69 ?_
        refine lv_iload_n hx hb dX11_talker_72 rfl (lv_at hl 2 rfl) ?_
        obtain ⟨hi5, hf⟩ := tc_in hf
        refine va_iald hx hb hK hP 8 1 rfl rfl hi5 dX11_talker_73 ?_
        obtain ⟨z6, hg, hf⟩ := tc_bi hf
        refine tc_iV (As := [.int (ia ST0 6 a1)]) (rest := []) (b := qC 0) (wc := w11 ca qC (rC3) (rC4) (rC6) (rC7) (.ref (qP0 0)) (rC11) (rC12) (rC14) (rC15) (rC17) (rC18) (rC19) SC) (wr := w6 ca qP0 (.ref (qT0 0)) (rP01) SP0 ++ w7 ca qT0 ST0) X hP hD hS (mX11_answer hg) okX11_answer wl_X11_182 wi_X11_answer ws_X11_X11_answer_X11_answer ⟨rfl, rfl, Nat.le_of_ble_eq_true rfl, Nat.le_of_ble_eq_true rfl⟩ 11 0 rfl rfl [0] [1, 2, 3, 4, 5, 6, 7, 8, 9, 10, 11, 12] ⟨rfl, rfl, rfl, rfl, by decide⟩ rfl hl.1 (Nat.le_of_ble_eq_true rfl) dX11_talker_74 (fun H locs hP hD hS => ?_)
        have hP := hP.sub (ws' := (w11 ca qC (rC3) (rC4) (rC6) (rC7) (.ref (qP0 0)) (rC11) (rC12) (rC14) (rC15) (rC17) (rC18) (rC19) z6.2 ++ w6 ca qP0 (.ref (qT0 0)) (rP01) SP0 ++ w7 ca qT0 ST0)) [12, 0, 1, 2, 3, 4, 5, 6, 7, 8, 9, 10, 11] rfl
        have hD := hD.sub (ws' := (w11 ca qC (rC3) (rC4) (rC6) (rC7) (.ref (qP0 0)) (rC11) (rC12) (rC14) (rC15) (rC17) (rC18) (rC19) z6.2 ++ w6 ca qP0 (.ref (qT0 0)) (rP01) SP0 ++ w7 ca qT0 ST0)) [12, 0, 1, 2, 3, 4, 5, 6, 7, 8, 9, 10, 11] rfl rfl
        obtain rfl := Option.some.inj hf
        exact tc_ri X hP hD hS rfl dX11_talker_77 rfl rfl
      · have hf := tc_neg hn1 hf
        by_cases hn2 : a2 = (2 : Int32)
        · have hf := tc_pos hn2 hf
          refine lv_tableIn (off := 55) (tgt := 78) hx hb dX11_talker_23 (tc_sw (P := fun y => ¬ y.toInt < 0) hn2 (by decide)) (tc_sw (P := fun y => ¬ 4 < y.toInt) hn2 (by decide)) (tc_sw (P := fun y => (#[33, 44, 55, 68, 79] : Array Int)[(y.toInt - 0).toNat]? = some 55) hn2 (by decide)) (by decide) ?_
          refine lv_aload_n hx hb dX11_talker_78 rfl (lv_at hl 1 rfl) ?_
          refine lv_aload_n hx hb dX11_talker_79 rfl (lv_at hl 0 rfl) ?_
          refine va_get (D := (dC, dI)) (ci := 7) (v := .int (gi ST0 12)) (C := RX7) (T := TX7) (N := 18) hx hb hts i_X7 hown hK hP 2 rfl rfl 12 (by decide) (hts _ wf_X11_216) (fun _ h9 => h9) rfl dX11_talker_80 ?_
          refine lv_iload_n hx hb dX11_talker_83 rfl (lv_at hl 2 rfl) ?_
          refine lv_ishr hx hb dX11_talker_84 ?_
          refine lv_iconst (v := (1 : Int32)) hx hb dX11_talker_85 (by decide) ?_
          refine lv_iand hx hb dX11_talker_86 ?_
          obtain ⟨z7, hg, hf⟩ := tc_bi hf
          refine tc_iV (As := [.int (((gi ST0 12) >>> (a1 &&& 31)) &&& (1 : Int32))]) (rest := []) (b := qC 0) (wc := w11 ca qC (rC3) (rC4) (rC6) (rC7) (.ref (qP0 0)) (rC11) (rC12) (rC14) (rC15) (rC17) (rC18) (rC19) SC) (wr := w6 ca qP0 (.ref (qT0 0)) (rP01) SP0 ++ w7 ca qT0 ST0) X hP hD hS (mX11_answer hg) okX11_answer wl_X11_182 wi_X11_answer ws_X11_X11_answer_X11_answer ⟨rfl, rfl, Nat.le_of_ble_eq_true rfl, Nat.le_of_ble_eq_true rfl⟩ 11 0 rfl rfl [0] [1, 2, 3, 4, 5, 6, 7, 8, 9, 10, 11, 12] ⟨rfl, rfl, rfl, rfl, by decide⟩ rfl hl.1 (Nat.le_of_ble_eq_true rfl) dX11_talker_87 (fun H locs hP hD hS => ?_)
          have hP := hP.sub (ws' := (w11 ca qC (rC3) (rC4) (rC6) (rC7) (.ref (qP0 0)) (rC11) (rC12) (rC14) (rC15) (rC17) (rC18) (rC19) z7.2 ++ w6 ca qP0 (.ref (qT0 0)) (rP01) SP0 ++ w7 ca qT0 ST0)) [12, 0, 1, 2, 3, 4, 5, 6, 7, 8, 9, 10, 11] rfl
          have hD := hD.sub (ws' := (w11 ca qC (rC3) (rC4) (rC6) (rC7) (.ref (qP0 0)) (rC11) (rC12) (rC14) (rC15) (rC17) (rC18) (rC19) z7.2 ++ w6 ca qP0 (.ref (qT0 0)) (rP01) SP0 ++ w7 ca qT0 ST0)) [12, 0, 1, 2, 3, 4, 5, 6, 7, 8, 9, 10, 11] rfl rfl
          obtain rfl := Option.some.inj hf
          exact tc_ri X hP hD hS rfl dX11_talker_90 rfl rfl
        · have hf := tc_neg hn2 hf
          by_cases hn3 : a2 = (3 : Int32)
          · have hf := tc_pos hn3 hf
            refine lv_tableIn (off := 68) (tgt := 91) hx hb dX11_talker_23 (tc_sw (P := fun y => ¬ y.toInt < 0) hn3 (by decide)) (tc_sw (P := fun y => ¬ 4 < y.toInt) hn3 (by decide)) (tc_sw (P := fun y => (#[33, 44, 55, 68, 79] : Array Int)[(y.toInt - 0).toNat]? = some 68) hn3 (by decide)) (by decide) ?_
            refine lv_aload_n hx hb dX11_talker_91 rfl (lv_at hl 1 rfl) ?_
            refine lv_aload_n hx hb dX11_talker_92 rfl (lv_at hl 0 rfl) ?_
            refine va_get (D := (dC, dI)) (ci := 7) (v := .ref (qT0 7)) (C := RX7) (T := TX7) (N := 18) hx hb hts i_X7 hown hK hP 2 rfl rfl 11 (by decide) (hts _ wf_X11_253) (fun _ h9 => h9) rfl dX11_talker_93 ?_
            refine lv_iload_n hx hb dX11_talker_96 rfl (lv_at hl 2 rfl) ?_
            obtain ⟨hi8, hf⟩ := tc_in hf
            refine va_iald hx hb hK hP 9 1 rfl rfl hi8 dX11_talker_97 ?_
            obtain ⟨z9, hg, hf⟩ := tc_bi hf
            refine tc_iV (As := [.int (ia ST0 7 a1)]) (rest := []) (b := qC 0) (wc := w11 ca qC (rC3) (rC4) (rC6) (rC7) (.ref (qP0 0)) (rC11) (rC12) (rC14) (rC15) (rC17) (rC18) (rC19) SC) (wr := w6 ca qP0 (.ref (qT0 0)) (rP01) SP0 ++ w7 ca qT0 ST0) X hP hD hS (mX11_answer hg) okX11_answer wl_X11_182 wi_X11_answer ws_X11_X11_answer_X11_answer ⟨rfl, rfl, Nat.le_of_ble_eq_true rfl, Nat.le_of_ble_eq_true rfl⟩ 11 0 rfl rfl [0] [1, 2, 3, 4, 5, 6, 7, 8, 9, 10, 11, 12] ⟨rfl, rfl, rfl, rfl, by decide⟩ rfl hl.1 (Nat.le_of_ble_eq_true rfl) dX11_talker_98 (fun H locs hP hD hS => ?_)
            have hP := hP.sub (ws' := (w11 ca qC (rC3) (rC4) (rC6) (rC7) (.ref (qP0 0)) (rC11) (rC12) (rC14) (rC15) (rC17) (rC18) (rC19) z9.2 ++ w6 ca qP0 (.ref (qT0 0)) (rP01) SP0 ++ w7 ca qT0 ST0)) [12, 0, 1, 2, 3, 4, 5, 6, 7, 8, 9, 10, 11] rfl
            have hD := hD.sub (ws' := (w11 ca qC (rC3) (rC4) (rC6) (rC7) (.ref (qP0 0)) (rC11) (rC12) (rC14) (rC15) (rC17) (rC18) (rC19) z9.2 ++ w6 ca qP0 (.ref (qT0 0)) (rP01) SP0 ++ w7 ca qT0 ST0)) [12, 0, 1, 2, 3, 4, 5, 6, 7, 8, 9, 10, 11] rfl rfl
            obtain rfl := Option.some.inj hf
            exact tc_ri X hP hD hS rfl dX11_talker_101 rfl rfl
          · have hf := tc_neg hn3 hf
            by_cases hn4 : a2 = (4 : Int32)
            · have hf := tc_pos hn4 hf
              refine lv_tableIn (off := 79) (tgt := 102) hx hb dX11_talker_23 (tc_sw (P := fun y => ¬ y.toInt < 0) hn4 (by decide)) (tc_sw (P := fun y => ¬ 4 < y.toInt) hn4 (by decide)) (tc_sw (P := fun y => (#[33, 44, 55, 68, 79] : Array Int)[(y.toInt - 0).toNat]? = some 79) hn4 (by decide)) (by decide) ?_
              refine lv_aload_n hx hb dX11_talker_102 rfl (lv_at hl 1 rfl) ?_
              refine lv_aload_n hx hb dX11_talker_103 rfl (lv_at hl 0 rfl) ?_
              refine lv_iload_n hx hb dX11_talker_104 rfl (lv_at hl 2 rfl) ?_
              obtain ⟨z10, hg, hf⟩ := tc_bi hf
              refine tc_iV (As := [.int (a1)]) (rest := [.ref (qC 0)]) (b := qT0 0) (wc := w7 ca qT0 ST0) (wr := w11 ca qC (rC3) (rC4) (rC6) (rC7) (.ref (qP0 0)) (rC11) (rC12) (rC14) (rC15) (rC17) (rC18) (rC19) SC ++ w6 ca qP0 (.ref (qT0 0)) (rP01) SP0) X hP hD hS (mX7_sayable hg) okX7_sayable wl_X11_256 wi_X7_sayable ws_X7_X7_sayable_X7_sayable ⟨rfl, rfl, Nat.le_of_ble_eq_true rfl, Nat.le_of_ble_eq_true rfl⟩ 7 0 rfl rfl [2, 3, 4, 5, 6, 7, 8, 9, 10, 11, 12] [0, 1] ⟨rfl, rfl, rfl, rfl, by decide⟩ rfl hl.1 (Nat.le_of_ble_eq_true rfl) dX11_talker_105 (fun H locs hP hD hS => ?_)
              have hP := hP.sub (ws' := (w11 ca qC (rC3) (rC4) (rC6) (rC7) (.ref (qP0 0)) (rC11) (rC12) (rC14) (rC15) (rC17) (rC18) (rC19) SC ++ w6 ca qP0 (.ref (qT0 0)) (rP01) SP0 ++ w7 ca qT0 ST0)) [0, 1, 2, 3, 4, 5, 6, 7, 8, 9, 10, 11, 12] rfl
              have hD := hD.sub (ws' := (w11 ca qC (rC3) (rC4) (rC6) (rC7) (.ref (qP0 0)) (rC11) (rC12) (rC14) (rC15) (rC17) (rC18) (rC19) SC ++ w6 ca qP0 (.ref (qT0 0)) (rP01) SP0 ++ w7 ca qT0 ST0)) [0, 1, 2, 3, 4, 5, 6, 7, 8, 9, 10, 11, 12] rfl rfl
              obtain ⟨z11, hg, hf⟩ := tc_bi hf
              refine tc_iV (As := [.int (z10)]) (rest := []) (b := qC 0) (wc := w11 ca qC (rC3) (rC4) (rC6) (rC7) (.ref (qP0 0)) (rC11) (rC12) (rC14) (rC15) (rC17) (rC18) (rC19) SC) (wr := w6 ca qP0 (.ref (qT0 0)) (rP01) SP0 ++ w7 ca qT0 ST0) X hP hD hS (mX11_answer hg) okX11_answer wl_X11_182 wi_X11_answer ws_X11_X11_answer_X11_answer ⟨rfl, rfl, Nat.le_of_ble_eq_true rfl, Nat.le_of_ble_eq_true rfl⟩ 11 0 rfl rfl [0] [1, 2, 3, 4, 5, 6, 7, 8, 9, 10, 11, 12] ⟨rfl, rfl, rfl, rfl, by decide⟩ rfl hl.1 (Nat.le_of_ble_eq_true rfl) dX11_talker_108 (fun H locs hP hD hS => ?_)
              have hP := hP.sub (ws' := (w11 ca qC (rC3) (rC4) (rC6) (rC7) (.ref (qP0 0)) (rC11) (rC12) (rC14) (rC15) (rC17) (rC18) (rC19) z11.2 ++ w6 ca qP0 (.ref (qT0 0)) (rP01) SP0 ++ w7 ca qT0 ST0)) [12, 0, 1, 2, 3, 4, 5, 6, 7, 8, 9, 10, 11] rfl
              have hD := hD.sub (ws' := (w11 ca qC (rC3) (rC4) (rC6) (rC7) (.ref (qP0 0)) (rC11) (rC12) (rC14) (rC15) (rC17) (rC18) (rC19) z11.2 ++ w6 ca qP0 (.ref (qT0 0)) (rP01) SP0 ++ w7 ca qT0 ST0)) [12, 0, 1, 2, 3, 4, 5, 6, 7, 8, 9, 10, 11] rfl rfl
              obtain rfl := Option.some.inj hf
              exact tc_ri X hP hD hS rfl dX11_talker_111 rfl rfl
            · have hf := tc_neg hn4 hf
              have hout : (a2).toInt < 0 ∨ 4 < (a2).toInt := by
                have e0 := tc_ne hn0
                have e1 := tc_ne hn1
                have e2 := tc_ne hn2
                have e3 := tc_ne hn3
                have e4 := tc_ne hn4
                simp only [show ((0 : Int32)).toInt = 0 from by decide, show ((1 : Int32)).toInt = 1 from by decide, show ((2 : Int32)).toInt = 2 from by decide, show ((3 : Int32)).toInt = 3 from by decide, show ((4 : Int32)).toInt = 4 from by decide] at e0 e1 e2 e3 e4
                omega
              refine lv_tableOut (tgt := 112) hx hb dX11_talker_23 hout (by decide) ?_
              refine lv_aload_n hx hb dX11_talker_112 rfl (lv_at hl 1 rfl) ?_
              refine lv_iconst (v := (5 : Int32)) hx hb dX11_talker_113 (by decide) ?_
              obtain ⟨z2, hg, hf⟩ := tc_bi hf
              refine tc_iV (As := [.int ((5 : Int32))]) (rest := []) (b := qC 0) (wc := w11 ca qC (rC3) (rC4) (rC6) (rC7) (.ref (qP0 0)) (rC11) (rC12) (rC14) (rC15) (rC17) (rC18) (rC19) SC) (wr := w6 ca qP0 (.ref (qT0 0)) (rP01) SP0 ++ w7 ca qT0 ST0) X hP hD hS (mX11_refuse hg) okX11_refuse wl_X11_121 wi_X11_refuse ws_X11_X11_refuse_X11_refuse ⟨rfl, rfl, Nat.le_of_ble_eq_true rfl, Nat.le_of_ble_eq_true rfl⟩ 11 0 rfl rfl [0] [1, 2, 3, 4, 5, 6, 7, 8, 9, 10, 11, 12] ⟨rfl, rfl, rfl, rfl, by decide⟩ rfl hl.1 (Nat.le_of_ble_eq_true rfl) dX11_talker_114 (fun H locs hP hD hS => ?_)
              have hP := hP.sub (ws' := (w11 ca qC (rC3) (rC4) (rC6) (rC7) (.ref (qP0 0)) (rC11) (rC12) (rC14) (rC15) (rC17) (rC18) (rC19) z2.2 ++ w6 ca qP0 (.ref (qT0 0)) (rP01) SP0 ++ w7 ca qT0 ST0)) [12, 0, 1, 2, 3, 4, 5, 6, 7, 8, 9, 10, 11] rfl
              have hD := hD.sub (ws' := (w11 ca qC (rC3) (rC4) (rC6) (rC7) (.ref (qP0 0)) (rC11) (rC12) (rC14) (rC15) (rC17) (rC18) (rC19) z2.2 ++ w6 ca qP0 (.ref (qT0 0)) (rP01) SP0 ++ w7 ca qT0 ST0)) [12, 0, 1, 2, 3, 4, 5, 6, 7, 8, 9, 10, 11] rfl rfl
              obtain rfl := Option.some.inj hf
              exact tc_ri X hP hD hS rfl dX11_talker_117 rfl rfl
  · have hf := tc_pos hc hf
    refine lv_aload_n hx hb dX11_talker_16 rfl (lv_at hl 1 rfl) ?_
    refine lv_iconst (v := (2 : Int32)) hx hb dX11_talker_17 (by decide) ?_
    obtain ⟨z12, hg, hf⟩ := tc_bi hf
    refine tc_iV (As := [.int ((2 : Int32))]) (rest := []) (b := qC 0) (wc := w11 ca qC (rC3) (rC4) (rC6) (rC7) (.ref (qP0 0)) (rC11) (rC12) (rC14) (rC15) (rC17) (rC18) (rC19) SC) (wr := w6 ca qP0 (.ref (qT0 0)) (rP01) SP0 ++ w7 ca qT0 ST0) X hP hD hS (mX11_refuse hg) okX11_refuse wl_X11_121 wi_X11_refuse ws_X11_X11_refuse_X11_refuse ⟨rfl, rfl, Nat.le_of_ble_eq_true rfl, Nat.le_of_ble_eq_true rfl⟩ 11 0 rfl rfl [0] [1, 2, 3, 4, 5, 6, 7, 8, 9, 10, 11, 12] ⟨rfl, rfl, rfl, rfl, by decide⟩ rfl hl.1 (Nat.le_of_ble_eq_true rfl) dX11_talker_18 (fun H locs hP hD hS => ?_)
    have hP := hP.sub (ws' := (w11 ca qC (rC3) (rC4) (rC6) (rC7) (.ref (qP0 0)) (rC11) (rC12) (rC14) (rC15) (rC17) (rC18) (rC19) z12.2 ++ w6 ca qP0 (.ref (qT0 0)) (rP01) SP0 ++ w7 ca qT0 ST0)) [12, 0, 1, 2, 3, 4, 5, 6, 7, 8, 9, 10, 11] rfl
    have hD := hD.sub (ws' := (w11 ca qC (rC3) (rC4) (rC6) (rC7) (.ref (qP0 0)) (rC11) (rC12) (rC14) (rC15) (rC17) (rC18) (rC19) z12.2 ++ w6 ca qP0 (.ref (qT0 0)) (rP01) SP0 ++ w7 ca qT0 ST0)) [12, 0, 1, 2, 3, 4, 5, 6, 7, 8, 9, 10, 11] rfl rfl
    obtain rfl := Option.some.inj hf
    exact tc_ri X hP hD hS rfl dX11_talker_21 rfl rfl
def fX11_feud_20  (SP0 : ms_T) (ST0 : ms_T)  (SC : ms_T) : Option (Int32 × ms_T) :=
  (fX11_refuse SC (2 : Int32)).bind fun z1 =>
  some (z1.1, z1.2)
def fX11_feud  (SC : ms_T) (SP0 : ms_T) (ST0 : ms_T) (a1 : Int32) (a2 : Int32) : Option (Int32 × ms_T) :=
  if a1 < 0 then
    fX11_feud_20 SP0 ST0 SC
  else
    if a1 < (gi ST0 13) then
      if a2 = (0 : Int32) then
        if inb a1 10 = true then
          (fX11_answer SC (ia ST0 8 a1)).bind fun z3 =>
          some (z3.1, z3.2)
        else none
      else
        if a2 = (1 : Int32) then
          if inb a1 10 = true then
            (fX11_answer SC (ia ST0 9 a1)).bind fun z5 =>
            some (z5.1, z5.2)
          else none
        else
          (fX11_refuse SC (5 : Int32)).bind fun z6 =>
          some (z6.1, z6.2)
    else
      fX11_feud_20 SP0 ST0 SC
abbrev rmX11_feud : Room := { frames := 1, cells := 0, slots := 0, locals := 21 }
theorem okX11_feud : tc_ok yX11_feud cX11_feud 4 (some .int) 2 := ⟨wc_X11_feud, wn_X11, by decide, by decide, by decide +kernel⟩
set_option maxRecDepth 20000 in
theorem tX11_feud_20 {qC : Nat → Nat} {qP0 : Nat → Nat} {qT0 : Nat → Nat} {rC3 : Value} {rC4 : Value} {rC6 : Value} {rC7 : Value} {rC11 : Value} {rC12 : Value} {rC14 : Value} {rC15 : Value} {rC17 : Value} {rC18 : Value} {rC19 : Value} {rP01 : Value} (X : tc_X dC dI ca A RX11 cX11_feud 4 (some .int) p s m args meth c) (z : Int32 × ms_T)  (SP0 : ms_T) (ST0 : ms_T)   : ∀ (SC : ms_T), fX11_feud_20 SP0 ST0 SC = some z → ∀ (H : Heap) (locs : List Loc) (ls : Array Slot), va_P (dC, dI) classes (w11 ca qC (rC3) (rC4) (rC6) (rC7) (.ref (qP0 0)) (rC11) (rC12) (rC14) (rC15) (rC17) (rC18) (rC19) SC ++ w6 ca qP0 (.ref (qT0 0)) (rP01) SP0 ++ w7 ca qT0 ST0) H → va_D A (w11 ca qC (rC3) (rC4) (rC6) (rC7) (.ref (qP0 0)) (rC11) (rC12) (rC14) (rC15) (rC17) (rC18) (rC19) SC ++ w6 ca qP0 (.ref (qT0 0)) (rP01) SP0 ++ w7 ca qT0 ST0) → va_S A s.heap H locs → lv_has ls 4 [(0, .ref (qC 0))] → W p l e rmX11_feud s m args below meth c H locs 0 0 (MQ below (tc_QI dC dI ca A (w11 ca qC (rC3) (rC4) (rC6) (rC7) (.ref (qP0 0)) (rC11) (rC12) (rC14) (rC15) (rC17) (rC18) (rC19) z.2 ++ w6 ca qP0 (.ref (qT0 0)) (rP01) SP0 ++ w7 ca qT0 ST0) (z.1)) args s 0 0 A) (F0 m 20 ls []) := by
  obtain ⟨hx, hb, hr, hml, hown, hts, hlk, hK, hA, hG⟩ := id X
  intro SC hf H locs ls hP hD hS hl
  unfold fX11_feud_20 at hf
  refine lv_aload_n hx hb dX11_feud_20 rfl (lv_at hl 0 rfl) ?_
  refine lv_iconst (v := (2 : Int32)) hx hb dX11_feud_21 (by decide) ?_
  obtain ⟨z1, hg, hf⟩ := tc_bi hf
  refine tc_iV (As := [.int ((2 : Int32))]) (rest := []) (b := qC 0) (wc := w11 ca qC (rC3) (rC4) (rC6) (rC7) (.ref (qP0 0)) (rC11) (rC12) (rC14) (rC15) (rC17) (rC18) (rC19) SC) (wr := w6 ca qP0 (.ref (qT0 0)) (rP01) SP0 ++ w7 ca qT0 ST0) X hP hD hS (mX11_refuse hg) okX11_refuse wl_X11_121 wi_X11_refuse ws_X11_X11_refuse_X11_refuse ⟨rfl, rfl, Nat.le_of_ble_eq_true rfl, Nat.le_of_ble_eq_true rfl⟩ 11 0 rfl rfl [0] [1, 2, 3, 4, 5, 6, 7, 8, 9, 10, 11, 12] ⟨rfl, rfl, rfl, rfl, by decide⟩ rfl hl.1 (Nat.le_of_ble_eq_true rfl) dX11_feud_22 (fun H locs hP hD hS => ?_)
  have hP := hP.sub (ws' := (w11 ca qC (rC3) (rC4) (rC6) (rC7) (.ref (qP0 0)) (rC11) (rC12) (rC14) (rC15) (rC17) (rC18) (rC19) z1.2 ++ w6 ca qP0 (.ref (qT0 0)) (rP01) SP0 ++ w7 ca qT0 ST0)) [12, 0, 1, 2, 3, 4, 5, 6, 7, 8, 9, 10, 11] rfl
  have hD := hD.sub (ws' := (w11 ca qC (rC3) (rC4) (rC6) (rC7) (.ref (qP0 0)) (rC11) (rC12) (rC14) (rC15) (rC17) (rC18) (rC19) z1.2 ++ w6 ca qP0 (.ref (qT0 0)) (rP01) SP0 ++ w7 ca qT0 ST0)) [12, 0, 1, 2, 3, 4, 5, 6, 7, 8, 9, 10, 11] rfl rfl
  obtain rfl := Option.some.inj hf
  exact tc_ri X hP hD hS rfl dX11_feud_25 rfl rfl
set_option maxRecDepth 20000 in
theorem mX11_feud {qC : Nat → Nat} {qP0 : Nat → Nat} {qT0 : Nat → Nat} {rC3 : Value} {rC4 : Value} {rC6 : Value} {rC7 : Value} {rC11 : Value} {rC12 : Value} {rC14 : Value} {rC15 : Value} {rC17 : Value} {rC18 : Value} {rC19 : Value} {rP01 : Value} {SC : ms_T} {SP0 : ms_T} {ST0 : ms_T} {a1 : Int32} {a2 : Int32} {z : Int32 × ms_T}  (hf : fX11_feud SC SP0 ST0 a1 a2 = some z) : tc_MI l dC dI ca yX11_feud cX11_feud 4 (some .int) rmX11_feud [.ref (qC 0), .int (a1), .int (a2)] (w11 ca qC (rC3) (rC4) (rC6) (rC7) (.ref (qP0 0)) (rC11) (rC12) (rC14) (rC15) (rC17) (rC18) (rC19) SC ++ w6 ca qP0 (.ref (qT0 0)) (rP01) SP0 ++ w7 ca qT0 ST0) (w11 ca qC (rC3) (rC4) (rC6) (rC7) (.ref (qP0 0)) (rC11) (rC12) (rC14) (rC15) (rC17) (rC18) (rC19) z.2 ++ w6 ca qP0 (.ref (qT0 0)) (rP01) SP0 ++ w7 ca qT0 ST0) (z.1) := by
  refine tc_metI (own := RX11) (by decide) rfl ?_ (Nat.le_of_ble_eq_true rfl)
  intro p e s m below meth c A X hP hD hS ls hl
  obtain ⟨hx, hb, hr, hml, hown, hts, hlk, hK, hA, hG⟩ := id X
  unfold fX11_feud at hf
  have hl : lv_has ls 4 [(0, .ref (qC 0)), (1, .int (a1)), (2, .int (a2))] := hl
  refine lv_aload_n hx hb dX11_feud_0 rfl (lv_at hl 0 rfl) ?_
  refine va_get (D := (dC, dI)) (ci := 11) (v := .ref (qP0 0)) (C := RX11) (T := TX11) (N := 20) hx hb hts i_X11 hown hK hP 0 rfl rfl 10 (by decide) (hts _ wf_X11_39) (fun _ h9 => h9) rfl dX11_feud_1 ?_
  refine va_get (D := (dC, dI)) (ci := 6) (v := .ref (qT0 0)) (C := RX6) (T := TX6) (N := 2) hx hb hts i_X6 hown hK hP 1 rfl rfl 0 (by decide) (hts _ wf_X11_152) (fun _ h9 => h9) rfl dX11_feud_4 ?_
  refine lv_astore_n (lv' := [(3, .ref (qT0 0)), (0, .ref (qC 0)), (1, .int (a1)), (2, .int (a2))]) hx hb dX11_feud_7 rfl hl (by decide) rfl (fun ls hl => ?_)
  refine lv_iload_n hx hb dX11_feud_8 rfl (lv_at hl 2 rfl) ?_
  refine lv_if_lt (tgt := 20) hx hb dX11_feud_9 (by decide) (fun hc => ?_) (fun hc => ?_)
  · have hf := tc_pos hc hf
    exact tX11_feud_20 X z SP0 ST0 SC hf _ _ _ hP hD hS (lv_sub hl [1] rfl)
  · have hf := tc_neg hc hf
    refine lv_iload_n hx hb dX11_feud_12 rfl (lv_at hl 2 rfl) ?_
    refine lv_aload_n hx hb dX11_feud_13 rfl (lv_at hl 0 rfl) ?_
    refine va_get (D := (dC, dI)) (ci := 7) (v := .int (gi ST0 13)) (C := RX7) (T := TX7) (N := 18) hx hb hts i_X7 hown hK hP 2 rfl rfl 13 (by decide) (hts _ wf_X11_201) (fun _ h9 => h9) rfl dX11_feud_14 ?_
    refine lv_icmp_lt (tgt := 26) hx hb dX11_feud_17 (by decide) (fun hc => ?_) (fun hc => ?_)
    · have hf := tc_pos hc hf
      refine lv_iload_n hx hb dX11_feud_26 rfl (lv_at hl 3 rfl) ?_
      by_cases hn0 : a2 = (0 : Int32)
      · have hf := tc_pos hn0 hf
        refine lv_lookup (off := 25) (tgt := 52) hx hb dX11_feud_27 (by decide) (tc_sw (P := fun y => lookupswitch.offset (#[(0, 25), (1, 36)] : Array (Int × Int)).toList 47 y.toInt = 25) hn0 (by decide)) (by decide) ?_
        refine lv_aload_n hx hb dX11_feud_52 rfl (lv_at hl 1 rfl) ?_
        refine lv_aload_n hx hb dX11_feud_53 rfl (lv_at hl 0 rfl) ?_
        refine va_get (D := (dC, dI)) (ci := 7) (v := .ref (qT0 8)) (C := RX7) (T := TX7) (N := 18) hx hb hts i_X7 hown hK hP 2 rfl rfl 14 (by decide) (hts _ wf_X11_259) (fun _ h9 => h9) rfl dX11_feud_54 ?_
        refine lv_iload_n hx hb dX11_feud_57 rfl (lv_at hl 2 rfl) ?_
        obtain ⟨hi2, hf⟩ := tc_in hf
        refine va_iald hx hb hK hP 10 1 rfl rfl hi2 dX11_feud_58 ?_
        obtain ⟨z3, hg, hf⟩ := tc_bi hf
        refine tc_iV (As := [.int (ia ST0 8 a1)]) (rest := []) (b := qC 0) (wc := w11 ca qC (rC3) (rC4) (rC6) (rC7) (.ref (qP0 0)) (rC11) (rC12) (rC14) (rC15) (rC17) (rC18) (rC19) SC) (wr := w6 ca qP0 (.ref (qT0 0)) (rP01) SP0 ++ w7 ca qT0 ST0) X hP hD hS (mX11_answer hg) okX11_answer wl_X11_182 wi_X11_answer ws_X11_X11_answer_X11_answer ⟨rfl, rfl, Nat.le_of_ble_eq_true rfl, Nat.le_of_ble_eq_true rfl⟩ 11 0 rfl rfl [0] [1, 2, 3, 4, 5, 6, 7, 8, 9, 10, 11, 12] ⟨rfl, rfl, rfl, rfl, by decide⟩ rfl hl.1 (Nat.le_of_ble_eq_true rfl) dX11_feud_59 (fun H locs hP hD hS => ?_)
        have hP := hP.sub (ws' := (w11 ca qC (rC3) (rC4) (rC6) (rC7) (.ref (qP0 0)) (rC11) (rC12) (rC14) (rC15) (rC17) (rC18) (rC19) z3.2 ++ w6 ca qP0 (.ref (qT0 0)) (rP01) SP0 ++ w7 ca qT0 ST0)) [12, 0, 1, 2, 3, 4, 5, 6, 7, 8, 9, 10, 11] rfl
        have hD := hD.sub (ws' := (w11 ca qC (rC3) (rC4) (rC6) (rC7) (.ref (qP0 0)) (rC11) (rC12) (rC14) (rC15) (rC17) (rC18) (rC19) z3.2 ++ w6 ca qP0 (.ref (qT0 0)) (rP01) SP0 ++ w7 ca qT0 ST0)) [12, 0, 1, 2, 3, 4, 5, 6, 7, 8, 9, 10, 11] rfl rfl
        obtain rfl := Option.some.inj hf
        exact tc_ri X hP hD hS rfl dX11_feud_62 rfl rfl
      · have hf := tc_neg hn0 hf
        by_cases hn1 : a2 = (1 : Int32)
        · have hf := tc_pos hn1 hf
          refine lv_lookup (off := 36) (tgt := 63) hx hb dX11_feud_27 (by decide) (tc_sw (P := fun y => lookupswitch.offset (#[(0, 25), (1, 36)] : Array (Int × Int)).toList 47 y.toInt = 36) hn1 (by decide)) (by decide) ?_
          refine lv_aload_n hx hb dX11_feud_63 rfl (lv_at hl 1 rfl) ?_
          refine lv_aload_n hx hb dX11_feud_64 rfl (lv_at hl 0 rfl) ?_
          refine va_get (D := (dC, dI)) (ci := 7) (v := .ref (qT0 9)) (C := RX7) (T := TX7) (N := 18) hx hb hts i_X7 hown hK hP 2 rfl rfl 15 (by decide) (hts _ wf_X11_262) (fun _ h9 => h9) rfl dX11_feud_65 ?_
          refine lv_iload_n hx hb dX11_feud_68 rfl (lv_at hl 2 rfl) ?_
          obtain ⟨hi4, hf⟩ := tc_in hf
          refine va_iald hx hb hK hP 11 1 rfl rfl hi4 dX11_feud_69 ?_
          obtain ⟨z5, hg, hf⟩ := tc_bi hf
          refine tc_iV (As := [.int (ia ST0 9 a1)]) (rest := []) (b := qC 0) (wc := w11 ca qC (rC3) (rC4) (rC6) (rC7) (.ref (qP0 0)) (rC11) (rC12) (rC14) (rC15) (rC17) (rC18) (rC19) SC) (wr := w6 ca qP0 (.ref (qT0 0)) (rP01) SP0 ++ w7 ca qT0 ST0) X hP hD hS (mX11_answer hg) okX11_answer wl_X11_182 wi_X11_answer ws_X11_X11_answer_X11_answer ⟨rfl, rfl, Nat.le_of_ble_eq_true rfl, Nat.le_of_ble_eq_true rfl⟩ 11 0 rfl rfl [0] [1, 2, 3, 4, 5, 6, 7, 8, 9, 10, 11, 12] ⟨rfl, rfl, rfl, rfl, by decide⟩ rfl hl.1 (Nat.le_of_ble_eq_true rfl) dX11_feud_70 (fun H locs hP hD hS => ?_)
          have hP := hP.sub (ws' := (w11 ca qC (rC3) (rC4) (rC6) (rC7) (.ref (qP0 0)) (rC11) (rC12) (rC14) (rC15) (rC17) (rC18) (rC19) z5.2 ++ w6 ca qP0 (.ref (qT0 0)) (rP01) SP0 ++ w7 ca qT0 ST0)) [12, 0, 1, 2, 3, 4, 5, 6, 7, 8, 9, 10, 11] rfl
          have hD := hD.sub (ws' := (w11 ca qC (rC3) (rC4) (rC6) (rC7) (.ref (qP0 0)) (rC11) (rC12) (rC14) (rC15) (rC17) (rC18) (rC19) z5.2 ++ w6 ca qP0 (.ref (qT0 0)) (rP01) SP0 ++ w7 ca qT0 ST0)) [12, 0, 1, 2, 3, 4, 5, 6, 7, 8, 9, 10, 11] rfl rfl
          obtain rfl := Option.some.inj hf
          exact tc_ri X hP hD hS rfl dX11_feud_73 rfl rfl
        · have hf := tc_neg hn1 hf
          have hout : lookupswitch.offset (#[(0, 25), (1, 36)] : Array (Int × Int)).toList 47 (a2).toInt = 47 := by
            have e0 := tc_ne hn0
            have e1 := tc_ne hn1
            simp only [show ((0 : Int32)).toInt = 0 from by decide, show ((1 : Int32)).toInt = 1 from by decide] at e0 e1
            simp only [lookupswitch.offset_cons, lookupswitch.offset_nil]
            rw [if_neg (Ne.symm e0), if_neg (Ne.symm e1)]
          refine lv_lookup (off := 47) (tgt := 74) hx hb dX11_feud_27 (by decide) hout (by decide) ?_
          refine lv_aload_n hx hb dX11_feud_74 rfl (lv_at hl 1 rfl) ?_
          refine lv_iconst (v := (5 : Int32)) hx hb dX11_feud_75 (by decide) ?_
          obtain ⟨z6, hg, hf⟩ := tc_bi hf
          refine tc_iV (As := [.int ((5 : Int32))]) (rest := []) (b := qC 0) (wc := w11 ca qC (rC3) (rC4) (rC6) (rC7) (.ref (qP0 0)) (rC11) (rC12) (rC14) (rC15) (rC17) (rC18) (rC19) SC) (wr := w6 ca qP0 (.ref (qT0 0)) (rP01) SP0 ++ w7 ca qT0 ST0) X hP hD hS (mX11_refuse hg) okX11_refuse wl_X11_121 wi_X11_refuse ws_X11_X11_refuse_X11_refuse ⟨rfl, rfl, Nat.le_of_ble_eq_true rfl, Nat.le_of_ble_eq_true rfl⟩ 11 0 rfl rfl [0] [1, 2, 3, 4, 5, 6, 7, 8, 9, 10, 11, 12] ⟨rfl, rfl, rfl, rfl, by decide⟩ rfl hl.1 (Nat.le_of_ble_eq_true rfl) dX11_feud_76 (fun H locs hP hD hS => ?_)
          have hP := hP.sub (ws' := (w11 ca qC (rC3) (rC4) (rC6) (rC7) (.ref (qP0 0)) (rC11) (rC12) (rC14) (rC15) (rC17) (rC18) (rC19) z6.2 ++ w6 ca qP0 (.ref (qT0 0)) (rP01) SP0 ++ w7 ca qT0 ST0)) [12, 0, 1, 2, 3, 4, 5, 6, 7, 8, 9, 10, 11] rfl
          have hD := hD.sub (ws' := (w11 ca qC (rC3) (rC4) (rC6) (rC7) (.ref (qP0 0)) (rC11) (rC12) (rC14) (rC15) (rC17) (rC18) (rC19) z6.2 ++ w6 ca qP0 (.ref (qT0 0)) (rP01) SP0 ++ w7 ca qT0 ST0)) [12, 0, 1, 2, 3, 4, 5, 6, 7, 8, 9, 10, 11] rfl rfl
          obtain rfl := Option.some.inj hf
          exact tc_ri X hP hD hS rfl dX11_feud_79 rfl rfl
    · have hf := tc_neg hc hf
      exact tX11_feud_20 X z SP0 ST0 SC hf _ _ _ hP hD hS (lv_sub hl [1] rfl)
def fX11_copyHeights_61  (SP0 : ms_T) (ST0 : ms_T)  : Nat → ms_T → ms_T → ms_T → ms_T → ms_T → Int32 → Int32 → Option (Int32 × ms_T × ms_T × ms_T × ms_T × ms_T)
  | 0, _, _, _, _, _, _, _ => none
  | n + 1, SC, SY0, SY1, SY2, SY3, v3, v4 =>
    if v3 ≤ v4 then
      (fX11_answer SC v3).bind fun z4 =>
      some (z4.1, z4.2, SY0, SY1, SY2, SY3)
    else
      if inb v4 6 = true then
        (fX9_put SY0 v4 ((ia ST0 6 v4).toInt64)).bind fun z6 =>
        fX11_copyHeights_61 SP0 ST0 n SC z6 SY1 SY2 SY3 v3 (v4 + (1 : Int32))
      else none
def fX11_copyHeights_61_1  (SP0 : ms_T) (ST0 : ms_T)  : Nat → ms_T → ms_T → ms_T → ms_T → ms_T → Int32 → Int32 → Option (Int32 × ms_T × ms_T × ms_T × ms_T × ms_T)
  | 0, _, _, _, _, _, _, _ => none
  | n + 1, SC, SY0, SY1, SY2, SY3, v3, v4 =>
    if v3 ≤ v4 then
      (fX11_answer SC v3).bind fun z10 =>
      some (z10.1, z10.2, SY0, SY1, SY2, SY3)
    else
      if inb v4 6 = true then
        (fX9_put SY1 v4 ((ia ST0 6 v4).toInt64)).bind fun z12 =>
        fX11_copyHeights_61_1 SP0 ST0 n SC SY0 z12 SY2 SY3 v3 (v4 + (1 : Int32))
      else none
def fX11_copyHeights_61_2  (SP0 : ms_T) (ST0 : ms_T)  : Nat → ms_T → ms_T → ms_T → ms_T → ms_T → Int32 → Int32 → Option (Int32 × ms_T × ms_T × ms_T × ms_T × ms_T)
  | 0, _, _, _, _, _, _, _ => none
  | n + 1, SC, SY0, SY1, SY2, SY3, v3, v4 =>
    if v3 ≤ v4 then
      (fX11_answer SC v3).bind fun z16 =>
      some (z16.1, z16.2, SY0, SY1, SY2, SY3)
    else
      if inb v4 6 = true then
        (fX9_put SY2 v4 ((ia ST0 6 v4).toInt64)).bind fun z18 =>
        fX11_copyHeights_61_2 SP0 ST0 n SC SY0 SY1 z18 SY3 v3 (v4 + (1 : Int32))
      else none
def fX11_copyHeights_61_3  (SP0 : ms_T) (ST0 : ms_T)  : Nat → ms_T → ms_T → ms_T → ms_T → ms_T → Int32 → Int32 → Option (Int32 × ms_T × ms_T × ms_T × ms_T × ms_T)
  | 0, _, _, _, _, _, _, _ => none
  | n + 1, SC, SY0, SY1, SY2, SY3, v3, v4 =>
    if v3 ≤ v4 then
      (fX11_answer SC v3).bind fun z22 =>
      some (z22.1, z22.2, SY0, SY1, SY2, SY3)
    else
      if inb v4 6 = true then
        (fX9_put SY3 v4 ((ia ST0 6 v4).toInt64)).bind fun z24 =>
        fX11_copyHeights_61_3 SP0 ST0 n SC SY0 SY1 SY2 z24 v3 (v4 + (1 : Int32))
      else none
def fX11_copyHeights  (SC : ms_T) (SY0 : ms_T) (SY1 : ms_T) (SY2 : ms_T) (SY3 : ms_T) (SP0 : ms_T) (ST0 : ms_T) (a1 : Int32) : Option (Int32 × ms_T × ms_T × ms_T × ms_T × ms_T) :=
  (fX11_isTray a1).bind fun z1 =>
  if z1 = 0 then
    (fX11_refuse SC (1 : Int32)).bind fun z27 =>
    some (z27.1, z27.2, SY0, SY1, SY2, SY3)
  else
    if a1 = (0 : Int32) then
      (fX9_isMissing SY0).bind fun z3 =>
      if z3 = 0 then
        if (gi ST0 8) ≤ (gi SY0 2) then
          fX11_copyHeights_61 SP0 ST0 FU SC SY0 SY1 SY2 SY3 (gi ST0 8) (0 : Int32)
        else
          (fX11_refuse SC (4 : Int32)).bind fun z7 =>
          some (z7.1, z7.2, SY0, SY1, SY2, SY3)
      else
        (fX11_refuse SC (3 : Int32)).bind fun z8 =>
        some (z8.1, z8.2, SY0, SY1, SY2, SY3)
    else
      if a1 = (1 : Int32) then
        (fX9_isMissing SY1).bind fun z9 =>
        if z9 = 0 then
          if (gi ST0 8) ≤ (gi SY1 2) then
            fX11_copyHeights_61_1 SP0 ST0 FU SC SY0 SY1 SY2 SY3 (gi ST0 8) (0 : Int32)
          else
            (fX11_refuse SC (4 : Int32)).bind fun z13 =>
            some (z13.1, z13.2, SY0, SY1, SY2, SY3)
        else
          (fX11_refuse SC (3 : Int32)).bind fun z14 =>
          some (z14.1, z14.2, SY0, SY1, SY2, SY3)
      else
        if a1 = (2 : Int32) then
          (fX9_isMissing SY2).bind fun z15 =>
          if z15 = 0 then
            if (gi ST0 8) ≤ (gi SY2 2) then
              fX11_copyHeights_61_2 SP0 ST0 FU SC SY0 SY1 SY2 SY3 (gi ST0 8) (0 : Int32)
            else
              (fX11_refuse SC (4 : Int32)).bind fun z19 =>
              some (z19.1, z19.2, SY0, SY1, SY2, SY3)
          else
            (fX11_refuse SC (3 : Int32)).bind fun z20 =>
            some (z20.1, z20.2, SY0, SY1, SY2, SY3)
        else
          if a1 = (3 : Int32) then
            (fX9_isMissing SY3).bind fun z21 =>
            if z21 = 0 then
              if (gi ST0 8) ≤ (gi SY3 2) then
                fX11_copyHeights_61_3 SP0 ST0 FU SC SY0 SY1 SY2 SY3 (gi ST0 8) (0 : Int32)
              else
                (fX11_refuse SC (4 : Int32)).bind fun z25 =>
                some (z25.1, z25.2, SY0, SY1, SY2, SY3)
            else
              (fX11_refuse SC (3 : Int32)).bind fun z26 =>
              some (z26.1, z26.2, SY0, SY1, SY2, SY3)
          else
            none
abbrev rmX11_copyHeights : Room := { frames := 1, cells := 0, slots := 0, locals := 23 }
theorem okX11_copyHeights : tc_ok yX11_copyHeights cX11_copyHeights 5 (some .int) 1 := ⟨wc_X11_copyHeights, wn_X11, by decide, by decide, by decide +kernel⟩
set_option maxRecDepth 20000 in
theorem tX11_copyHeights_61 {qC : Nat → Nat} {qA : Nat → Nat} {qY0 : Nat → Nat} {qY1 : Nat → Nat} {qY2 : Nat → Nat} {qY3 : Nat → Nat} {qP0 : Nat → Nat} {qT0 : Nat → Nat} {rC4 : Value} {rC6 : Value} {rC7 : Value} {rC11 : Value} {rC12 : Value} {rC14 : Value} {rC15 : Value} {rC17 : Value} {rC18 : Value} {rC19 : Value} {rP01 : Value} (X : tc_X dC dI ca A RX11 cX11_copyHeights 5 (some .int) p s m args meth c) (z : Int32 × ms_T × ms_T × ms_T × ms_T × ms_T)  (SP0 : ms_T) (ST0 : ms_T)   : ∀ n : Nat, ∀ (SC : ms_T) (SY0 : ms_T) (SY1 : ms_T) (SY2 : ms_T) (SY3 : ms_T) (v3 : Int32) (v4 : Int32), fX11_copyHeights_61 SP0 ST0 n SC SY0 SY1 SY2 SY3 v3 v4 = some z → ∀ (H : Heap) (locs : List Loc) (ls : Array Slot), va_P (dC, dI) classes (w11 ca qC (.ref (qA 0)) (rC4) (rC6) (rC7) (.ref (qP0 0)) (rC11) (rC12) (rC14) (rC15) (rC17) (rC18) (rC19) SC ++ wLT ca qA (rf4 (qY0 0) (qY1 0) (qY2 0) (qY3 0)) ++ w9 ca qY0 SY0 ++ w9 ca qY1 SY1 ++ w9 ca qY2 SY2 ++ w9 ca qY3 SY3 ++ w6 ca qP0 (.ref (qT0 0)) (rP01) SP0 ++ w7 ca qT0 ST0) H → va_D A (w11 ca qC (.ref (qA 0)) (rC4) (rC6) (rC7) (.ref (qP0 0)) (rC11) (rC12) (rC14) (rC15) (rC17) (rC18) (rC19) SC ++ wLT ca qA (rf4 (qY0 0) (qY1 0) (qY2 0) (qY3 0)) ++ w9 ca qY0 SY0 ++ w9 ca qY1 SY1 ++ w9 ca qY2 SY2 ++ w9 ca qY3 SY3 ++ w6 ca qP0 (.ref (qT0 0)) (rP01) SP0 ++ w7 ca qT0 ST0) → va_S A s.heap H locs → lv_has ls 5 [(0, .ref (qC 0)), (2, .ref (qY0 0)), (3, .int (v3)), (4, .int (v4))] → W p l e rmX11_copyHeights s m args below meth c H locs 0 0 (MQ below (tc_QI dC dI ca A (w11 ca qC (.ref (qA 0)) (rC4) (rC6) (rC7) (.ref (qP0 0)) (rC11) (rC12) (rC14) (rC15) (rC17) (rC18) (rC19) z.2.1 ++ wLT ca qA (rf4 (qY0 0) (qY1 0) (qY2 0) (qY3 0)) ++ w9 ca qY0 z.2.2.1 ++ w9 ca qY1 z.2.2.2.1 ++ w9 ca qY2 z.2.2.2.2.1 ++ w9 ca qY3 z.2.2.2.2.2 ++ w6 ca qP0 (.ref (qT0 0)) (rP01) SP0 ++ w7 ca qT0 ST0) (z.1)) args s 0 0 A) (F0 m 61 ls []) := by
  obtain ⟨hx, hb, hr, hml, hown, hts, hlk, hK, hA, hG⟩ := id X
  intro n
  induction n with
  | zero => intro SC SY0 SY1 SY2 SY3 v3 v4 hf; exact absurd (show none = some z from hf) (fun h => by cases h)
  | succ n ih =>
    intro SC SY0 SY1 SY2 SY3 v3 v4 hf H locs ls hP hD hS hl
    rw [fX11_copyHeights_61] at hf
    refine lv_iload hx hb dX11_copyHeights_61 (lv_at hl 3 rfl) ?_
    refine lv_iload_n hx hb dX11_copyHeights_63 rfl (lv_at hl 2 rfl) ?_
    refine lv_icmp_ge (tgt := 93) hx hb dX11_copyHeights_64 (by decide) (fun hc => ?_) (fun hc => ?_)
    · have hf := tc_pos hc hf
      refine lv_aload_n hx hb dX11_copyHeights_93 rfl (lv_at hl 0 rfl) ?_
      refine lv_iload_n hx hb dX11_copyHeights_94 rfl (lv_at hl 2 rfl) ?_
      obtain ⟨z4, hg, hf⟩ := tc_bi hf
      refine tc_iV (As := [.int (v3)]) (rest := []) (b := qC 0) (wc := w11 ca qC (.ref (qA 0)) (rC4) (rC6) (rC7) (.ref (qP0 0)) (rC11) (rC12) (rC14) (rC15) (rC17) (rC18) (rC19) SC) (wr := wLT ca qA (rf4 (qY0 0) (qY1 0) (qY2 0) (qY3 0)) ++ w9 ca qY0 SY0 ++ w9 ca qY1 SY1 ++ w9 ca qY2 SY2 ++ w9 ca qY3 SY3 ++ w6 ca qP0 (.ref (qT0 0)) (rP01) SP0 ++ w7 ca qT0 ST0) X hP hD hS (mX11_answer hg) okX11_answer wl_X11_182 wi_X11_answer ws_X11_X11_answer_X11_answer ⟨rfl, rfl, Nat.le_of_ble_eq_true rfl, Nat.le_of_ble_eq_true rfl⟩ 11 0 rfl rfl [0] [1, 2, 3, 4, 5, 6, 7, 8, 9, 10, 11, 12, 13, 14, 15, 16, 17, 18, 19, 20, 21] ⟨rfl, rfl, rfl, rfl, by decide⟩ rfl hl.1 (Nat.le_of_ble_eq_true rfl) dX11_copyHeights_95 (fun H locs hP hD hS => ?_)
      have hP := hP.sub (ws' := (w11 ca qC (.ref (qA 0)) (rC4) (rC6) (rC7) (.ref (qP0 0)) (rC11) (rC12) (rC14) (rC15) (rC17) (rC18) (rC19) z4.2 ++ wLT ca qA (rf4 (qY0 0) (qY1 0) (qY2 0) (qY3 0)) ++ w9 ca qY0 SY0 ++ w9 ca qY1 SY1 ++ w9 ca qY2 SY2 ++ w9 ca qY3 SY3 ++ w6 ca qP0 (.ref (qT0 0)) (rP01) SP0 ++ w7 ca qT0 ST0)) [21, 0, 1, 2, 3, 4, 5, 6, 7, 8, 9, 10, 11, 12, 13, 14, 15, 16, 17, 18, 19, 20] rfl
      have hD := hD.sub (ws' := (w11 ca qC (.ref (qA 0)) (rC4) (rC6) (rC7) (.ref (qP0 0)) (rC11) (rC12) (rC14) (rC15) (rC17) (rC18) (rC19) z4.2 ++ wLT ca qA (rf4 (qY0 0) (qY1 0) (qY2 0) (qY3 0)) ++ w9 ca qY0 SY0 ++ w9 ca qY1 SY1 ++ w9 ca qY2 SY2 ++ w9 ca qY3 SY3 ++ w6 ca qP0 (.ref (qT0 0)) (rP01) SP0 ++ w7 ca qT0 ST0)) [21, 0, 1, 2, 3, 4, 5, 6, 7, 8, 9, 10, 11, 12, 13, 14, 15, 16, 17, 18, 19, 20] rfl rfl
      obtain rfl := Option.some.inj hf
      exact tc_ri X hP hD hS rfl dX11_copyHeights_98 rfl rfl
    · have hf := tc_neg hc hf
      refine lv_aload_n hx hb dX11_copyHeights_67 rfl (lv_at hl 1 rfl) ?_
      refine lv_iload hx hb dX11_copyHeights_68 (lv_at hl 3 rfl) ?_
      refine lv_aload_n hx hb dX11_copyHeights_70 rfl (lv_at hl 0 rfl) ?_
      refine va_get (D := (dC, dI)) (ci := 11) (v := .ref (qP0 0)) (C := RX11) (T := TX11) (N := 20) hx hb hts i_X11 hown hK hP 0 rfl rfl 10 (by decide) (hts _ wf_X11_39) (fun _ h9 => h9) rfl dX11_copyHeights_71 ?_
      refine va_get (D := (dC, dI)) (ci := 6) (v := .ref (qT0 0)) (C := RX6) (T := TX6) (N := 2) hx hb hts i_X6 hown hK hP 10 rfl rfl 0 (by decide) (hts _ wf_X11_152) (fun _ h9 => h9) rfl dX11_copyHeights_74 ?_
      refine va_get (D := (dC, dI)) (ci := 7) (v := .ref (qT0 6)) (C := RX7) (T := TX7) (N := 18) hx hb hts i_X7 hown hK hP 11 rfl rfl 10 (by decide) (hts _ wf_X11_250) (fun _ h9 => h9) rfl dX11_copyHeights_77 ?_
      refine lv_iload hx hb dX11_copyHeights_80 (lv_at hl 3 rfl) ?_
      obtain ⟨hi5, hf⟩ := tc_in hf
      refine va_iald hx hb hK hP 17 1 rfl rfl hi5 dX11_copyHeights_82 ?_
      refine lv_i2l (v := (ia ST0 6 v4).toInt64) hx hb dX11_copyHeights_83 rfl ?_
      obtain ⟨z6, hg, hf⟩ := tc_bi hf
      refine tc_vV (As := [.int (v4), .long ((ia ST0 6 v4).toInt64)]) (rest := []) (b := qY0 0) (wc := w9 ca qY0 SY0) (wr := w11 ca qC (.ref (qA 0)) (rC4) (rC6) (rC7) (.ref (qP0 0)) (rC11) (rC12) (rC14) (rC15) (rC17) (rC18) (rC19) SC ++ wLT ca qA (rf4 (qY0 0) (qY1 0) (qY2 0) (qY3 0)) ++ w9 ca qY1 SY1 ++ w9 ca qY2 SY2 ++ w9 ca qY3 SY3 ++ w6 ca qP0 (.ref (qT0 0)) (rP01) SP0 ++ w7 ca qT0 ST0) X hP hD hS (mX9_put hg) okX9_put wl_X11_117 wi_X9_put ws_X9_X9_put_X9_put ⟨rfl, rfl, Nat.le_of_ble_eq_true rfl, Nat.le_of_ble_eq_true rfl⟩ 9 0 rfl rfl [2, 3] [0, 1, 4, 5, 6, 7, 8, 9, 10, 11, 12, 13, 14, 15, 16, 17, 18, 19, 20, 21] ⟨rfl, rfl, rfl, rfl, by decide⟩ rfl hl.1 (Nat.le_of_ble_eq_true rfl) dX11_copyHeights_84 (fun H locs hP hD hS => ?_)
      have hP := hP.sub (ws' := (w11 ca qC (.ref (qA 0)) (rC4) (rC6) (rC7) (.ref (qP0 0)) (rC11) (rC12) (rC14) (rC15) (rC17) (rC18) (rC19) SC ++ wLT ca qA (rf4 (qY0 0) (qY1 0) (qY2 0) (qY3 0)) ++ w9 ca qY0 z6 ++ w9 ca qY1 SY1 ++ w9 ca qY2 SY2 ++ w9 ca qY3 SY3 ++ w6 ca qP0 (.ref (qT0 0)) (rP01) SP0 ++ w7 ca qT0 ST0)) [0, 1, 20, 21, 2, 3, 4, 5, 6, 7, 8, 9, 10, 11, 12, 13, 14, 15, 16, 17, 18, 19] rfl
      have hD := hD.sub (ws' := (w11 ca qC (.ref (qA 0)) (rC4) (rC6) (rC7) (.ref (qP0 0)) (rC11) (rC12) (rC14) (rC15) (rC17) (rC18) (rC19) SC ++ wLT ca qA (rf4 (qY0 0) (qY1 0) (qY2 0) (qY3 0)) ++ w9 ca qY0 z6 ++ w9 ca qY1 SY1 ++ w9 ca qY2 SY2 ++ w9 ca qY3 SY3 ++ w6 ca qP0 (.ref (qT0 0)) (rP01) SP0 ++ w7 ca qT0 ST0)) [0, 1, 20, 21, 2, 3, 4, 5, 6, 7, 8, 9, 10, 11, 12, 13, 14, 15, 16, 17, 18, 19] rfl rfl
      refine lv_iinc (v := v4 + (1 : Int32)) (lv' := [(4, .int (v4 + (1 : Int32))), (0, .ref (qC 0)), (2, .ref (qY0 0)), (3, .int (v3))]) hx hb dX11_copyHeights_87 hl (k := 3) rfl rfl (by decide) rfl (fun ls hl => ?_)
      refine lv_goto (tgt := 61) hx hb dX11_copyHeights_90 (by decide) ?_
      exact ih SC z6 SY1 SY2 SY3 v3 (v4 + (1 : Int32)) hf _ _ _ hP hD hS (lv_sub hl [1, 2, 3, 0] rfl)
set_option maxRecDepth 20000 in
theorem tX11_copyHeights_61_1 {qC : Nat → Nat} {qA : Nat → Nat} {qY0 : Nat → Nat} {qY1 : Nat → Nat} {qY2 : Nat → Nat} {qY3 : Nat → Nat} {qP0 : Nat → Nat} {qT0 : Nat → Nat} {rC4 : Value} {rC6 : Value} {rC7 : Value} {rC11 : Value} {rC12 : Value} {rC14 : Value} {rC15 : Value} {rC17 : Value} {rC18 : Value} {rC19 : Value} {rP01 : Value} (X : tc_X dC dI ca A RX11 cX11_copyHeights 5 (some .int) p s m args meth c) (z : Int32 × ms_T × ms_T × ms_T × ms_T × ms_T)  (SP0 : ms_T) (ST0 : ms_T)   : ∀ n : Nat, ∀ (SC : ms_T) (SY0 : ms_T) (SY1 : ms_T) (SY2 : ms_T) (SY3 : ms_T) (v3 : Int32) (v4 : Int32), fX11_copyHeights_61_1 SP0 ST0 n SC SY0 SY1 SY2 SY3 v3 v4 = some z → ∀ (H : Heap) (locs : List Loc) (ls : Array Slot), va_P (dC, dI) classes (w11 ca qC (.ref (qA 0)) (rC4) (rC6) (rC7) (.ref (qP0 0)) (rC11) (rC12) (rC14) (rC15) (rC17) (rC18) (rC19) SC ++ wLT ca qA (rf4 (qY0 0) (qY1 0) (qY2 0) (qY3 0)) ++ w9 ca qY0 SY0 ++ w9 ca qY1 SY1 ++ w9 ca qY2 SY2 ++ w9 ca qY3 SY3 ++ w6 ca qP0 (.ref (qT0 0)) (rP01) SP0 ++ w7 ca qT0 ST0) H → va_D A (w11 ca qC (.ref (qA 0)) (rC4) (rC6) (rC7) (.ref (qP0 0)) (rC11) (rC12) (rC14) (rC15) (rC17) (rC18) (rC19) SC ++ wLT ca qA (rf4 (qY0 0) (qY1 0) (qY2 0) (qY3 0)) ++ w9 ca qY0 SY0 ++ w9 ca qY1 SY1 ++ w9 ca qY2 SY2 ++ w9 ca qY3 SY3 ++ w6 ca qP0 (.ref (qT0 0)) (rP01) SP0 ++ w7 ca qT0 ST0) → va_S A s.heap H locs → lv_has ls 5 [(0, .ref (qC 0)), (2, .ref (qY1 0)), (3, .int (v3)), (4, .int (v4))] → W p l e rmX11_copyHeights s m args below meth c H locs 0 0 (MQ below (tc_QI dC dI ca A (w11 ca qC (.ref (qA 0)) (rC4) (rC6) (rC7) (.ref (qP0 0)) (rC11) (rC12) (rC14) (rC15) (rC17) (rC18) (rC19) z.2.1 ++ wLT ca qA (rf4 (qY0 0) (qY1 0) (qY2 0) (qY3 0)) ++ w9 ca qY0 z.2.2.1 ++ w9 ca qY1 z.2.2.2.1 ++ w9 ca qY2 z.2.2.2.2.1 ++ w9 ca qY3 z.2.2.2.2.2 ++ w6 ca qP0 (.ref (qT0 0)) (rP01) SP0 ++ w7 ca qT0 ST0) (z.1)) args s 0 0 A) (F0 m 61 ls []) := by
  obtain ⟨hx, hb, hr, hml, hown, hts, hlk, hK, hA, hG⟩ := id X
  intro n
  induction n with
  | zero => intro SC SY0 SY1 SY2 SY3 v3 v4 hf; exact absurd (show none = some z from hf) (fun h => by cases h)
  | succ n ih =>
    intro SC SY0 SY1 SY2 SY3 v3 v4 hf H locs ls hP hD hS hl
    rw [fX11_copyHeights_61_1] at hf
    refine lv_iload hx hb dX11_copyHeights_61 (lv_at hl 3 rfl) ?_
    refine lv_iload_n hx hb dX11_copyHeights_63 rfl (lv_at hl 2 rfl) ?_
    refine lv_icmp_ge (tgt := 93) hx hb dX11_copyHeights_64 (by decide) (fun hc => ?_) (fun hc => ?_)
    · have hf := tc_pos hc hf
      refine lv_aload_n hx hb dX11_copyHeights_93 rfl (lv_at hl 0 rfl) ?_
      refine lv_iload_n hx hb dX11_copyHeights_94 rfl (lv_at hl 2 rfl) ?_
      obtain ⟨z10, hg, hf⟩ := tc_bi hf
      refine tc_iV (As := [.int (v3)]) (rest := []) (b := qC 0) (wc := w11 ca qC (.ref (qA 0)) (rC4) (rC6) (rC7) (.ref (qP0 0)) (rC11) (rC12) (rC14) (rC15) (rC17) (rC18) (rC19) SC) (wr := wLT ca qA (rf4 (qY0 0) (qY1 0) (qY2 0) (qY3 0)) ++ w9 ca qY0 SY0 ++ w9 ca qY1 SY1 ++ w9 ca qY2 SY2 ++ w9 ca qY3 SY3 ++ w6 ca qP0 (.ref (qT0 0)) (rP01) SP0 ++ w7 ca qT0 ST0) X hP hD hS (mX11_answer hg) okX11_answer wl_X11_182 wi_X11_answer ws_X11_X11_answer_X11_answer ⟨rfl, rfl, Nat.le_of_ble_eq_true rfl, Nat.le_of_ble_eq_true rfl⟩ 11 0 rfl rfl [0] [1, 2, 3, 4, 5, 6, 7, 8, 9, 10, 11, 12, 13, 14, 15, 16, 17, 18, 19, 20, 21] ⟨rfl, rfl, rfl, rfl, by decide⟩ rfl hl.1 (Nat.le_of_ble_eq_true rfl) dX11_copyHeights_95 (fun H locs hP hD hS => ?_)
      have hP := hP.sub (ws' := (w11 ca qC (.ref (qA 0)) (rC4) (rC6) (rC7) (.ref (qP0 0)) (rC11) (rC12) (rC14) (rC15) (rC17) (rC18) (rC19) z10.2 ++ wLT ca qA (rf4 (qY0 0) (qY1 0) (qY2 0) (qY3 0)) ++ w9 ca qY0 SY0 ++ w9 ca qY1 SY1 ++ w9 ca qY2 SY2 ++ w9 ca qY3 SY3 ++ w6 ca qP0 (.ref (qT0 0)) (rP01) SP0 ++ w7 ca qT0 ST0)) [21, 0, 1, 2, 3, 4, 5, 6, 7, 8, 9, 10, 11, 12, 13, 14, 15, 16, 17, 18, 19, 20] rfl
      have hD := hD.sub (ws' := (w11 ca qC (.ref (qA 0)) (rC4) (rC6) (rC7) (.ref (qP0 0)) (rC11) (rC12) (rC14) (rC15) (rC17) (rC18) (rC19) z10.2 ++ wLT ca qA (rf4 (qY0 0) (qY1 0) (qY2 0) (qY3 0)) ++ w9 ca qY0 SY0 ++ w9 ca qY1 SY1 ++ w9 ca qY2 SY2 ++ w9 ca qY3 SY3 ++ w6 ca qP0 (.ref (qT0 0)) (rP01) SP0 ++ w7 ca qT0 ST0)) [21, 0, 1, 2, 3, 4, 5, 6, 7, 8, 9, 10, 11, 12, 13, 14, 15, 16, 17, 18, 19, 20] rfl rfl
      obtain rfl := Option.some.inj hf
      exact tc_ri X hP hD hS rfl dX11_copyHeights_98 rfl rfl
    · have hf := tc_neg hc hf
      refine lv_aload_n hx hb dX11_copyHeights_67 rfl (lv_at hl 1 rfl) ?_
      refine lv_iload hx hb dX11_copyHeights_68 (lv_at hl 3 rfl) ?_
      refine lv_aload_n hx hb dX11_copyHeights_70 rfl (lv_at hl 0 rfl) ?_
      refine va_get (D := (dC, dI)) (ci := 11) (v := .ref (qP0 0)) (C := RX11) (T := TX11) (N := 20) hx hb hts i_X11 hown hK hP 0 rfl rfl 10 (by decide) (hts _ wf_X11_39) (fun _ h9 => h9) rfl dX11_copyHeights_71 ?_
      refine va_get (D := (dC, dI)) (ci := 6) (v := .ref (qT0 0)) (C := RX6) (T := TX6) (N := 2) hx hb hts i_X6 hown hK hP 10 rfl rfl 0 (by decide) (hts _ wf_X11_152) (fun _ h9 => h9) rfl dX11_copyHeights_74 ?_
      refine va_get (D := (dC, dI)) (ci := 7) (v := .ref (qT0 6)) (C := RX7) (T := TX7) (N := 18) hx hb hts i_X7 hown hK hP 11 rfl rfl 10 (by decide) (hts _ wf_X11_250) (fun _ h9 => h9) rfl dX11_copyHeights_77 ?_
      refine lv_iload hx hb dX11_copyHeights_80 (lv_at hl 3 rfl) ?_
      obtain ⟨hi11, hf⟩ := tc_in hf
      refine va_iald hx hb hK hP 17 1 rfl rfl hi11 dX11_copyHeights_82 ?_
      refine lv_i2l (v := (ia ST0 6 v4).toInt64) hx hb dX11_copyHeights_83 rfl ?_
      obtain ⟨z12, hg, hf⟩ := tc_bi hf
      refine tc_vV (As := [.int (v4), .long ((ia ST0 6 v4).toInt64)]) (rest := []) (b := qY1 0) (wc := w9 ca qY1 SY1) (wr := w11 ca qC (.ref (qA 0)) (rC4) (rC6) (rC7) (.ref (qP0 0)) (rC11) (rC12) (rC14) (rC15) (rC17) (rC18) (rC19) SC ++ wLT ca qA (rf4 (qY0 0) (qY1 0) (qY2 0) (qY3 0)) ++ w9 ca qY0 SY0 ++ w9 ca qY2 SY2 ++ w9 ca qY3 SY3 ++ w6 ca qP0 (.ref (qT0 0)) (rP01) SP0 ++ w7 ca qT0 ST0) X hP hD hS (mX9_put hg) okX9_put wl_X11_117 wi_X9_put ws_X9_X9_put_X9_put ⟨rfl, rfl, Nat.le_of_ble_eq_true rfl, Nat.le_of_ble_eq_true rfl⟩ 9 0 rfl rfl [4, 5] [0, 1, 2, 3, 6, 7, 8, 9, 10, 11, 12, 13, 14, 15, 16, 17, 18, 19, 20, 21] ⟨rfl, rfl, rfl, rfl, by decide⟩ rfl hl.1 (Nat.le_of_ble_eq_true rfl) dX11_copyHeights_84 (fun H locs hP hD hS => ?_)
      have hP := hP.sub (ws' := (w11 ca qC (.ref (qA 0)) (rC4) (rC6) (rC7) (.ref (qP0 0)) (rC11) (rC12) (rC14) (rC15) (rC17) (rC18) (rC19) SC ++ wLT ca qA (rf4 (qY0 0) (qY1 0) (qY2 0) (qY3 0)) ++ w9 ca qY0 SY0 ++ w9 ca qY1 z12 ++ w9 ca qY2 SY2 ++ w9 ca qY3 SY3 ++ w6 ca qP0 (.ref (qT0 0)) (rP01) SP0 ++ w7 ca qT0 ST0)) [0, 1, 2, 3, 20, 21, 4, 5, 6, 7, 8, 9, 10, 11, 12, 13, 14, 15, 16, 17, 18, 19] rfl
      have hD := hD.sub (ws' := (w11 ca qC (.ref (qA 0)) (rC4) (rC6) (rC7) (.ref (qP0 0)) (rC11) (rC12) (rC14) (rC15) (rC17) (rC18) (rC19) SC ++ wLT ca qA (rf4 (qY0 0) (qY1 0) (qY2 0) (qY3 0)) ++ w9 ca qY0 SY0 ++ w9 ca qY1 z12 ++ w9 ca qY2 SY2 ++ w9 ca qY3 SY3 ++ w6 ca qP0 (.ref (qT0 0)) (rP01) SP0 ++ w7 ca qT0 ST0)) [0, 1, 2, 3, 20, 21, 4, 5, 6, 7, 8, 9, 10, 11, 12, 13, 14, 15, 16, 17, 18, 19] rfl rfl
      refine lv_iinc (v := v4 + (1 : Int32)) (lv' := [(4, .int (v4 + (1 : Int32))), (0, .ref (qC 0)), (2, .ref (qY1 0)), (3, .int (v3))]) hx hb dX11_copyHeights_87 hl (k := 3) rfl rfl (by decide) rfl (fun ls hl => ?_)
      refine lv_goto (tgt := 61) hx hb dX11_copyHeights_90 (by decide) ?_
      exact ih SC SY0 z12 SY2 SY3 v3 (v4 + (1 : Int32)) hf _ _ _ hP hD hS (lv_sub hl [1, 2, 3, 0] rfl)
set_option maxRecDepth 20000 in
theorem tX11_copyHeights_61_2 {qC : Nat → Nat} {qA : Nat → Nat} {qY0 : Nat → Nat} {qY1 : Nat → Nat} {qY2 : Nat → Nat} {qY3 : Nat → Nat} {qP0 : Nat → Nat} {qT0 : Nat → Nat} {rC4 : Value} {rC6 : Value} {rC7 : Value} {rC11 : Value} {rC12 : Value} {rC14 : Value} {rC15 : Value} {rC17 : Value} {rC18 : Value} {rC19 : Value} {rP01 : Value} (X : tc_X dC dI ca A RX11 cX11_copyHeights 5 (some .int) p s m args meth c) (z : Int32 × ms_T × ms_T × ms_T × ms_T × ms_T)  (SP0 : ms_T) (ST0 : ms_T)   : ∀ n : Nat, ∀ (SC : ms_T) (SY0 : ms_T) (SY1 : ms_T) (SY2 : ms_T) (SY3 : ms_T) (v3 : Int32) (v4 : Int32), fX11_copyHeights_61_2 SP0 ST0 n SC SY0 SY1 SY2 SY3 v3 v4 = some z → ∀ (H : Heap) (locs : List Loc) (ls : Array Slot), va_P (dC, dI) classes (w11 ca qC (.ref (qA 0)) (rC4) (rC6) (rC7) (.ref (qP0 0)) (rC11) (rC12) (rC14) (rC15) (rC17) (rC18) (rC19) SC ++ wLT ca qA (rf4 (qY0 0) (qY1 0) (qY2 0) (qY3 0)) ++ w9 ca qY0 SY0 ++ w9 ca qY1 SY1 ++ w9 ca qY2 SY2 ++ w9 ca qY3 SY3 ++ w6 ca qP0 (.ref (qT0 0)) (rP01) SP0 ++ w7 ca qT0 ST0) H → va_D A (w11 ca qC (.ref (qA 0)) (rC4) (rC6) (rC7) (.ref (qP0 0)) (rC11) (rC12) (rC14) (rC15) (rC17) (rC18) (rC19) SC ++ wLT ca qA (rf4 (qY0 0) (qY1 0) (qY2 0) (qY3 0)) ++ w9 ca qY0 SY0 ++ w9 ca qY1 SY1 ++ w9 ca qY2 SY2 ++ w9 ca qY3 SY3 ++ w6 ca qP0 (.ref (qT0 0)) (rP01) SP0 ++ w7 ca qT0 ST0) → va_S A s.heap H locs → lv_has ls 5 [(0, .ref (qC 0)), (2, .ref (qY2 0)), (3, .int (v3)), (4, .int (v4))] → W p l e rmX11_copyHeights s m args below meth c H locs 0 0 (MQ below (tc_QI dC dI ca A (w11 ca qC (.ref (qA 0)) (rC4) (rC6) (rC7) (.ref (qP0 0)) (rC11) (rC12) (rC14) (rC15) (rC17) (rC18) (rC19) z.2.1 ++ wLT ca qA (rf4 (qY0 0) (qY1 0) (qY2 0) (qY3 0)) ++ w9 ca qY0 z.2.2.1 ++ w9 ca qY1 z.2.2.2.1 ++ w9 ca qY2 z.2.2.2.2.1 ++ w9 ca qY3 z.2.2.2.2.2 ++ w6 ca qP0 (.ref (qT0 0)) (rP01) SP0 ++ w7 ca qT0 ST0) (z.1)) args s 0 0 A) (F0 m 61 ls []) := by
  obtain ⟨hx, hb, hr, hml, hown, hts, hlk, hK, hA, hG⟩ := id X
  intro n
  induction n with
  | zero => intro SC SY0 SY1 SY2 SY3 v3 v4 hf; exact absurd (show none = some z from hf) (fun h => by cases h)
  | succ n ih =>
    intro SC SY0 SY1 SY2 SY3 v3 v4 hf H locs ls hP hD hS hl
    rw [fX11_copyHeights_61_2] at hf
    refine lv_iload hx hb dX11_copyHeights_61 (lv_at hl 3 rfl) ?_
    refine lv_iload_n hx hb dX11_copyHeights_63 rfl (lv_at hl 2 rfl) ?_
    refine lv_icmp_ge (tgt := 93) hx hb dX11_copyHeights_64 (by decide) (fun hc => ?_) (fun hc => ?_)
    · have hf := tc_pos hc hf
      refine lv_aload_n hx hb dX11_copyHeights_93 rfl (lv_at hl 0 rfl) ?_
      refine lv_iload_n hx hb dX11_copyHeights_94 rfl (lv_at hl 2 rfl) ?_
      obtain ⟨z16, hg, hf⟩ := tc_bi hf
      refine tc_iV (As := [.int (v3)]) (rest := []) (b := qC 0) (wc := w11 ca qC (.ref (qA 0)) (rC4) (rC6) (rC7) (.ref (qP0 0)) (rC11) (rC12) (rC14) (rC15) (rC17) (rC18) (rC19) SC) (wr := wLT ca qA (rf4 (qY0 0) (qY1 0) (qY2 0) (qY3 0)) ++ w9 ca qY0 SY0 ++ w9 ca qY1 SY1 ++ w9 ca qY2 SY2 ++ w9 ca qY3 SY3 ++ w6 ca qP0 (.ref (qT0 0)) (rP01) SP0 ++ w7 ca qT0 ST0) X hP hD hS (mX11_answer hg) okX11_answer wl_X11_182 wi_X11_answer ws_X11_X11_answer_X11_answer ⟨rfl, rfl, Nat.le_of_ble_eq_true rfl, Nat.le_of_ble_eq_true rfl⟩ 11 0 rfl rfl [0] [1, 2, 3, 4, 5, 6, 7, 8, 9, 10, 11, 12, 13, 14, 15, 16, 17, 18, 19, 20, 21] ⟨rfl, rfl, rfl, rfl, by decide⟩ rfl hl.1 (Nat.le_of_ble_eq_true rfl) dX11_copyHeights_95 (fun H locs hP hD hS => ?_)
      have hP := hP.sub (ws' := (w11 ca qC (.ref (qA 0)) (rC4) (rC6) (rC7) (.ref (qP0 0)) (rC11) (rC12) (rC14) (rC15) (rC17) (rC18) (rC19) z16.2 ++ wLT ca qA (rf4 (qY0 0) (qY1 0) (qY2 0) (qY3 0)) ++ w9 ca qY0 SY0 ++ w9 ca qY1 SY1 ++ w9 ca qY2 SY2 ++ w9 ca qY3 SY3 ++ w6 ca qP0 (.ref (qT0 0)) (rP01) SP0 ++ w7 ca qT0 ST0)) [21, 0, 1, 2, 3, 4, 5, 6, 7, 8, 9, 10, 11, 12, 13, 14, 15, 16, 17, 18, 19, 20] rfl
      have hD := hD.sub (ws' := (w11 ca qC (.ref (qA 0)) (rC4) (rC6) (rC7) (.ref (qP0 0)) (rC11) (rC12) (rC14) (rC15) (rC17) (rC18) (rC19) z16.2 ++ wLT ca qA (rf4 (qY0 0) (qY1 0) (qY2 0) (qY3 0)) ++ w9 ca qY0 SY0 ++ w9 ca qY1 SY1 ++ w9 ca qY2 SY2 ++ w9 ca qY3 SY3 ++ w6 ca qP0 (.ref (qT0 0)) (rP01) SP0 ++ w7 ca qT0 ST0)) [21, 0, 1, 2, 3, 4, 5, 6, 7, 8, 9, 10, 11, 12, 13, 14, 15, 16, 17, 18, 19, 20] rfl rfl
      obtain rfl := Option.some.inj hf
      exact tc_ri X hP hD hS rfl dX11_copyHeights_98 rfl rfl
    · have hf := tc_neg hc hf
      refine lv_aload_n hx hb dX11_copyHeights_67 rfl (lv_at hl 1 rfl) ?_
      refine lv_iload hx hb dX11_copyHeights_68 (lv_at hl 3 rfl) ?_
      refine lv_aload_n hx hb dX11_copyHeights_70 rfl (lv_at hl 0 rfl) ?_
      refine va_get (D := (dC, dI)) (ci := 11) (v := .ref (qP0 0)) (C := RX11) (T := TX11) (N := 20) hx hb hts i_X11 hown hK hP 0 rfl rfl 10 (by decide) (hts _ wf_X11_39) (fun _ h9 => h9) rfl dX11_copyHeights_71 ?_
      refine va_get (D := (dC, dI)) (ci := 6) (v := .ref (qT0 0)) (C := RX6) (T := TX6) (N := 2) hx hb hts i_X6 hown hK hP 10 rfl rfl 0 (by decide) (hts _ wf_X11_152) (fun _ h9 => h9) rfl dX11_copyHeights_74 ?_
      refine va_get (D := (dC, dI)) (ci := 7) (v := .ref (qT0 6)) (C := RX7) (T := TX7) (N := 18) hx hb hts i_X7 hown hK hP 11 rfl rfl 10 (by decide) (hts _ wf_X11_250) (fun _ h9 => h9) rfl dX11_copyHeights_77 ?_
      refine lv_iload hx hb dX11_copyHeights_80 (lv_at hl 3 rfl) ?_
      obtain ⟨hi17, hf⟩ := tc_in hf
      refine va_iald hx hb hK hP 17 1 rfl rfl hi17 dX11_copyHeights_82 ?_
      refine lv_i2l (v := (ia ST0 6 v4).toInt64) hx hb dX11_copyHeights_83 rfl ?_
      obtain ⟨z18, hg, hf⟩ := tc_bi hf
      refine tc_vV (As := [.int (v4), .long ((ia ST0 6 v4).toInt64)]) (rest := []) (b := qY2 0) (wc := w9 ca qY2 SY2) (wr := w11 ca qC (.ref (qA 0)) (rC4) (rC6) (rC7) (.ref (qP0 0)) (rC11) (rC12) (rC14) (rC15) (rC17) (rC18) (rC19) SC ++ wLT ca qA (rf4 (qY0 0) (qY1 0) (qY2 0) (qY3 0)) ++ w9 ca qY0 SY0 ++ w9 ca qY1 SY1 ++ w9 ca qY3 SY3 ++ w6 ca qP0 (.ref (qT0 0)) (rP01) SP0 ++ w7 ca qT0 ST0) X hP hD hS (mX9_put hg) okX9_put wl_X11_117 wi_X9_put ws_X9_X9_put_X9_put ⟨rfl, rfl, Nat.le_of_ble_eq_true rfl, Nat.le_of_ble_eq_true rfl⟩ 9 0 rfl rfl [6, 7] [0, 1, 2, 3, 4, 5, 8, 9, 10, 11, 12, 13, 14, 15, 16, 17, 18, 19, 20, 21] ⟨rfl, rfl, rfl, rfl, by decide⟩ rfl hl.1 (Nat.le_of_ble_eq_true rfl) dX11_copyHeights_84 (fun H locs hP hD hS => ?_)
      have hP := hP.sub (ws' := (w11 ca qC (.ref (qA 0)) (rC4) (rC6) (rC7) (.ref (qP0 0)) (rC11) (rC12) (rC14) (rC15) (rC17) (rC18) (rC19) SC ++ wLT ca qA (rf4 (qY0 0) (qY1 0) (qY2 0) (qY3 0)) ++ w9 ca qY0 SY0 ++ w9 ca qY1 SY1 ++ w9 ca qY2 z18 ++ w9 ca qY3 SY3 ++ w6 ca qP0 (.ref (qT0 0)) (rP01) SP0 ++ w7 ca qT0 ST0)) [0, 1, 2, 3, 4, 5, 20, 21, 6, 7, 8, 9, 10, 11, 12, 13, 14, 15, 16, 17, 18, 19] rfl
      have hD := hD.sub (ws' := (w11 ca qC (.ref (qA 0)) (rC4) (rC6) (rC7) (.ref (qP0 0)) (rC11) (rC12) (rC14) (rC15) (rC17) (rC18) (rC19) SC ++ wLT ca qA (rf4 (qY0 0) (qY1 0) (qY2 0) (qY3 0)) ++ w9 ca qY0 SY0 ++ w9 ca qY1 SY1 ++ w9 ca qY2 z18 ++ w9 ca qY3 SY3 ++ w6 ca qP0 (.ref (qT0 0)) (rP01) SP0 ++ w7 ca qT0 ST0)) [0, 1, 2, 3, 4, 5, 20, 21, 6, 7, 8, 9, 10, 11, 12, 13, 14, 15, 16, 17, 18, 19] rfl rfl
      refine lv_iinc (v := v4 + (1 : Int32)) (lv' := [(4, .int (v4 + (1 : Int32))), (0, .ref (qC 0)), (2, .ref (qY2 0)), (3, .int (v3))]) hx hb dX11_copyHeights_87 hl (k := 3) rfl rfl (by decide) rfl (fun ls hl => ?_)
      refine lv_goto (tgt := 61) hx hb dX11_copyHeights_90 (by decide) ?_
      exact ih SC SY0 SY1 z18 SY3 v3 (v4 + (1 : Int32)) hf _ _ _ hP hD hS (lv_sub hl [1, 2, 3, 0] rfl)
set_option maxRecDepth 20000 in
theorem tX11_copyHeights_61_3 {qC : Nat → Nat} {qA : Nat → Nat} {qY0 : Nat → Nat} {qY1 : Nat → Nat} {qY2 : Nat → Nat} {qY3 : Nat → Nat} {qP0 : Nat → Nat} {qT0 : Nat → Nat} {rC4 : Value} {rC6 : Value} {rC7 : Value} {rC11 : Value} {rC12 : Value} {rC14 : Value} {rC15 : Value} {rC17 : Value} {rC18 : Value} {rC19 : Value} {rP01 : Value} (X : tc_X dC dI ca A RX11 cX11_copyHeights 5 (some .int) p s m args meth c) (z : Int32 × ms_T × ms_T × ms_T × ms_T × ms_T)  (SP0 : ms_T) (ST0 : ms_T)   : ∀ n : Nat, ∀ (SC : ms_T) (SY0 : ms_T) (SY1 : ms_T) (SY2 : ms_T) (SY3 : ms_T) (v3 : Int32) (v4 : Int32), fX11_copyHeights_61_3 SP0 ST0 n SC SY0 SY1 SY2 SY3 v3 v4 = some z → ∀ (H : Heap) (locs : List Loc) (ls : Array Slot), va_P (dC, dI) classes (w11 ca qC (.ref (qA 0)) (rC4) (rC6) (rC7) (.ref (qP0 0)) (rC11) (rC12) (rC14) (rC15) (rC17) (rC18) (rC19) SC ++ wLT ca qA (rf4 (qY0 0) (qY1 0) (qY2 0) (qY3 0)) ++ w9 ca qY0 SY0 ++ w9 ca qY1 SY1 ++ w9 ca qY2 SY2 ++ w9 ca qY3 SY3 ++ w6 ca qP0 (.ref (qT0 0)) (rP01) SP0 ++ w7 ca qT0 ST0) H → va_D A (w11 ca qC (.ref (qA 0)) (rC4) (rC6) (rC7) (.ref (qP0 0)) (rC11) (rC12) (rC14) (rC15) (rC17) (rC18) (rC19) SC ++ wLT ca qA (rf4 (qY0 0) (qY1 0) (qY2 0) (qY3 0)) ++ w9 ca qY0 SY0 ++ w9 ca qY1 SY1 ++ w9 ca qY2 SY2 ++ w9 ca qY3 SY3 ++ w6 ca qP0 (.ref (qT0 0)) (rP01) SP0 ++ w7 ca qT0 ST0) → va_S A s.heap H locs → lv_has ls 5 [(0, .ref (qC 0)), (2, .ref (qY3 0)), (3, .int (v3)), (4, .int (v4))] → W p l e rmX11_copyHeights s m args below meth c H locs 0 0 (MQ below (tc_QI dC dI ca A (w11 ca qC (.ref (qA 0)) (rC4) (rC6) (rC7) (.ref (qP0 0)) (rC11) (rC12) (rC14) (rC15) (rC17) (rC18) (rC19) z.2.1 ++ wLT ca qA (rf4 (qY0 0) (qY1 0) (qY2 0) (qY3 0)) ++ w9 ca qY0 z.2.2.1 ++ w9 ca qY1 z.2.2.2.1 ++ w9 ca qY2 z.2.2.2.2.1 ++ w9 ca qY3 z.2.2.2.2.2 ++ w6 ca qP0 (.ref (qT0 0)) (rP01) SP0 ++ w7 ca qT0 ST0) (z.1)) args s 0 0 A) (F0 m 61 ls []) := by
  obtain ⟨hx, hb, hr, hml, hown, hts, hlk, hK, hA, hG⟩ := id X
  intro n
  induction n with
  | zero => intro SC SY0 SY1 SY2 SY3 v3 v4 hf; exact absurd (show none = some z from hf) (fun h => by cases h)
  | succ n ih =>
    intro SC SY0 SY1 SY2 SY3 v3 v4 hf H locs ls hP hD hS hl
    rw [fX11_copyHeights_61_3] at hf
    refine lv_iload hx hb dX11_copyHeights_61 (lv_at hl 3 rfl) ?_
    refine lv_iload_n hx hb dX11_copyHeights_63 rfl (lv_at hl 2 rfl) ?_
    refine lv_icmp_ge (tgt := 93) hx hb dX11_copyHeights_64 (by decide) (fun hc => ?_) (fun hc => ?_)
    · have hf := tc_pos hc hf
      refine lv_aload_n hx hb dX11_copyHeights_93 rfl (lv_at hl 0 rfl) ?_
      refine lv_iload_n hx hb dX11_copyHeights_94 rfl (lv_at hl 2 rfl) ?_
      obtain ⟨z22, hg, hf⟩ := tc_bi hf
      refine tc_iV (As := [.int (v3)]) (rest := []) (b := qC 0) (wc := w11 ca qC (.ref (qA 0)) (rC4) (rC6) (rC7) (.ref (qP0 0)) (rC11) (rC12) (rC14) (rC15) (rC17) (rC18) (rC19) SC) (wr := wLT ca qA (rf4 (qY0 0) (qY1 0) (qY2 0) (qY3 0)) ++ w9 ca qY0 SY0 ++ w9 ca qY1 SY1 ++ w9 ca qY2 SY2 ++ w9 ca qY3 SY3 ++ w6 ca qP0 (.ref (qT0 0)) (rP01) SP0 ++ w7 ca qT0 ST0) X hP hD hS (mX11_answer hg) okX11_answer wl_X11_182 wi_X11_answer ws_X11_X11_answer_X11_answer ⟨rfl, rfl, Nat.le_of_ble_eq_true rfl, Nat.le_of_ble_eq_true rfl⟩ 11 0 rfl rfl [0] [1, 2, 3, 4, 5, 6, 7, 8, 9, 10, 11, 12, 13, 14, 15, 16, 17, 18, 19, 20, 21] ⟨rfl, rfl, rfl, rfl, by decide⟩ rfl hl.1 (Nat.le_of_ble_eq_true rfl) dX11_copyHeights_95 (fun H locs hP hD hS => ?_)
      have hP := hP.sub (ws' := (w11 ca qC (.ref (qA 0)) (rC4) (rC6) (rC7) (.ref (qP0 0)) (rC11) (rC12) (rC14) (rC15) (rC17) (rC18) (rC19) z22.2 ++ wLT ca qA (rf4 (qY0 0) (qY1 0) (qY2 0) (qY3 0)) ++ w9 ca qY0 SY0 ++ w9 ca qY1 SY1 ++ w9 ca qY2 SY2 ++ w9 ca qY3 SY3 ++ w6 ca qP0 (.ref (qT0 0)) (rP01) SP0 ++ w7 ca qT0 ST0)) [21, 0, 1, 2, 3, 4, 5, 6, 7, 8, 9, 10, 11, 12, 13, 14, 15, 16, 17, 18, 19, 20] rfl
      have hD := hD.sub (ws' := (w11 ca qC (.ref (qA 0)) (rC4) (rC6) (rC7) (.ref (qP0 0)) (rC11) (rC12) (rC14) (rC15) (rC17) (rC18) (rC19) z22.2 ++ wLT ca qA (rf4 (qY0 0) (qY1 0) (qY2 0) (qY3 0)) ++ w9 ca qY0 SY0 ++ w9 ca qY1 SY1 ++ w9 ca qY2 SY2 ++ w9 ca qY3 SY3 ++ w6 ca qP0 (.ref (qT0 0)) (rP01) SP0 ++ w7 ca qT0 ST0)) [21, 0, 1, 2, 3, 4, 5, 6, 7, 8, 9, 10, 11, 12, 13, 14, 15, 16, 17, 18, 19, 20] rfl rfl
      obtain rfl := Option.some.inj hf
      exact tc_ri X hP hD hS rfl dX11_copyHeights_98 rfl rfl
    · have hf := tc_neg hc hf
      refine lv_aload_n hx hb dX11_copyHeights_67 rfl (lv_at hl 1 rfl) ?_
      refine lv_iload hx hb dX11_copyHeights_68 (lv_at hl 3 rfl) ?_
      refine lv_aload_n hx hb dX11_copyHeights_70 rfl (lv_at hl 0 rfl) ?_
      refine va_get (D := (dC, dI)) (ci := 11) (v := .ref (qP0 0)) (C := RX11) (T := TX11) (N := 20) hx hb hts i_X11 hown hK hP 0 rfl rfl 10 (by decide) (hts _ wf_X11_39) (fun _ h9 => h9) rfl dX11_copyHeights_71 ?_
      refine va_get (D := (dC, dI)) (ci := 6) (v := .ref (qT0 0)) (C := RX6) (T := TX6) (N := 2) hx hb hts i_X6 hown hK hP 10 rfl rfl 0 (by decide) (hts _ wf_X11_152) (fun _ h9 => h9) rfl dX11_copyHeights_74 ?_
      refine va_get (D := (dC, dI)) (ci := 7) (v := .ref (qT0 6)) (C := RX7) (T := TX7) (N := 18) hx hb hts i_X7 hown hK hP 11 rfl rfl 10 (by decide) (hts _ wf_X11_250) (fun _ h9 => h9) rfl dX11_copyHeights_77 ?_
      refine lv_iload hx hb dX11_copyHeights_80 (lv_at hl 3 rfl) ?_
      obtain ⟨hi23, hf⟩ := tc_in hf
      refine va_iald hx hb hK hP 17 1 rfl rfl hi23 dX11_copyHeights_82 ?_
      refine lv_i2l (v := (ia ST0 6 v4).toInt64) hx hb dX11_copyHeights_83 rfl ?_
      obtain ⟨z24, hg, hf⟩ := tc_bi hf
      refine tc_vV (As := [.int (v4), .long ((ia ST0 6 v4).toInt64)]) (rest := []) (b := qY3 0) (wc := w9 ca qY3 SY3) (wr := w11 ca qC (.ref (qA 0)) (rC4) (rC6) (rC7) (.ref (qP0 0)) (rC11) (rC12) (rC14) (rC15) (rC17) (rC18) (rC19) SC ++ wLT ca qA (rf4 (qY0 0) (qY1 0) (qY2 0) (qY3 0)) ++ w9 ca qY0 SY0 ++ w9 ca qY1 SY1 ++ w9 ca qY2 SY2 ++ w6 ca qP0 (.ref (qT0 0)) (rP01) SP0 ++ w7 ca qT0 ST0) X hP hD hS (mX9_put hg) okX9_put wl_X11_117 wi_X9_put ws_X9_X9_put_X9_put ⟨rfl, rfl, Nat.le_of_ble_eq_true rfl, Nat.le_of_ble_eq_true rfl⟩ 9 0 rfl rfl [8, 9] [0, 1, 2, 3, 4, 5, 6, 7, 10, 11, 12, 13, 14, 15, 16, 17, 18, 19, 20, 21] ⟨rfl, rfl, rfl, rfl, by decide⟩ rfl hl.1 (Nat.le_of_ble_eq_true rfl) dX11_copyHeights_84 (fun H locs hP hD hS => ?_)
      have hP := hP.sub (ws' := (w11 ca qC (.ref (qA 0)) (rC4) (rC6) (rC7) (.ref (qP0 0)) (rC11) (rC12) (rC14) (rC15) (rC17) (rC18) (rC19) SC ++ wLT ca qA (rf4 (qY0 0) (qY1 0) (qY2 0) (qY3 0)) ++ w9 ca qY0 SY0 ++ w9 ca qY1 SY1 ++ w9 ca qY2 SY2 ++ w9 ca qY3 z24 ++ w6 ca qP0 (.ref (qT0 0)) (rP01) SP0 ++ w7 ca qT0 ST0)) [0, 1, 2, 3, 4, 5, 6, 7, 20, 21, 8, 9, 10, 11, 12, 13, 14, 15, 16, 17, 18, 19] rfl
      have hD := hD.sub (ws' := (w11 ca qC (.ref (qA 0)) (rC4) (rC6) (rC7) (.ref (qP0 0)) (rC11) (rC12) (rC14) (rC15) (rC17) (rC18) (rC19) SC ++ wLT ca qA (rf4 (qY0 0) (qY1 0) (qY2 0) (qY3 0)) ++ w9 ca qY0 SY0 ++ w9 ca qY1 SY1 ++ w9 ca qY2 SY2 ++ w9 ca qY3 z24 ++ w6 ca qP0 (.ref (qT0 0)) (rP01) SP0 ++ w7 ca qT0 ST0)) [0, 1, 2, 3, 4, 5, 6, 7, 20, 21, 8, 9, 10, 11, 12, 13, 14, 15, 16, 17, 18, 19] rfl rfl
      refine lv_iinc (v := v4 + (1 : Int32)) (lv' := [(4, .int (v4 + (1 : Int32))), (0, .ref (qC 0)), (2, .ref (qY3 0)), (3, .int (v3))]) hx hb dX11_copyHeights_87 hl (k := 3) rfl rfl (by decide) rfl (fun ls hl => ?_)
      refine lv_goto (tgt := 61) hx hb dX11_copyHeights_90 (by decide) ?_
      exact ih SC SY0 SY1 SY2 z24 v3 (v4 + (1 : Int32)) hf _ _ _ hP hD hS (lv_sub hl [1, 2, 3, 0] rfl)
set_option maxRecDepth 20000 in
theorem mX11_copyHeights {qC : Nat → Nat} {qA : Nat → Nat} {qY0 : Nat → Nat} {qY1 : Nat → Nat} {qY2 : Nat → Nat} {qY3 : Nat → Nat} {qP0 : Nat → Nat} {qT0 : Nat → Nat} {rC4 : Value} {rC6 : Value} {rC7 : Value} {rC11 : Value} {rC12 : Value} {rC14 : Value} {rC15 : Value} {rC17 : Value} {rC18 : Value} {rC19 : Value} {rP01 : Value} {SC : ms_T} {SY0 : ms_T} {SY1 : ms_T} {SY2 : ms_T} {SY3 : ms_T} {SP0 : ms_T} {ST0 : ms_T} {a1 : Int32} {z : Int32 × ms_T × ms_T × ms_T × ms_T × ms_T}  (hf : fX11_copyHeights SC SY0 SY1 SY2 SY3 SP0 ST0 a1 = some z) : tc_MI l dC dI ca yX11_copyHeights cX11_copyHeights 5 (some .int) rmX11_copyHeights [.ref (qC 0), .int (a1)] (w11 ca qC (.ref (qA 0)) (rC4) (rC6) (rC7) (.ref (qP0 0)) (rC11) (rC12) (rC14) (rC15) (rC17) (rC18) (rC19) SC ++ wLT ca qA (rf4 (qY0 0) (qY1 0) (qY2 0) (qY3 0)) ++ w9 ca qY0 SY0 ++ w9 ca qY1 SY1 ++ w9 ca qY2 SY2 ++ w9 ca qY3 SY3 ++ w6 ca qP0 (.ref (qT0 0)) (rP01) SP0 ++ w7 ca qT0 ST0) (w11 ca qC (.ref (qA 0)) (rC4) (rC6) (rC7) (.ref (qP0 0)) (rC11) (rC12) (rC14) (rC15) (rC17) (rC18) (rC19) z.2.1 ++ wLT ca qA (rf4 (qY0 0) (qY1 0) (qY2 0) (qY3 0)) ++ w9 ca qY0 z.2.2.1 ++ w9 ca qY1 z.2.2.2.1 ++ w9 ca qY2 z.2.2.2.2.1 ++ w9 ca qY3 z.2.2.2.2.2 ++ w6 ca qP0 (.ref (qT0 0)) (rP01) SP0 ++ w7 ca qT0 ST0) (z.1) := by
  refine tc_metI (own := RX11) (by decide) rfl ?_ (Nat.le_of_ble_eq_true rfl)
  intro p e s m below meth c A X hP hD hS ls hl
  obtain ⟨hx, hb, hr, hml, hown, hts, hlk, hK, hA, hG⟩ := id X
  unfold fX11_copyHeights at hf
  have hl : lv_has ls 5 [(0, .ref (qC 0)), (1, .int (a1))] := hl
  refine lv_iload_n hx hb dX11_copyHeights_0 rfl (lv_at hl 1 rfl) ?_
  obtain ⟨z1, hg, hf⟩ := tc_bi hf
  refine tc_iS0 (As := [.int (a1)]) (rest := []) X hP hD hS (mX11_isTray hg) okX11_isTray wl_X11_98 wt_X11_isTray ⟨rfl, rfl, Nat.le_of_ble_eq_true rfl, Nat.le_of_ble_eq_true rfl⟩ rfl hl.1 (Nat.le_of_ble_eq_true rfl) dX11_copyHeights_1 (fun H locs hP hD hS => ?_)
  refine lv_if_ne (tgt := 13) hx hb dX11_copyHeights_4 (by decide) (fun hc => ?_) (fun hc => ?_)
  · have hf := tc_neg hc hf
    refine lv_aload_n hx hb dX11_copyHeights_13 rfl (lv_at hl 0 rfl) ?_
    refine va_get (D := (dC, dI)) (ci := 11) (v := .ref (qA 0)) (C := RX11) (T := TX11) (N := 20) hx hb hts i_X11 hown hK hP 0 rfl rfl 3 (by decide) (hts _ wf_X11_11) (fun _ h9 => h9) rfl dX11_copyHeights_14 ?_
    refine lv_iload_n hx hb dX11_copyHeights_17 rfl (lv_at hl 1 rfl) ?_
    by_cases hq2_0 : a1 = (0 : Int32)
    · have hf := tc_pos hq2_0 hf
      refine tc_ald (b := qY0 0) X hP 1 4 rfl rfl 0 (by rw [hq2_0]; decide) (by rw [hq2_0]; exact inb_vp (by decide)) rfl dX11_copyHeights_18 ?_
      refine lv_astore_n (lv' := [(2, .ref (qY0 0)), (0, .ref (qC 0)), (1, .int (a1))]) hx hb dX11_copyHeights_19 rfl hl (by decide) rfl (fun ls hl => ?_)
      refine lv_aload_n hx hb dX11_copyHeights_20 rfl (lv_at hl 0 rfl) ?_
      obtain ⟨z3, hg, hf⟩ := tc_bi hf
      refine tc_iV (As := []) (rest := []) (b := qY0 0) (wc := w9 ca qY0 SY0) (wr := w11 ca qC (.ref (qA 0)) (rC4) (rC6) (rC7) (.ref (qP0 0)) (rC11) (rC12) (rC14) (rC15) (rC17) (rC18) (rC19) SC ++ wLT ca qA (rf4 (qY0 0) (qY1 0) (qY2 0) (qY3 0)) ++ w9 ca qY1 SY1 ++ w9 ca qY2 SY2 ++ w9 ca qY3 SY3 ++ w6 ca qP0 (.ref (qT0 0)) (rP01) SP0 ++ w7 ca qT0 ST0) X hP hD hS (mX9_isMissing hg) okX9_isMissing wl_X11_129 wi_X9_isMissing ws_X9_X9_isMissing_X9_isMissing ⟨rfl, rfl, Nat.le_of_ble_eq_true rfl, Nat.le_of_ble_eq_true rfl⟩ 9 0 rfl rfl [2, 3] [0, 1, 4, 5, 6, 7, 8, 9, 10, 11, 12, 13, 14, 15, 16, 17, 18, 19, 20, 21] ⟨rfl, rfl, rfl, rfl, by decide⟩ rfl hl.1 (Nat.le_of_ble_eq_true rfl) dX11_copyHeights_21 (fun H locs hP hD hS => ?_)
      have hP := hP.sub (ws' := (w11 ca qC (.ref (qA 0)) (rC4) (rC6) (rC7) (.ref (qP0 0)) (rC11) (rC12) (rC14) (rC15) (rC17) (rC18) (rC19) SC ++ wLT ca qA (rf4 (qY0 0) (qY1 0) (qY2 0) (qY3 0)) ++ w9 ca qY0 SY0 ++ w9 ca qY1 SY1 ++ w9 ca qY2 SY2 ++ w9 ca qY3 SY3 ++ w6 ca qP0 (.ref (qT0 0)) (rP01) SP0 ++ w7 ca qT0 ST0)) [0, 1, 20, 21, 2, 3, 4, 5, 6, 7, 8, 9, 10, 11, 12, 13, 14, 15, 16, 17, 18, 19] rfl
      have hD := hD.sub (ws' := (w11 ca qC (.ref (qA 0)) (rC4) (rC6) (rC7) (.ref (qP0 0)) (rC11) (rC12) (rC14) (rC15) (rC17) (rC18) (rC19) SC ++ wLT ca qA (rf4 (qY0 0) (qY1 0) (qY2 0) (qY3 0)) ++ w9 ca qY0 SY0 ++ w9 ca qY1 SY1 ++ w9 ca qY2 SY2 ++ w9 ca qY3 SY3 ++ w6 ca qP0 (.ref (qT0 0)) (rP01) SP0 ++ w7 ca qT0 ST0)) [0, 1, 20, 21, 2, 3, 4, 5, 6, 7, 8, 9, 10, 11, 12, 13, 14, 15, 16, 17, 18, 19] rfl rfl
      refine lv_if_eq (tgt := 33) hx hb dX11_copyHeights_24 (by decide) (fun hc => ?_) (fun hc => ?_)
      · have hf := tc_pos hc hf
        refine lv_aload_n hx hb dX11_copyHeights_33 rfl (lv_at hl 1 rfl) ?_
        refine va_get (D := (dC, dI)) (ci := 11) (v := .ref (qP0 0)) (C := RX11) (T := TX11) (N := 20) hx hb hts i_X11 hown hK hP 0 rfl rfl 10 (by decide) (hts _ wf_X11_39) (fun _ h9 => h9) rfl dX11_copyHeights_34 ?_
        refine va_get (D := (dC, dI)) (ci := 6) (v := .ref (qT0 0)) (C := RX6) (T := TX6) (N := 2) hx hb hts i_X6 hown hK hP 10 rfl rfl 0 (by decide) (hts _ wf_X11_152) (fun _ h9 => h9) rfl dX11_copyHeights_37 ?_
        refine va_get (D := (dC, dI)) (ci := 7) (v := .int (gi ST0 8)) (C := RX7) (T := TX7) (N := 18) hx hb hts i_X7 hown hK hP 11 rfl rfl 8 (by decide) (hts _ wf_X11_179) (fun _ h9 => h9) rfl dX11_copyHeights_40 ?_
        refine lv_istore_n (lv' := [(3, .int (gi ST0 8)), (2, .ref (qY0 0)), (0, .ref (qC 0)), (1, .int (a1))]) hx hb dX11_copyHeights_43 rfl hl (by decide) rfl (fun ls hl => ?_)
        refine lv_iload_n hx hb dX11_copyHeights_44 rfl (lv_at hl 0 rfl) ?_
        refine lv_aload_n hx hb dX11_copyHeights_45 rfl (lv_at hl 1 rfl) ?_
        refine va_get (D := (dC, dI)) (ci := 9) (v := .int (gi SY0 2)) (C := RX9) (T := TX9) (N := 3) hx hb hts i_X9 hown hK hP 2 rfl rfl 2 (by decide) (hts _ wf_X11_265) (fun _ h9 => h9) rfl dX11_copyHeights_46 ?_
        refine lv_icmp_le (tgt := 58) hx hb dX11_copyHeights_49 (by decide) (fun hc => ?_) (fun hc => ?_)
        · have hf := tc_pos hc hf
          refine lv_iconst (v := (0 : Int32)) hx hb dX11_copyHeights_58 (by decide) ?_
          refine lv_istore (lv' := [(4, .int ((0 : Int32))), (3, .int (gi ST0 8)), (2, .ref (qY0 0)), (0, .ref (qC 0)), (1, .int (a1))]) hx hb dX11_copyHeights_59 hl (by decide) rfl (fun ls hl => ?_)
          exact tX11_copyHeights_61 X z SP0 ST0 FU SC SY0 SY1 SY2 SY3 (gi ST0 8) (0 : Int32) hf _ _ _ hP hD hS (lv_sub hl [3, 2, 1, 0] rfl)
        · have hf := tc_neg hc hf
          refine lv_aload_n hx hb dX11_copyHeights_52 rfl (lv_at hl 2 rfl) ?_
          refine lv_iconst (v := (4 : Int32)) hx hb dX11_copyHeights_53 (by decide) ?_
          obtain ⟨z7, hg, hf⟩ := tc_bi hf
          refine tc_iV (As := [.int ((4 : Int32))]) (rest := []) (b := qC 0) (wc := w11 ca qC (.ref (qA 0)) (rC4) (rC6) (rC7) (.ref (qP0 0)) (rC11) (rC12) (rC14) (rC15) (rC17) (rC18) (rC19) SC) (wr := wLT ca qA (rf4 (qY0 0) (qY1 0) (qY2 0) (qY3 0)) ++ w9 ca qY0 SY0 ++ w9 ca qY1 SY1 ++ w9 ca qY2 SY2 ++ w9 ca qY3 SY3 ++ w6 ca qP0 (.ref (qT0 0)) (rP01) SP0 ++ w7 ca qT0 ST0) X hP hD hS (mX11_refuse hg) okX11_refuse wl_X11_121 wi_X11_refuse ws_X11_X11_refuse_X11_refuse ⟨rfl, rfl, Nat.le_of_ble_eq_true rfl, Nat.le_of_ble_eq_true rfl⟩ 11 0 rfl rfl [0] [1, 2, 3, 4, 5, 6, 7, 8, 9, 10, 11, 12, 13, 14, 15, 16, 17, 18, 19, 20, 21] ⟨rfl, rfl, rfl, rfl, by decide⟩ rfl hl.1 (Nat.le_of_ble_eq_true rfl) dX11_copyHeights_54 (fun H locs hP hD hS => ?_)
          have hP := hP.sub (ws' := (w11 ca qC (.ref (qA 0)) (rC4) (rC6) (rC7) (.ref (qP0 0)) (rC11) (rC12) (rC14) (rC15) (rC17) (rC18) (rC19) z7.2 ++ wLT ca qA (rf4 (qY0 0) (qY1 0) (qY2 0) (qY3 0)) ++ w9 ca qY0 SY0 ++ w9 ca qY1 SY1 ++ w9 ca qY2 SY2 ++ w9 ca qY3 SY3 ++ w6 ca qP0 (.ref (qT0 0)) (rP01) SP0 ++ w7 ca qT0 ST0)) [21, 0, 1, 2, 3, 4, 5, 6, 7, 8, 9, 10, 11, 12, 13, 14, 15, 16, 17, 18, 19, 20] rfl
          have hD := hD.sub (ws' := (w11 ca qC (.ref (qA 0)) (rC4) (rC6) (rC7) (.ref (qP0 0)) (rC11) (rC12) (rC14) (rC15) (rC17) (rC18) (rC19) z7.2 ++ wLT ca qA (rf4 (qY0 0) (qY1 0) (qY2 0) (qY3 0)) ++ w9 ca qY0 SY0 ++ w9 ca qY1 SY1 ++ w9 ca qY2 SY2 ++ w9 ca qY3 SY3 ++ w6 ca qP0 (.ref (qT0 0)) (rP01) SP0 ++ w7 ca qT0 ST0)) [21, 0, 1, 2, 3, 4, 5, 6, 7, 8, 9, 10, 11, 12, 13, 14, 15, 16, 17, 18, 19, 20] rfl rfl
          obtain rfl := Option.some.inj hf
          exact tc_ri X hP hD hS rfl dX11_copyHeights_57 rfl rfl
      · have hf := tc_neg hc hf
        refine lv_aload_n hx hb dX11_copyHeights_27 rfl (lv_at hl 1 rfl) ?_
        refine lv_iconst (v := (3 : Int32)) hx hb dX11_copyHeights_28 (by decide) ?_
        obtain ⟨z8, hg, hf⟩ := tc_bi hf
        refine tc_iV (As := [.int ((3 : Int32))]) (rest := []) (b := qC 0) (wc := w11 ca qC (.ref (qA 0)) (rC4) (rC6) (rC7) (.ref (qP0 0)) (rC11) (rC12) (rC14) (rC15) (rC17) (rC18) (rC19) SC) (wr := wLT ca qA (rf4 (qY0 0) (qY1 0) (qY2 0) (qY3 0)) ++ w9 ca qY0 SY0 ++ w9 ca qY1 SY1 ++ w9 ca qY2 SY2 ++ w9 ca qY3 SY3 ++ w6 ca qP0 (.ref (qT0 0)) (rP01) SP0 ++ w7 ca qT0 ST0) X hP hD hS (mX11_refuse hg) okX11_refuse wl_X11_121 wi_X11_refuse ws_X11_X11_refuse_X11_refuse ⟨rfl, rfl, Nat.le_of_ble_eq_true rfl, Nat.le_of_ble_eq_true rfl⟩ 11 0 rfl rfl [0] [1, 2, 3, 4, 5, 6, 7, 8, 9, 10, 11, 12, 13, 14, 15, 16, 17, 18, 19, 20, 21] ⟨rfl, rfl, rfl, rfl, by decide⟩ rfl hl.1 (Nat.le_of_ble_eq_true rfl) dX11_copyHeights_29 (fun H locs hP hD hS => ?_)
        have hP := hP.sub (ws' := (w11 ca qC (.ref (qA 0)) (rC4) (rC6) (rC7) (.ref (qP0 0)) (rC11) (rC12) (rC14) (rC15) (rC17) (rC18) (rC19) z8.2 ++ wLT ca qA (rf4 (qY0 0) (qY1 0) (qY2 0) (qY3 0)) ++ w9 ca qY0 SY0 ++ w9 ca qY1 SY1 ++ w9 ca qY2 SY2 ++ w9 ca qY3 SY3 ++ w6 ca qP0 (.ref (qT0 0)) (rP01) SP0 ++ w7 ca qT0 ST0)) [21, 0, 1, 2, 3, 4, 5, 6, 7, 8, 9, 10, 11, 12, 13, 14, 15, 16, 17, 18, 19, 20] rfl
        have hD := hD.sub (ws' := (w11 ca qC (.ref (qA 0)) (rC4) (rC6) (rC7) (.ref (qP0 0)) (rC11) (rC12) (rC14) (rC15) (rC17) (rC18) (rC19) z8.2 ++ wLT ca qA (rf4 (qY0 0) (qY1 0) (qY2 0) (qY3 0)) ++ w9 ca qY0 SY0 ++ w9 ca qY1 SY1 ++ w9 ca qY2 SY2 ++ w9 ca qY3 SY3 ++ w6 ca qP0 (.ref (qT0 0)) (rP01) SP0 ++ w7 ca qT0 ST0)) [21, 0, 1, 2, 3, 4, 5, 6, 7, 8, 9, 10, 11, 12, 13, 14, 15, 16, 17, 18, 19, 20] rfl rfl
        obtain rfl := Option.some.inj hf
        exact tc_ri X hP hD hS rfl dX11_copyHeights_32 rfl rfl
    · have hf := tc_neg hq2_0 hf
      by_cases hq2_1 : a1 = (1 : Int32)
      · have hf := tc_pos hq2_1 hf
        refine tc_ald (b := qY1 0) X hP 1 4 rfl rfl 1 (by rw [hq2_1]; decide) (by rw [hq2_1]; exact inb_vp (by decide)) rfl dX11_copyHeights_18 ?_
        refine lv_astore_n (lv' := [(2, .ref (qY1 0)), (0, .ref (qC 0)), (1, .int (a1))]) hx hb dX11_copyHeights_19 rfl hl (by decide) rfl (fun ls hl => ?_)
        refine lv_aload_n hx hb dX11_copyHeights_20 rfl (lv_at hl 0 rfl) ?_
        obtain ⟨z9, hg, hf⟩ := tc_bi hf
        refine tc_iV (As := []) (rest := []) (b := qY1 0) (wc := w9 ca qY1 SY1) (wr := w11 ca qC (.ref (qA 0)) (rC4) (rC6) (rC7) (.ref (qP0 0)) (rC11) (rC12) (rC14) (rC15) (rC17) (rC18) (rC19) SC ++ wLT ca qA (rf4 (qY0 0) (qY1 0) (qY2 0) (qY3 0)) ++ w9 ca qY0 SY0 ++ w9 ca qY2 SY2 ++ w9 ca qY3 SY3 ++ w6 ca qP0 (.ref (qT0 0)) (rP01) SP0 ++ w7 ca qT0 ST0) X hP hD hS (mX9_isMissing hg) okX9_isMissing wl_X11_129 wi_X9_isMissing ws_X9_X9_isMissing_X9_isMissing ⟨rfl, rfl, Nat.le_of_ble_eq_true rfl, Nat.le_of_ble_eq_true rfl⟩ 9 0 rfl rfl [4, 5] [0, 1, 2, 3, 6, 7, 8, 9, 10, 11, 12, 13, 14, 15, 16, 17, 18, 19, 20, 21] ⟨rfl, rfl, rfl, rfl, by decide⟩ rfl hl.1 (Nat.le_of_ble_eq_true rfl) dX11_copyHeights_21 (fun H locs hP hD hS => ?_)
        have hP := hP.sub (ws' := (w11 ca qC (.ref (qA 0)) (rC4) (rC6) (rC7) (.ref (qP0 0)) (rC11) (rC12) (rC14) (rC15) (rC17) (rC18) (rC19) SC ++ wLT ca qA (rf4 (qY0 0) (qY1 0) (qY2 0) (qY3 0)) ++ w9 ca qY0 SY0 ++ w9 ca qY1 SY1 ++ w9 ca qY2 SY2 ++ w9 ca qY3 SY3 ++ w6 ca qP0 (.ref (qT0 0)) (rP01) SP0 ++ w7 ca qT0 ST0)) [0, 1, 2, 3, 20, 21, 4, 5, 6, 7, 8, 9, 10, 11, 12, 13, 14, 15, 16, 17, 18, 19] rfl
        have hD := hD.sub (ws' := (w11 ca qC (.ref (qA 0)) (rC4) (rC6) (rC7) (.ref (qP0 0)) (rC11) (rC12) (rC14) (rC15) (rC17) (rC18) (rC19) SC ++ wLT ca qA (rf4 (qY0 0) (qY1 0) (qY2 0) (qY3 0)) ++ w9 ca qY0 SY0 ++ w9 ca qY1 SY1 ++ w9 ca qY2 SY2 ++ w9 ca qY3 SY3 ++ w6 ca qP0 (.ref (qT0 0)) (rP01) SP0 ++ w7 ca qT0 ST0)) [0, 1, 2, 3, 20, 21, 4, 5, 6, 7, 8, 9, 10, 11, 12, 13, 14, 15, 16, 17, 18, 19] rfl rfl
        refine lv_if_eq (tgt := 33) hx hb dX11_copyHeights_24 (by decide) (fun hc => ?_) (fun hc => ?_)
        · have hf := tc_pos hc hf
          refine lv_aload_n hx hb dX11_copyHeights_33 rfl (lv_at hl 1 rfl) ?_
          refine va_get (D := (dC, dI)) (ci := 11) (v := .ref (qP0 0)) (C := RX11) (T := TX11) (N := 20) hx hb hts i_X11 hown hK hP 0 rfl rfl 10 (by decide) (hts _ wf_X11_39) (fun _ h9 => h9) rfl dX11_copyHeights_34 ?_
          refine va_get (D := (dC, dI)) (ci := 6) (v := .ref (qT0 0)) (C := RX6) (T := TX6) (N := 2) hx hb hts i_X6 hown hK hP 10 rfl rfl 0 (by decide) (hts _ wf_X11_152) (fun _ h9 => h9) rfl dX11_copyHeights_37 ?_
          refine va_get (D := (dC, dI)) (ci := 7) (v := .int (gi ST0 8)) (C := RX7) (T := TX7) (N := 18) hx hb hts i_X7 hown hK hP 11 rfl rfl 8 (by decide) (hts _ wf_X11_179) (fun _ h9 => h9) rfl dX11_copyHeights_40 ?_
          refine lv_istore_n (lv' := [(3, .int (gi ST0 8)), (2, .ref (qY1 0)), (0, .ref (qC 0)), (1, .int (a1))]) hx hb dX11_copyHeights_43 rfl hl (by decide) rfl (fun ls hl => ?_)
          refine lv_iload_n hx hb dX11_copyHeights_44 rfl (lv_at hl 0 rfl) ?_
          refine lv_aload_n hx hb dX11_copyHeights_45 rfl (lv_at hl 1 rfl) ?_
          refine va_get (D := (dC, dI)) (ci := 9) (v := .int (gi SY1 2)) (C := RX9) (T := TX9) (N := 3) hx hb hts i_X9 hown hK hP 4 rfl rfl 2 (by decide) (hts _ wf_X11_265) (fun _ h9 => h9) rfl dX11_copyHeights_46 ?_
          refine lv_icmp_le (tgt := 58) hx hb dX11_copyHeights_49 (by decide) (fun hc => ?_) (fun hc => ?_)
          · have hf := tc_pos hc hf
            refine lv_iconst (v := (0 : Int32)) hx hb dX11_copyHeights_58 (by decide) ?_
            refine lv_istore (lv' := [(4, .int ((0 : Int32))), (3, .int (gi ST0 8)), (2, .ref (qY1 0)), (0, .ref (qC 0)), (1, .int (a1))]) hx hb dX11_copyHeights_59 hl (by decide) rfl (fun ls hl => ?_)
            exact tX11_copyHeights_61_1 X z SP0 ST0 FU SC SY0 SY1 SY2 SY3 (gi ST0 8) (0 : Int32) hf _ _ _ hP hD hS (lv_sub hl [3, 2, 1, 0] rfl)
          · have hf := tc_neg hc hf
            refine lv_aload_n hx hb dX11_copyHeights_52 rfl (lv_at hl 2 rfl) ?_
            refine lv_iconst (v := (4 : Int32)) hx hb dX11_copyHeights_53 (by decide) ?_
            obtain ⟨z13, hg, hf⟩ := tc_bi hf
            refine tc_iV (As := [.int ((4 : Int32))]) (rest := []) (b := qC 0) (wc := w11 ca qC (.ref (qA 0)) (rC4) (rC6) (rC7) (.ref (qP0 0)) (rC11) (rC12) (rC14) (rC15) (rC17) (rC18) (rC19) SC) (wr := wLT ca qA (rf4 (qY0 0) (qY1 0) (qY2 0) (qY3 0)) ++ w9 ca qY0 SY0 ++ w9 ca qY1 SY1 ++ w9 ca qY2 SY2 ++ w9 ca qY3 SY3 ++ w6 ca qP0 (.ref (qT0 0)) (rP01) SP0 ++ w7 ca qT0 ST0) X hP hD hS (mX11_refuse hg) okX11_refuse wl_X11_121 wi_X11_refuse ws_X11_X11_refuse_X11_refuse ⟨rfl, rfl, Nat.le_of_ble_eq_true rfl, Nat.le_of_ble_eq_true rfl⟩ 11 0 rfl rfl [0] [1, 2, 3, 4, 5, 6, 7, 8, 9, 10, 11, 12, 13, 14, 15, 16, 17, 18, 19, 20, 21] ⟨rfl, rfl, rfl, rfl, by decide⟩ rfl hl.1 (Nat.le_of_ble_eq_true rfl) dX11_copyHeights_54 (fun H locs hP hD hS => ?_)
            have hP := hP.sub (ws' := (w11 ca qC (.ref (qA 0)) (rC4) (rC6) (rC7) (.ref (qP0 0)) (rC11) (rC12) (rC14) (rC15) (rC17) (rC18) (rC19) z13.2 ++ wLT ca qA (rf4 (qY0 0) (qY1 0) (qY2 0) (qY3 0)) ++ w9 ca qY0 SY0 ++ w9 ca qY1 SY1 ++ w9 ca qY2 SY2 ++ w9 ca qY3 SY3 ++ w6 ca qP0 (.ref (qT0 0)) (rP01) SP0 ++ w7 ca qT0 ST0)) [21, 0, 1, 2, 3, 4, 5, 6, 7, 8, 9, 10, 11, 12, 13, 14, 15, 16, 17, 18, 19, 20] rfl
            have hD := hD.sub (ws' := (w11 ca qC (.ref (qA 0)) (rC4) (rC6) (rC7) (.ref (qP0 0)) (rC11) (rC12) (rC14) (rC15) (rC17) (rC18) (rC19) z13.2 ++ wLT ca qA (rf4 (qY0 0) (qY1 0) (qY2 0) (qY3 0)) ++ w9 ca qY0 SY0 ++ w9 ca qY1 SY1 ++ w9 ca qY2 SY2 ++ w9 ca qY3 SY3 ++ w6 ca qP0 (.ref (qT0 0)) (rP01) SP0 ++ w7 ca qT0 ST0)) [21, 0, 1, 2, 3, 4, 5, 6, 7, 8, 9, 10, 11, 12, 13, 14, 15, 16, 17, 18, 19, 20] rfl rfl
            obtain rfl := Option.some.inj hf
            exact tc_ri X hP hD hS rfl dX11_copyHeights_57 rfl rfl
        · have hf := tc_neg hc hf
          refine lv_aload_n hx hb dX11_copyHeights_27 rfl (lv_at hl 1 rfl) ?_
          refine lv_iconst (v := (3 : Int32)) hx hb dX11_copyHeights_28 (by decide) ?_
          obtain ⟨z14, hg, hf⟩ := tc_bi hf
          refine tc_iV (As := [.int ((3 : Int32))]) (rest := []) (b := qC 0) (wc := w11 ca qC (.ref (qA 0)) (rC4) (rC6) (rC7) (.ref (qP0 0)) (rC11) (rC12) (rC14) (rC15) (rC17) (rC18) (rC19) SC) (wr := wLT ca qA (rf4 (qY0 0) (qY1 0) (qY2 0) (qY3 0)) ++ w9 ca qY0 SY0 ++ w9 ca qY1 SY1 ++ w9 ca qY2 SY2 ++ w9 ca qY3 SY3 ++ w6 ca qP0 (.ref (qT0 0)) (rP01) SP0 ++ w7 ca qT0 ST0) X hP hD hS (mX11_refuse hg) okX11_refuse wl_X11_121 wi_X11_refuse ws_X11_X11_refuse_X11_refuse ⟨rfl, rfl, Nat.le_of_ble_eq_true rfl, Nat.le_of_ble_eq_true rfl⟩ 11 0 rfl rfl [0] [1, 2, 3, 4, 5, 6, 7, 8, 9, 10, 11, 12, 13, 14, 15, 16, 17, 18, 19, 20, 21] ⟨rfl, rfl, rfl, rfl, by decide⟩ rfl hl.1 (Nat.le_of_ble_eq_true rfl) dX11_copyHeights_29 (fun H locs hP hD hS => ?_)
          have hP := hP.sub (ws' := (w11 ca qC (.ref (qA 0)) (rC4) (rC6) (rC7) (.ref (qP0 0)) (rC11) (rC12) (rC14) (rC15) (rC17) (rC18) (rC19) z14.2 ++ wLT ca qA (rf4 (qY0 0) (qY1 0) (qY2 0) (qY3 0)) ++ w9 ca qY0 SY0 ++ w9 ca qY1 SY1 ++ w9 ca qY2 SY2 ++ w9 ca qY3 SY3 ++ w6 ca qP0 (.ref (qT0 0)) (rP01) SP0 ++ w7 ca qT0 ST0)) [21, 0, 1, 2, 3, 4, 5, 6, 7, 8, 9, 10, 11, 12, 13, 14, 15, 16, 17, 18, 19, 20] rfl
          have hD := hD.sub (ws' := (w11 ca qC (.ref (qA 0)) (rC4) (rC6) (rC7) (.ref (qP0 0)) (rC11) (rC12) (rC14) (rC15) (rC17) (rC18) (rC19) z14.2 ++ wLT ca qA (rf4 (qY0 0) (qY1 0) (qY2 0) (qY3 0)) ++ w9 ca qY0 SY0 ++ w9 ca qY1 SY1 ++ w9 ca qY2 SY2 ++ w9 ca qY3 SY3 ++ w6 ca qP0 (.ref (qT0 0)) (rP01) SP0 ++ w7 ca qT0 ST0)) [21, 0, 1, 2, 3, 4, 5, 6, 7, 8, 9, 10, 11, 12, 13, 14, 15, 16, 17, 18, 19, 20] rfl rfl
          obtain rfl := Option.some.inj hf
          exact tc_ri X hP hD hS rfl dX11_copyHeights_32 rfl rfl
      · have hf := tc_neg hq2_1 hf
        by_cases hq2_2 : a1 = (2 : Int32)
        · have hf := tc_pos hq2_2 hf
          refine tc_ald (b := qY2 0) X hP 1 4 rfl rfl 2 (by rw [hq2_2]; decide) (by rw [hq2_2]; exact inb_vp (by decide)) rfl dX11_copyHeights_18 ?_
          refine lv_astore_n (lv' := [(2, .ref (qY2 0)), (0, .ref (qC 0)), (1, .int (a1))]) hx hb dX11_copyHeights_19 rfl hl (by decide) rfl (fun ls hl => ?_)
          refine lv_aload_n hx hb dX11_copyHeights_20 rfl (lv_at hl 0 rfl) ?_
          obtain ⟨z15, hg, hf⟩ := tc_bi hf
          refine tc_iV (As := []) (rest := []) (b := qY2 0) (wc := w9 ca qY2 SY2) (wr := w11 ca qC (.ref (qA 0)) (rC4) (rC6) (rC7) (.ref (qP0 0)) (rC11) (rC12) (rC14) (rC15) (rC17) (rC18) (rC19) SC ++ wLT ca qA (rf4 (qY0 0) (qY1 0) (qY2 0) (qY3 0)) ++ w9 ca qY0 SY0 ++ w9 ca qY1 SY1 ++ w9 ca qY3 SY3 ++ w6 ca qP0 (.ref (qT0 0)) (rP01) SP0 ++ w7 ca qT0 ST0) X hP hD hS (mX9_isMissing hg) okX9_isMissing wl_X11_129 wi_X9_isMissing ws_X9_X9_isMissing_X9_isMissing ⟨rfl, rfl, Nat.le_of_ble_eq_true rfl, Nat.le_of_ble_eq_true rfl⟩ 9 0 rfl rfl [6, 7] [0, 1, 2, 3, 4, 5, 8, 9, 10, 11, 12, 13, 14, 15, 16, 17, 18, 19, 20, 21] ⟨rfl, rfl, rfl, rfl, by decide⟩ rfl hl.1 (Nat.le_of_ble_eq_true rfl) dX11_copyHeights_21 (fun H locs hP hD hS => ?_)
          have hP := hP.sub (ws' := (w11 ca qC (.ref (qA 0)) (rC4) (rC6) (rC7) (.ref (qP0 0)) (rC11) (rC12) (rC14) (rC15) (rC17) (rC18) (rC19) SC ++ wLT ca qA (rf4 (qY0 0) (qY1 0) (qY2 0) (qY3 0)) ++ w9 ca qY0 SY0 ++ w9 ca qY1 SY1 ++ w9 ca qY2 SY2 ++ w9 ca qY3 SY3 ++ w6 ca qP0 (.ref (qT0 0)) (rP01) SP0 ++ w7 ca qT0 ST0)) [0, 1, 2, 3, 4, 5, 20, 21, 6, 7, 8, 9, 10, 11, 12, 13, 14, 15, 16, 17, 18, 19] rfl
          have hD := hD.sub (ws' := (w11 ca qC (.ref (qA 0)) (rC4) (rC6) (rC7) (.ref (qP0 0)) (rC11) (rC12) (rC14) (rC15) (rC17) (rC18) (rC19) SC ++ wLT ca qA (rf4 (qY0 0) (qY1 0) (qY2 0) (qY3 0)) ++ w9 ca qY0 SY0 ++ w9 ca qY1 SY1 ++ w9 ca qY2 SY2 ++ w9 ca qY3 SY3 ++ w6 ca qP0 (.ref (qT0 0)) (rP01) SP0 ++ w7 ca qT0 ST0)) [0, 1, 2, 3, 4, 5, 20, 21, 6, 7, 8, 9, 10, 11, 12, 13, 14, 15, 16, 17, 18, 19] rfl rfl
          refine lv_if_eq (tgt := 33) hx hb dX11_copyHeights_24 (by decide) (fun hc => ?_) (fun hc => ?_)
          · have hf := tc_pos hc hf
            refine lv_aload_n hx hb dX11_copyHeights_33 rfl (lv_at hl 1 rfl) ?_
            refine va_get (D := (dC, dI)) (ci := 11) (v := .ref (qP0 0)) (C := RX11) (T := TX11) (N := 20) hx hb hts i_X11 hown hK hP 0 rfl rfl 10 (by decide) (hts _ wf_X11_39) (fun _ h9 => h9) rfl dX11_copyHeights_34 ?_
            refine va_get (D := (dC, dI)) (ci := 6) (v := .ref (qT0 0)) (C := RX6) (T := TX6) (N := 2) hx hb hts i_X6 hown hK hP 10 rfl rfl 0 (by decide) (hts _ wf_X11_152) (fun _ h9 => h9) rfl dX11_copyHeights_37 ?_
            refine va_get (D := (dC, dI)) (ci := 7) (v := .int (gi ST0 8)) (C := RX7) (T := TX7) (N := 18) hx hb hts i_X7 hown hK hP 11 rfl rfl 8 (by decide) (hts _ wf_X11_179) (fun _ h9 => h9) rfl dX11_copyHeights_40 ?_
            refine lv_istore_n (lv' := [(3, .int (gi ST0 8)), (2, .ref (qY2 0)), (0, .ref (qC 0)), (1, .int (a1))]) hx hb dX11_copyHeights_43 rfl hl (by decide) rfl (fun ls hl => ?_)
            refine lv_iload_n hx hb dX11_copyHeights_44 rfl (lv_at hl 0 rfl) ?_
            refine lv_aload_n hx hb dX11_copyHeights_45 rfl (lv_at hl 1 rfl) ?_
            refine va_get (D := (dC, dI)) (ci := 9) (v := .int (gi SY2 2)) (C := RX9) (T := TX9) (N := 3) hx hb hts i_X9 hown hK hP 6 rfl rfl 2 (by decide) (hts _ wf_X11_265) (fun _ h9 => h9) rfl dX11_copyHeights_46 ?_
            refine lv_icmp_le (tgt := 58) hx hb dX11_copyHeights_49 (by decide) (fun hc => ?_) (fun hc => ?_)
            · have hf := tc_pos hc hf
              refine lv_iconst (v := (0 : Int32)) hx hb dX11_copyHeights_58 (by decide) ?_
              refine lv_istore (lv' := [(4, .int ((0 : Int32))), (3, .int (gi ST0 8)), (2, .ref (qY2 0)), (0, .ref (qC 0)), (1, .int (a1))]) hx hb dX11_copyHeights_59 hl (by decide) rfl (fun ls hl => ?_)
              exact tX11_copyHeights_61_2 X z SP0 ST0 FU SC SY0 SY1 SY2 SY3 (gi ST0 8) (0 : Int32) hf _ _ _ hP hD hS (lv_sub hl [3, 2, 1, 0] rfl)
            · have hf := tc_neg hc hf
              refine lv_aload_n hx hb dX11_copyHeights_52 rfl (lv_at hl 2 rfl) ?_
              refine lv_iconst (v := (4 : Int32)) hx hb dX11_copyHeights_53 (by decide) ?_
              obtain ⟨z19, hg, hf⟩ := tc_bi hf
              refine tc_iV (As := [.int ((4 : Int32))]) (rest := []) (b := qC 0) (wc := w11 ca qC (.ref (qA 0)) (rC4) (rC6) (rC7) (.ref (qP0 0)) (rC11) (rC12) (rC14) (rC15) (rC17) (rC18) (rC19) SC) (wr := wLT ca qA (rf4 (qY0 0) (qY1 0) (qY2 0) (qY3 0)) ++ w9 ca qY0 SY0 ++ w9 ca qY1 SY1 ++ w9 ca qY2 SY2 ++ w9 ca qY3 SY3 ++ w6 ca qP0 (.ref (qT0 0)) (rP01) SP0 ++ w7 ca qT0 ST0) X hP hD hS (mX11_refuse hg) okX11_refuse wl_X11_121 wi_X11_refuse ws_X11_X11_refuse_X11_refuse ⟨rfl, rfl, Nat.le_of_ble_eq_true rfl, Nat.le_of_ble_eq_true rfl⟩ 11 0 rfl rfl [0] [1, 2, 3, 4, 5, 6, 7, 8, 9, 10, 11, 12, 13, 14, 15, 16, 17, 18, 19, 20, 21] ⟨rfl, rfl, rfl, rfl, by decide⟩ rfl hl.1 (Nat.le_of_ble_eq_true rfl) dX11_copyHeights_54 (fun H locs hP hD hS => ?_)
              have hP := hP.sub (ws' := (w11 ca qC (.ref (qA 0)) (rC4) (rC6) (rC7) (.ref (qP0 0)) (rC11) (rC12) (rC14) (rC15) (rC17) (rC18) (rC19) z19.2 ++ wLT ca qA (rf4 (qY0 0) (qY1 0) (qY2 0) (qY3 0)) ++ w9 ca qY0 SY0 ++ w9 ca qY1 SY1 ++ w9 ca qY2 SY2 ++ w9 ca qY3 SY3 ++ w6 ca qP0 (.ref (qT0 0)) (rP01) SP0 ++ w7 ca qT0 ST0)) [21, 0, 1, 2, 3, 4, 5, 6, 7, 8, 9, 10, 11, 12, 13, 14, 15, 16, 17, 18, 19, 20] rfl
              have hD := hD.sub (ws' := (w11 ca qC (.ref (qA 0)) (rC4) (rC6) (rC7) (.ref (qP0 0)) (rC11) (rC12) (rC14) (rC15) (rC17) (rC18) (rC19) z19.2 ++ wLT ca qA (rf4 (qY0 0) (qY1 0) (qY2 0) (qY3 0)) ++ w9 ca qY0 SY0 ++ w9 ca qY1 SY1 ++ w9 ca qY2 SY2 ++ w9 ca qY3 SY3 ++ w6 ca qP0 (.ref (qT0 0)) (rP01) SP0 ++ w7 ca qT0 ST0)) [21, 0, 1, 2, 3, 4, 5, 6, 7, 8, 9, 10, 11, 12, 13, 14, 15, 16, 17, 18, 19, 20] rfl rfl
              obtain rfl := Option.some.inj hf
              exact tc_ri X hP hD hS rfl dX11_copyHeights_57 rfl rfl
          · have hf := tc_neg hc hf
            refine lv_aload_n hx hb dX11_copyHeights_27 rfl (lv_at hl 1 rfl) ?_
            refine lv_iconst (v := (3 : Int32)) hx hb dX11_copyHeights_28 (by decide) ?_
            obtain ⟨z20, hg, hf⟩ := tc_bi hf
            refine tc_iV (As := [.int ((3 : Int32))]) (rest := []) (b := qC 0) (wc := w11 ca qC (.ref (qA 0)) (rC4) (rC6) (rC7) (.ref (qP0 0)) (rC11) (rC12) (rC14) (rC15) (rC17) (rC18) (rC19) SC) (wr := wLT ca qA (rf4 (qY0 0) (qY1 0) (qY2 0) (qY3 0)) ++ w9 ca qY0 SY0 ++ w9 ca qY1 SY1 ++ w9 ca qY2 SY2 ++ w9 ca qY3 SY3 ++ w6 ca qP0 (.ref (qT0 0)) (rP01) SP0 ++ w7 ca qT0 ST0) X hP hD hS (mX11_refuse hg) okX11_refuse wl_X11_121 wi_X11_refuse ws_X11_X11_refuse_X11_refuse ⟨rfl, rfl, Nat.le_of_ble_eq_true rfl, Nat.le_of_ble_eq_true rfl⟩ 11 0 rfl rfl [0] [1, 2, 3, 4, 5, 6, 7, 8, 9, 10, 11, 12, 13, 14, 15, 16, 17, 18, 19, 20, 21] ⟨rfl, rfl, rfl, rfl, by decide⟩ rfl hl.1 (Nat.le_of_ble_eq_true rfl) dX11_copyHeights_29 (fun H locs hP hD hS => ?_)
            have hP := hP.sub (ws' := (w11 ca qC (.ref (qA 0)) (rC4) (rC6) (rC7) (.ref (qP0 0)) (rC11) (rC12) (rC14) (rC15) (rC17) (rC18) (rC19) z20.2 ++ wLT ca qA (rf4 (qY0 0) (qY1 0) (qY2 0) (qY3 0)) ++ w9 ca qY0 SY0 ++ w9 ca qY1 SY1 ++ w9 ca qY2 SY2 ++ w9 ca qY3 SY3 ++ w6 ca qP0 (.ref (qT0 0)) (rP01) SP0 ++ w7 ca qT0 ST0)) [21, 0, 1, 2, 3, 4, 5, 6, 7, 8, 9, 10, 11, 12, 13, 14, 15, 16, 17, 18, 19, 20] rfl
            have hD := hD.sub (ws' := (w11 ca qC (.ref (qA 0)) (rC4) (rC6) (rC7) (.ref (qP0 0)) (rC11) (rC12) (rC14) (rC15) (rC17) (rC18) (rC19) z20.2 ++ wLT ca qA (rf4 (qY0 0) (qY1 0) (qY2 0) (qY3 0)) ++ w9 ca qY0 SY0 ++ w9 ca qY1 SY1 ++ w9 ca qY2 SY2 ++ w9 ca qY3 SY3 ++ w6 ca qP0 (.ref (qT0 0)) (rP01) SP0 ++ w7 ca qT0 ST0)) [21, 0, 1, 2, 3, 4, 5, 6, 7, 8, 9, 10, 11, 12, 13, 14, 15, 16, 17, 18, 19, 20] rfl rfl
            obtain rfl := Option.some.inj hf
            exact tc_ri X hP hD hS rfl dX11_copyHeights_32 rfl rfl
        · have hf := tc_neg hq2_2 hf
          by_cases hq2_3 : a1 = (3 : Int32)
          · have hf := tc_pos hq2_3 hf
            refine tc_ald (b := qY3 0) X hP 1 4 rfl rfl 3 (by rw [hq2_3]; decide) (by rw [hq2_3]; exact inb_vp (by decide)) rfl dX11_copyHeights_18 ?_
            refine lv_astore_n (lv' := [(2, .ref (qY3 0)), (0, .ref (qC 0)), (1, .int (a1))]) hx hb dX11_copyHeights_19 rfl hl (by decide) rfl (fun ls hl => ?_)
            refine lv_aload_n hx hb dX11_copyHeights_20 rfl (lv_at hl 0 rfl) ?_
            obtain ⟨z21, hg, hf⟩ := tc_bi hf
            refine tc_iV (As := []) (rest := []) (b := qY3 0) (wc := w9 ca qY3 SY3) (wr := w11 ca qC (.ref (qA 0)) (rC4) (rC6) (rC7) (.ref (qP0 0)) (rC11) (rC12) (rC14) (rC15) (rC17) (rC18) (rC19) SC ++ wLT ca qA (rf4 (qY0 0) (qY1 0) (qY2 0) (qY3 0)) ++ w9 ca qY0 SY0 ++ w9 ca qY1 SY1 ++ w9 ca qY2 SY2 ++ w6 ca qP0 (.ref (qT0 0)) (rP01) SP0 ++ w7 ca qT0 ST0) X hP hD hS (mX9_isMissing hg) okX9_isMissing wl_X11_129 wi_X9_isMissing ws_X9_X9_isMissing_X9_isMissing ⟨rfl, rfl, Nat.le_of_ble_eq_true rfl, Nat.le_of_ble_eq_true rfl⟩ 9 0 rfl rfl [8, 9] [0, 1, 2, 3, 4, 5, 6, 7, 10, 11, 12, 13, 14, 15, 16, 17, 18, 19, 20, 21] ⟨rfl, rfl, rfl, rfl, by decide⟩ rfl hl.1 (Nat.le_of_ble_eq_true rfl) dX11_copyHeights_21 (fun H locs hP hD hS => ?_)
            have hP := hP.sub (ws' := (w11 ca qC (.ref (qA 0)) (rC4) (rC6) (rC7) (.ref (qP0 0)) (rC11) (rC12) (rC14) (rC15) (rC17) (rC18) (rC19) SC ++ wLT ca qA (rf4 (qY0 0) (qY1 0) (qY2 0) (qY3 0)) ++ w9 ca qY0 SY0 ++ w9 ca qY1 SY1 ++ w9 ca qY2 SY2 ++ w9 ca qY3 SY3 ++ w6 ca qP0 (.ref (qT0 0)) (rP01) SP0 ++ w7 ca qT0 ST0)) [0, 1, 2, 3, 4, 5, 6, 7, 20, 21, 8, 9, 10, 11, 12, 13, 14, 15, 16, 17, 18, 19] rfl
            have hD := hD.sub (ws' := (w11 ca qC (.ref (qA 0)) (rC4) (rC6) (rC7) (.ref (qP0 0)) (rC11) (rC12) (rC14) (rC15) (rC17) (rC18) (rC19) SC ++ wLT ca qA (rf4 (qY0 0) (qY1 0) (qY2 0) (qY3 0)) ++ w9 ca qY0 SY0 ++ w9 ca qY1 SY1 ++ w9 ca qY2 SY2 ++ w9 ca qY3 SY3 ++ w6 ca qP0 (.ref (qT0 0)) (rP01) SP0 ++ w7 ca qT0 ST0)) [0, 1, 2, 3, 4, 5, 6, 7, 20, 21, 8, 9, 10, 11, 12, 13, 14, 15, 16, 17, 18, 19] rfl rfl
            refine lv_if_eq (tgt := 33) hx hb dX11_copyHeights_24 (by decide) (fun hc => ?_) (fun hc => ?_)
            · have hf := tc_pos hc hf
              refine lv_aload_n hx hb dX11_copyHeights_33 rfl (lv_at hl 1 rfl) ?_
              refine va_get (D := (dC, dI)) (ci := 11) (v := .ref (qP0 0)) (C := RX11) (T := TX11) (N := 20) hx hb hts i_X11 hown hK hP 0 rfl rfl 10 (by decide) (hts _ wf_X11_39) (fun _ h9 => h9) rfl dX11_copyHeights_34 ?_
              refine va_get (D := (dC, dI)) (ci := 6) (v := .ref (qT0 0)) (C := RX6) (T := TX6) (N := 2) hx hb hts i_X6 hown hK hP 10 rfl rfl 0 (by decide) (hts _ wf_X11_152) (fun _ h9 => h9) rfl dX11_copyHeights_37 ?_
              refine va_get (D := (dC, dI)) (ci := 7) (v := .int (gi ST0 8)) (C := RX7) (T := TX7) (N := 18) hx hb hts i_X7 hown hK hP 11 rfl rfl 8 (by decide) (hts _ wf_X11_179) (fun _ h9 => h9) rfl dX11_copyHeights_40 ?_
              refine lv_istore_n (lv' := [(3, .int (gi ST0 8)), (2, .ref (qY3 0)), (0, .ref (qC 0)), (1, .int (a1))]) hx hb dX11_copyHeights_43 rfl hl (by decide) rfl (fun ls hl => ?_)
              refine lv_iload_n hx hb dX11_copyHeights_44 rfl (lv_at hl 0 rfl) ?_
              refine lv_aload_n hx hb dX11_copyHeights_45 rfl (lv_at hl 1 rfl) ?_
              refine va_get (D := (dC, dI)) (ci := 9) (v := .int (gi SY3 2)) (C := RX9) (T := TX9) (N := 3) hx hb hts i_X9 hown hK hP 8 rfl rfl 2 (by decide) (hts _ wf_X11_265) (fun _ h9 => h9) rfl dX11_copyHeights_46 ?_
              refine lv_icmp_le (tgt := 58) hx hb dX11_copyHeights_49 (by decide) (fun hc => ?_) (fun hc => ?_)
              · have hf := tc_pos hc hf
                refine lv_iconst (v := (0 : Int32)) hx hb dX11_copyHeights_58 (by decide) ?_
                refine lv_istore (lv' := [(4, .int ((0 : Int32))), (3, .int (gi ST0 8)), (2, .ref (qY3 0)), (0, .ref (qC 0)), (1, .int (a1))]) hx hb dX11_copyHeights_59 hl (by decide) rfl (fun ls hl => ?_)
                exact tX11_copyHeights_61_3 X z SP0 ST0 FU SC SY0 SY1 SY2 SY3 (gi ST0 8) (0 : Int32) hf _ _ _ hP hD hS (lv_sub hl [3, 2, 1, 0] rfl)
              · have hf := tc_neg hc hf
                refine lv_aload_n hx hb dX11_copyHeights_52 rfl (lv_at hl 2 rfl) ?_
                refine lv_iconst (v := (4 : Int32)) hx hb dX11_copyHeights_53 (by decide) ?_
                obtain ⟨z25, hg, hf⟩ := tc_bi hf
                refine tc_iV (As := [.int ((4 : Int32))]) (rest := []) (b := qC 0) (wc := w11 ca qC (.ref (qA 0)) (rC4) (rC6) (rC7) (.ref (qP0 0)) (rC11) (rC12) (rC14) (rC15) (rC17) (rC18) (rC19) SC) (wr := wLT ca qA (rf4 (qY0 0) (qY1 0) (qY2 0) (qY3 0)) ++ w9 ca qY0 SY0 ++ w9 ca qY1 SY1 ++ w9 ca qY2 SY2 ++ w9 ca qY3 SY3 ++ w6 ca qP0 (.ref (qT0 0)) (rP01) SP0 ++ w7 ca qT0 ST0) X hP hD hS (mX11_refuse hg) okX11_refuse wl_X11_121 wi_X11_refuse ws_X11_X11_refuse_X11_refuse ⟨rfl, rfl, Nat.le_of_ble_eq_true rfl, Nat.le_of_ble_eq_true rfl⟩ 11 0 rfl rfl [0] [1, 2, 3, 4, 5, 6, 7, 8, 9, 10, 11, 12, 13, 14, 15, 16, 17, 18, 19, 20, 21] ⟨rfl, rfl, rfl, rfl, by decide⟩ rfl hl.1 (Nat.le_of_ble_eq_true rfl) dX11_copyHeights_54 (fun H locs hP hD hS => ?_)
                have hP := hP.sub (ws' := (w11 ca qC (.ref (qA 0)) (rC4) (rC6) (rC7) (.ref (qP0 0)) (rC11) (rC12) (rC14) (rC15) (rC17) (rC18) (rC19) z25.2 ++ wLT ca qA (rf4 (qY0 0) (qY1 0) (qY2 0) (qY3 0)) ++ w9 ca qY0 SY0 ++ w9 ca qY1 SY1 ++ w9 ca qY2 SY2 ++ w9 ca qY3 SY3 ++ w6 ca qP0 (.ref (qT0 0)) (rP01) SP0 ++ w7 ca qT0 ST0)) [21, 0, 1, 2, 3, 4, 5, 6, 7, 8, 9, 10, 11, 12, 13, 14, 15, 16, 17, 18, 19, 20] rfl
                have hD := hD.sub (ws' := (w11 ca qC (.ref (qA 0)) (rC4) (rC6) (rC7) (.ref (qP0 0)) (rC11) (rC12) (rC14) (rC15) (rC17) (rC18) (rC19) z25.2 ++ wLT ca qA (rf4 (qY0 0) (qY1 0) (qY2 0) (qY3 0)) ++ w9 ca qY0 SY0 ++ w9 ca qY1 SY1 ++ w9 ca qY2 SY2 ++ w9 ca qY3 SY3 ++ w6 ca qP0 (.ref (qT0 0)) (rP01) SP0 ++ w7 ca qT0 ST0)) [21, 0, 1, 2, 3, 4, 5, 6, 7, 8, 9, 10, 11, 12, 13, 14, 15, 16, 17, 18, 19, 20] rfl rfl
                obtain rfl := Option.some.inj hf
                exact tc_ri X hP hD hS rfl dX11_copyHeights_57 rfl rfl
            · have hf := tc_neg hc hf
              refine lv_aload_n hx hb dX11_copyHeights_27 rfl (lv_at hl 1 rfl) ?_
              refine lv_iconst (v := (3 : Int32)) hx hb dX11_copyHeights_28 (by decide) ?_
              obtain ⟨z26, hg, hf⟩ := tc_bi hf
              refine tc_iV (As := [.int ((3 : Int32))]) (rest := []) (b := qC 0) (wc := w11 ca qC (.ref (qA 0)) (rC4) (rC6) (rC7) (.ref (qP0 0)) (rC11) (rC12) (rC14) (rC15) (rC17) (rC18) (rC19) SC) (wr := wLT ca qA (rf4 (qY0 0) (qY1 0) (qY2 0) (qY3 0)) ++ w9 ca qY0 SY0 ++ w9 ca qY1 SY1 ++ w9 ca qY2 SY2 ++ w9 ca qY3 SY3 ++ w6 ca qP0 (.ref (qT0 0)) (rP01) SP0 ++ w7 ca qT0 ST0) X hP hD hS (mX11_refuse hg) okX11_refuse wl_X11_121 wi_X11_refuse ws_X11_X11_refuse_X11_refuse ⟨rfl, rfl, Nat.le_of_ble_eq_true rfl, Nat.le_of_ble_eq_true rfl⟩ 11 0 rfl rfl [0] [1, 2, 3, 4, 5, 6, 7, 8, 9, 10, 11, 12, 13, 14, 15, 16, 17, 18, 19, 20, 21] ⟨rfl, rfl, rfl, rfl, by decide⟩ rfl hl.1 (Nat.le_of_ble_eq_true rfl) dX11_copyHeights_29 (fun H locs hP hD hS => ?_)
              have hP := hP.sub (ws' := (w11 ca qC (.ref (qA 0)) (rC4) (rC6) (rC7) (.ref (qP0 0)) (rC11) (rC12) (rC14) (rC15) (rC17) (rC18) (rC19) z26.2 ++ wLT ca qA (rf4 (qY0 0) (qY1 0) (qY2 0) (qY3 0)) ++ w9 ca qY0 SY0 ++ w9 ca qY1 SY1 ++ w9 ca qY2 SY2 ++ w9 ca qY3 SY3 ++ w6 ca qP0 (.ref (qT0 0)) (rP01) SP0 ++ w7 ca qT0 ST0)) [21, 0, 1, 2, 3, 4, 5, 6, 7, 8, 9, 10, 11, 12, 13, 14, 15, 16, 17, 18, 19, 20] rfl
              have hD := hD.sub (ws' := (w11 ca qC (.ref (qA 0)) (rC4) (rC6) (rC7) (.ref (qP0 0)) (rC11) (rC12) (rC14) (rC15) (rC17) (rC18) (rC19) z26.2 ++ wLT ca qA (rf4 (qY0 0) (qY1 0) (qY2 0) (qY3 0)) ++ w9 ca qY0 SY0 ++ w9 ca qY1 SY1 ++ w9 ca qY2 SY2 ++ w9 ca qY3 SY3 ++ w6 ca qP0 (.ref (qT0 0)) (rP01) SP0 ++ w7 ca qT0 ST0)) [21, 0, 1, 2, 3, 4, 5, 6, 7, 8, 9, 10, 11, 12, 13, 14, 15, 16, 17, 18, 19, 20] rfl rfl
              obtain rfl := Option.some.inj hf
              exact tc_ri X hP hD hS rfl dX11_copyHeights_32 rfl rfl
          · have hf := tc_neg hq2_3 hf
            cases hf
  · have hf := tc_pos hc hf
    refine lv_aload_n hx hb dX11_copyHeights_7 rfl (lv_at hl 0 rfl) ?_
    refine lv_iconst (v := (1 : Int32)) hx hb dX11_copyHeights_8 (by decide) ?_
    obtain ⟨z27, hg, hf⟩ := tc_bi hf
    refine tc_iV (As := [.int ((1 : Int32))]) (rest := []) (b := qC 0) (wc := w11 ca qC (.ref (qA 0)) (rC4) (rC6) (rC7) (.ref (qP0 0)) (rC11) (rC12) (rC14) (rC15) (rC17) (rC18) (rC19) SC) (wr := wLT ca qA (rf4 (qY0 0) (qY1 0) (qY2 0) (qY3 0)) ++ w9 ca qY0 SY0 ++ w9 ca qY1 SY1 ++ w9 ca qY2 SY2 ++ w9 ca qY3 SY3 ++ w6 ca qP0 (.ref (qT0 0)) (rP01) SP0 ++ w7 ca qT0 ST0) X hP hD hS (mX11_refuse hg) okX11_refuse wl_X11_121 wi_X11_refuse ws_X11_X11_refuse_X11_refuse ⟨rfl, rfl, Nat.le_of_ble_eq_true rfl, Nat.le_of_ble_eq_true rfl⟩ 11 0 rfl rfl [0] [1, 2, 3, 4, 5, 6, 7, 8, 9, 10, 11, 12, 13, 14, 15, 16, 17, 18, 19, 20, 21] ⟨rfl, rfl, rfl, rfl, by decide⟩ rfl hl.1 (Nat.le_of_ble_eq_true rfl) dX11_copyHeights_9 (fun H locs hP hD hS => ?_)
    have hP := hP.sub (ws' := (w11 ca qC (.ref (qA 0)) (rC4) (rC6) (rC7) (.ref (qP0 0)) (rC11) (rC12) (rC14) (rC15) (rC17) (rC18) (rC19) z27.2 ++ wLT ca qA (rf4 (qY0 0) (qY1 0) (qY2 0) (qY3 0)) ++ w9 ca qY0 SY0 ++ w9 ca qY1 SY1 ++ w9 ca qY2 SY2 ++ w9 ca qY3 SY3 ++ w6 ca qP0 (.ref (qT0 0)) (rP01) SP0 ++ w7 ca qT0 ST0)) [21, 0, 1, 2, 3, 4, 5, 6, 7, 8, 9, 10, 11, 12, 13, 14, 15, 16, 17, 18, 19, 20] rfl
    have hD := hD.sub (ws' := (w11 ca qC (.ref (qA 0)) (rC4) (rC6) (rC7) (.ref (qP0 0)) (rC11) (rC12) (rC14) (rC15) (rC17) (rC18) (rC19) z27.2 ++ wLT ca qA (rf4 (qY0 0) (qY1 0) (qY2 0) (qY3 0)) ++ w9 ca qY0 SY0 ++ w9 ca qY1 SY1 ++ w9 ca qY2 SY2 ++ w9 ca qY3 SY3 ++ w6 ca qP0 (.ref (qT0 0)) (rP01) SP0 ++ w7 ca qT0 ST0)) [21, 0, 1, 2, 3, 4, 5, 6, 7, 8, 9, 10, 11, 12, 13, 14, 15, 16, 17, 18, 19, 20] rfl rfl
    obtain rfl := Option.some.inj hf
    exact tc_ri X hP hD hS rfl dX11_copyHeights_12 rfl rfl
def fX11_say_24  (SP0 : ms_T)  (SC : ms_T) (ST0 : ms_T) : Option (Int32 × ms_T × ms_T) :=
  (fX11_refuse SC (2 : Int32)).bind fun z2 =>
  some (z2.1, z2.2, ST0)
def fX11_say  (SC : ms_T) (SP0 : ms_T) (ST0 : ms_T) (a1 : Int32) (a2 : Int32) : Option (Int32 × ms_T × ms_T) :=
  (fX7_isTalker ST0 a1).bind fun z1 =>
  if z1 = 0 then
    fX11_say_24 SP0 SC ST0
  else
    (fX7_isClaim ST0 a2).bind fun z3 =>
    if z3 = 0 then
      fX11_say_24 SP0 SC ST0
    else
      (fX7_sayable ST0 a1).bind fun z4 =>
      if ((z4 >>> (a2 &&& 31)) &&& (1 : Int32)) = 0 then
        (fX11_refuse SC (9 : Int32)).bind fun z8 =>
        some (z8.1, z8.2, ST0)
      else
        (fX7_letSay ST0 a1 a2).bind fun z5 =>
        if inb a1 6 = true then
          (fX11_answer SC (ia z5 6 a1)).bind fun z7 =>
          some (z7.1, z7.2, z5)
        else none
abbrev rmX11_say : Room := { frames := 3, cells := 0, slots := 0, locals := 68 }
theorem okX11_say : tc_ok yX11_say cX11_say 4 (some .int) 2 := ⟨wc_X11_say, wn_X11, by decide, by decide, by decide +kernel⟩
set_option maxRecDepth 20000 in
theorem tX11_say_24 {qC : Nat → Nat} {qP0 : Nat → Nat} {qT0 : Nat → Nat} {rC3 : Value} {rC4 : Value} {rC6 : Value} {rC7 : Value} {rC11 : Value} {rC12 : Value} {rC14 : Value} {rC15 : Value} {rC17 : Value} {rC18 : Value} {rC19 : Value} {rP01 : Value} (X : tc_X dC dI ca A RX11 cX11_say 4 (some .int) p s m args meth c) (z : Int32 × ms_T × ms_T)  (SP0 : ms_T)   : ∀ (SC : ms_T) (ST0 : ms_T), fX11_say_24 SP0 SC ST0 = some z → ∀ (H : Heap) (locs : List Loc) (ls : Array Slot), va_P (dC, dI) classes (w11 ca qC (rC3) (rC4) (rC6) (rC7) (.ref (qP0 0)) (rC11) (rC12) (rC14) (rC15) (rC17) (rC18) (rC19) SC ++ w6 ca qP0 (.ref (qT0 0)) (rP01) SP0 ++ w7 ca qT0 ST0) H → va_D A (w11 ca qC (rC3) (rC4) (rC6) (rC7) (.ref (qP0 0)) (rC11) (rC12) (rC14) (rC15) (rC17) (rC18) (rC19) SC ++ w6 ca qP0 (.ref (qT0 0)) (rP01) SP0 ++ w7 ca qT0 ST0) → va_S A s.heap H locs → lv_has ls 4 [(0, .ref (qC 0))] → W p l e rmX11_say s m args below meth c H locs 0 0 (MQ below (tc_QI dC dI ca A (w11 ca qC (rC3) (rC4) (rC6) (rC7) (.ref (qP0 0)) (rC11) (rC12) (rC14) (rC15) (rC17) (rC18) (rC19) z.2.1 ++ w6 ca qP0 (.ref (qT0 0)) (rP01) SP0 ++ w7 ca qT0 z.2.2) (z.1)) args s 0 0 A) (F0 m 24 ls []) := by
  obtain ⟨hx, hb, hr, hml, hown, hts, hlk, hK, hA, hG⟩ := id X
  intro SC ST0 hf H locs ls hP hD hS hl
  unfold fX11_say_24 at hf
  refine lv_aload_n hx hb dX11_say_24 rfl (lv_at hl 0 rfl) ?_
  refine lv_iconst (v := (2 : Int32)) hx hb dX11_say_25 (by decide) ?_
  obtain ⟨z2, hg, hf⟩ := tc_bi hf
  refine tc_iV (As := [.int ((2 : Int32))]) (rest := []) (b := qC 0) (wc := w11 ca qC (rC3) (rC4) (rC6) (rC7) (.ref (qP0 0)) (rC11) (rC12) (rC14) (rC15) (rC17) (rC18) (rC19) SC) (wr := w6 ca qP0 (.ref (qT0 0)) (rP01) SP0 ++ w7 ca qT0 ST0) X hP hD hS (mX11_refuse hg) okX11_refuse wl_X11_121 wi_X11_refuse ws_X11_X11_refuse_X11_refuse ⟨rfl, rfl, Nat.le_of_ble_eq_true rfl, Nat.le_of_ble_eq_true rfl⟩ 11 0 rfl rfl [0] [1, 2, 3, 4, 5, 6, 7, 8, 9, 10, 11, 12] ⟨rfl, rfl, rfl, rfl, by decide⟩ rfl hl.1 (Nat.le_of_ble_eq_true rfl) dX11_say_26 (fun H locs hP hD hS => ?_)
  have hP := hP.sub (ws' := (w11 ca qC (rC3) (rC4) (rC6) (rC7) (.ref (qP0 0)) (rC11) (rC12) (rC14) (rC15) (rC17) (rC18) (rC19) z2.2 ++ w6 ca qP0 (.ref (qT0 0)) (rP01) SP0 ++ w7 ca qT0 ST0)) [12, 0, 1, 2, 3, 4, 5, 6, 7, 8, 9, 10, 11] rfl
  have hD := hD.sub (ws' := (w11 ca qC (rC3) (rC4) (rC6) (rC7) (.ref (qP0 0)) (rC11) (rC12) (rC14) (rC15) (rC17) (rC18) (rC19) z2.2 ++ w6 ca qP0 (.ref (qT0 0)) (rP01) SP0 ++ w7 ca qT0 ST0)) [12, 0, 1, 2, 3, 4, 5, 6, 7, 8, 9, 10, 11] rfl rfl
  obtain rfl := Option.some.inj hf
  exact tc_ri X hP hD hS rfl dX11_say_29 rfl rfl
set_option maxRecDepth 20000 in
theorem mX11_say {qC : Nat → Nat} {qP0 : Nat → Nat} {qT0 : Nat → Nat} {rC3 : Value} {rC4 : Value} {rC6 : Value} {rC7 : Value} {rC11 : Value} {rC12 : Value} {rC14 : Value} {rC15 : Value} {rC17 : Value} {rC18 : Value} {rC19 : Value} {rP01 : Value} {SC : ms_T} {SP0 : ms_T} {ST0 : ms_T} {a1 : Int32} {a2 : Int32} {z : Int32 × ms_T × ms_T}  (hf : fX11_say SC SP0 ST0 a1 a2 = some z) : tc_MI l dC dI ca yX11_say cX11_say 4 (some .int) rmX11_say [.ref (qC 0), .int (a1), .int (a2)] (w11 ca qC (rC3) (rC4) (rC6) (rC7) (.ref (qP0 0)) (rC11) (rC12) (rC14) (rC15) (rC17) (rC18) (rC19) SC ++ w6 ca qP0 (.ref (qT0 0)) (rP01) SP0 ++ w7 ca qT0 ST0) (w11 ca qC (rC3) (rC4) (rC6) (rC7) (.ref (qP0 0)) (rC11) (rC12) (rC14) (rC15) (rC17) (rC18) (rC19) z.2.1 ++ w6 ca qP0 (.ref (qT0 0)) (rP01) SP0 ++ w7 ca qT0 z.2.2) (z.1) := by
  refine tc_metI (own := RX11) (by decide) rfl ?_ (Nat.le_of_ble_eq_true rfl)
  intro p e s m below meth c A X hP hD hS ls hl
  obtain ⟨hx, hb, hr, hml, hown, hts, hlk, hK, hA, hG⟩ := id X
  unfold fX11_say at hf
  have hl : lv_has ls 4 [(0, .ref (qC 0)), (1, .int (a1)), (2, .int (a2))] := hl
  refine lv_aload_n hx hb dX11_say_0 rfl (lv_at hl 0 rfl) ?_
  refine va_get (D := (dC, dI)) (ci := 11) (v := .ref (qP0 0)) (C := RX11) (T := TX11) (N := 20) hx hb hts i_X11 hown hK hP 0 rfl rfl 10 (by decide) (hts _ wf_X11_39) (fun _ h9 => h9) rfl dX11_say_1 ?_
  refine va_get (D := (dC, dI)) (ci := 6) (v := .ref (qT0 0)) (C := RX6) (T := TX6) (N := 2) hx hb hts i_X6 hown hK hP 1 rfl rfl 0 (by decide) (hts _ wf_X11_152) (fun _ h9 => h9) rfl dX11_say_4 ?_
  refine lv_astore_n (lv' := [(3, .ref (qT0 0)), (0, .ref (qC 0)), (1, .int (a1)), (2, .int (a2))]) hx hb dX11_say_7 rfl hl (by decide) rfl (fun ls hl => ?_)
  refine lv_aload_n hx hb dX11_say_8 rfl (lv_at hl 0 rfl) ?_
  refine lv_iload_n hx hb dX11_say_9 rfl (lv_at hl 2 rfl) ?_
  obtain ⟨z1, hg, hf⟩ := tc_bi hf
  refine tc_iV (As := [.int (a1)]) (rest := []) (b := qT0 0) (wc := w7 ca qT0 ST0) (wr := w11 ca qC (rC3) (rC4) (rC6) (rC7) (.ref (qP0 0)) (rC11) (rC12) (rC14) (rC15) (rC17) (rC18) (rC19) SC ++ w6 ca qP0 (.ref (qT0 0)) (rP01) SP0) X hP hD hS (mX7_isTalker hg) okX7_isTalker wl_X11_244 wi_X7_isTalker ws_X7_X7_isTalker_X7_isTalker ⟨rfl, rfl, Nat.le_of_ble_eq_true rfl, Nat.le_of_ble_eq_true rfl⟩ 7 0 rfl rfl [2, 3, 4, 5, 6, 7, 8, 9, 10, 11, 12] [0, 1] ⟨rfl, rfl, rfl, rfl, by decide⟩ rfl hl.1 (Nat.le_of_ble_eq_true rfl) dX11_say_10 (fun H locs hP hD hS => ?_)
  have hP := hP.sub (ws' := (w11 ca qC (rC3) (rC4) (rC6) (rC7) (.ref (qP0 0)) (rC11) (rC12) (rC14) (rC15) (rC17) (rC18) (rC19) SC ++ w6 ca qP0 (.ref (qT0 0)) (rP01) SP0 ++ w7 ca qT0 ST0)) [0, 1, 2, 3, 4, 5, 6, 7, 8, 9, 10, 11, 12] rfl
  have hD := hD.sub (ws' := (w11 ca qC (rC3) (rC4) (rC6) (rC7) (.ref (qP0 0)) (rC11) (rC12) (rC14) (rC15) (rC17) (rC18) (rC19) SC ++ w6 ca qP0 (.ref (qT0 0)) (rP01) SP0 ++ w7 ca qT0 ST0)) [0, 1, 2, 3, 4, 5, 6, 7, 8, 9, 10, 11, 12] rfl rfl
  refine lv_if_eq (tgt := 24) hx hb dX11_say_13 (by decide) (fun hc => ?_) (fun hc => ?_)
  · have hf := tc_pos hc hf
    exact tX11_say_24 X z SP0 SC ST0 hf _ _ _ hP hD hS (lv_sub hl [1] rfl)
  · have hf := tc_neg hc hf
    refine lv_aload_n hx hb dX11_say_16 rfl (lv_at hl 0 rfl) ?_
    refine lv_iload_n hx hb dX11_say_17 rfl (lv_at hl 3 rfl) ?_
    obtain ⟨z3, hg, hf⟩ := tc_bi hf
    refine tc_iV (As := [.int (a2)]) (rest := []) (b := qT0 0) (wc := w7 ca qT0 ST0) (wr := w11 ca qC (rC3) (rC4) (rC6) (rC7) (.ref (qP0 0)) (rC11) (rC12) (rC14) (rC15) (rC17) (rC18) (rC19) SC ++ w6 ca qP0 (.ref (qT0 0)) (rP01) SP0) X hP hD hS (mX7_isClaim hg) okX7_isClaim wl_X11_235 wi_X7_isClaim ws_X7_X7_isClaim_X7_isClaim ⟨rfl, rfl, Nat.le_of_ble_eq_true rfl, Nat.le_of_ble_eq_true rfl⟩ 7 0 rfl rfl [2, 3, 4, 5, 6, 7, 8, 9, 10, 11, 12] [0, 1] ⟨rfl, rfl, rfl, rfl, by decide⟩ rfl hl.1 (Nat.le_of_ble_eq_true rfl) dX11_say_18 (fun H locs hP hD hS => ?_)
    have hP := hP.sub (ws' := (w11 ca qC (rC3) (rC4) (rC6) (rC7) (.ref (qP0 0)) (rC11) (rC12) (rC14) (rC15) (rC17) (rC18) (rC19) SC ++ w6 ca qP0 (.ref (qT0 0)) (rP01) SP0 ++ w7 ca qT0 ST0)) [0, 1, 2, 3, 4, 5, 6, 7, 8, 9, 10, 11, 12] rfl
    have hD := hD.sub (ws' := (w11 ca qC (rC3) (rC4) (rC6) (rC7) (.ref (qP0 0)) (rC11) (rC12) (rC14) (rC15) (rC17) (rC18) (rC19) SC ++ w6 ca qP0 (.ref (qT0 0)) (rP01) SP0 ++ w7 ca qT0 ST0)) [0, 1, 2, 3, 4, 5, 6, 7, 8, 9, 10, 11, 12] rfl rfl
    refine lv_if_ne (tgt := 30) hx hb dX11_say_21 (by decide) (fun hc => ?_) (fun hc => ?_)
    · have hf := tc_neg hc hf
      refine lv_aload_n hx hb dX11_say_30 rfl (lv_at hl 0 rfl) ?_
      refine lv_iload_n hx hb dX11_say_31 rfl (lv_at hl 2 rfl) ?_
      obtain ⟨z4, hg, hf⟩ := tc_bi hf
      refine tc_iV (As := [.int (a1)]) (rest := []) (b := qT0 0) (wc := w7 ca qT0 ST0) (wr := w11 ca qC (rC3) (rC4) (rC6) (rC7) (.ref (qP0 0)) (rC11) (rC12) (rC14) (rC15) (rC17) (rC18) (rC19) SC ++ w6 ca qP0 (.ref (qT0 0)) (rP01) SP0) X hP hD hS (mX7_sayable hg) okX7_sayable wl_X11_256 wi_X7_sayable ws_X7_X7_sayable_X7_sayable ⟨rfl, rfl, Nat.le_of_ble_eq_true rfl, Nat.le_of_ble_eq_true rfl⟩ 7 0 rfl rfl [2, 3, 4, 5, 6, 7, 8, 9, 10, 11, 12] [0, 1] ⟨rfl, rfl, rfl, rfl, by decide⟩ rfl hl.1 (Nat.le_of_ble_eq_true rfl) dX11_say_32 (fun H locs hP hD hS => ?_)
      have hP := hP.sub (ws' := (w11 ca qC (rC3) (rC4) (rC6) (rC7) (.ref (qP0 0)) (rC11) (rC12) (rC14) (rC15) (rC17) (rC18) (rC19) SC ++ w6 ca qP0 (.ref (qT0 0)) (rP01) SP0 ++ w7 ca qT0 ST0)) [0, 1, 2, 3, 4, 5, 6, 7, 8, 9, 10, 11, 12] rfl
      have hD := hD.sub (ws' := (w11 ca qC (rC3) (rC4) (rC6) (rC7) (.ref (qP0 0)) (rC11) (rC12) (rC14) (rC15) (rC17) (rC18) (rC19) SC ++ w6 ca qP0 (.ref (qT0 0)) (rP01) SP0 ++ w7 ca qT0 ST0)) [0, 1, 2, 3, 4, 5, 6, 7, 8, 9, 10, 11, 12] rfl rfl
      refine lv_iload_n hx hb dX11_say_35 rfl (lv_at hl 3 rfl) ?_
      refine lv_ishr hx hb dX11_say_36 ?_
      refine lv_iconst (v := (1 : Int32)) hx hb dX11_say_37 (by decide) ?_
      refine lv_iand hx hb dX11_say_38 ?_
      refine lv_if_ne (tgt := 49) hx hb dX11_say_39 (by decide) (fun hc => ?_) (fun hc => ?_)
      · have hf := tc_neg hc hf
        refine lv_aload_n hx hb dX11_say_49 rfl (lv_at hl 0 rfl) ?_
        refine lv_iload_n hx hb dX11_say_50 rfl (lv_at hl 2 rfl) ?_
        refine lv_iload_n hx hb dX11_say_51 rfl (lv_at hl 3 rfl) ?_
        obtain ⟨z5, hg, hf⟩ := tc_bi hf
        refine tc_vV (As := [.int (a1), .int (a2)]) (rest := []) (b := qT0 0) (wc := w7 ca qT0 ST0) (wr := w11 ca qC (rC3) (rC4) (rC6) (rC7) (.ref (qP0 0)) (rC11) (rC12) (rC14) (rC15) (rC17) (rC18) (rC19) SC ++ w6 ca qP0 (.ref (qT0 0)) (rP01) SP0) X hP hD hS (mX7_letSay hg) okX7_letSay wl_X11_268 wi_X7_letSay ws_X7_X7_letSay_X7_letSay ⟨rfl, rfl, Nat.le_of_ble_eq_true rfl, Nat.le_of_ble_eq_true rfl⟩ 7 0 rfl rfl [2, 3, 4, 5, 6, 7, 8, 9, 10, 11, 12] [0, 1] ⟨rfl, rfl, rfl, rfl, by decide⟩ rfl hl.1 (Nat.le_of_ble_eq_true rfl) dX11_say_52 (fun H locs hP hD hS => ?_)
        have hP := hP.sub (ws' := (w11 ca qC (rC3) (rC4) (rC6) (rC7) (.ref (qP0 0)) (rC11) (rC12) (rC14) (rC15) (rC17) (rC18) (rC19) SC ++ w6 ca qP0 (.ref (qT0 0)) (rP01) SP0 ++ w7 ca qT0 z5)) [0, 1, 2, 3, 4, 5, 6, 7, 8, 9, 10, 11, 12] rfl
        have hD := hD.sub (ws' := (w11 ca qC (rC3) (rC4) (rC6) (rC7) (.ref (qP0 0)) (rC11) (rC12) (rC14) (rC15) (rC17) (rC18) (rC19) SC ++ w6 ca qP0 (.ref (qT0 0)) (rP01) SP0 ++ w7 ca qT0 z5)) [0, 1, 2, 3, 4, 5, 6, 7, 8, 9, 10, 11, 12] rfl rfl
        refine lv_aload_n hx hb dX11_say_55 rfl (lv_at hl 1 rfl) ?_
        refine lv_aload_n hx hb dX11_say_56 rfl (lv_at hl 0 rfl) ?_
        refine va_get (D := (dC, dI)) (ci := 7) (v := .ref (qT0 6)) (C := RX7) (T := TX7) (N := 18) hx hb hts i_X7 hown hK hP 2 rfl rfl 10 (by decide) (hts _ wf_X11_250) (fun _ h9 => h9) rfl dX11_say_57 ?_
        refine lv_iload_n hx hb dX11_say_60 rfl (lv_at hl 2 rfl) ?_
        obtain ⟨hi6, hf⟩ := tc_in hf
        refine va_iald hx hb hK hP 8 1 rfl rfl hi6 dX11_say_61 ?_
        obtain ⟨z7, hg, hf⟩ := tc_bi hf
        refine tc_iV (As := [.int (ia z5 6 a1)]) (rest := []) (b := qC 0) (wc := w11 ca qC (rC3) (rC4) (rC6) (rC7) (.ref (qP0 0)) (rC11) (rC12) (rC14) (rC15) (rC17) (rC18) (rC19) SC) (wr := w6 ca qP0 (.ref (qT0 0)) (rP01) SP0 ++ w7 ca qT0 z5) X hP hD hS (mX11_answer hg) okX11_answer wl_X11_182 wi_X11_answer ws_X11_X11_answer_X11_answer ⟨rfl, rfl, Nat.le_of_ble_eq_true rfl, Nat.le_of_ble_eq_true rfl⟩ 11 0 rfl rfl [0] [1, 2, 3, 4, 5, 6, 7, 8, 9, 10, 11, 12] ⟨rfl, rfl, rfl, rfl, by decide⟩ rfl hl.1 (Nat.le_of_ble_eq_true rfl) dX11_say_62 (fun H locs hP hD hS => ?_)
        have hP := hP.sub (ws' := (w11 ca qC (rC3) (rC4) (rC6) (rC7) (.ref (qP0 0)) (rC11) (rC12) (rC14) (rC15) (rC17) (rC18) (rC19) z7.2 ++ w6 ca qP0 (.ref (qT0 0)) (rP01) SP0 ++ w7 ca qT0 z5)) [12, 0, 1, 2, 3, 4, 5, 6, 7, 8, 9, 10, 11] rfl
        have hD := hD.sub (ws' := (w11 ca qC (rC3) (rC4) (rC6) (rC7) (.ref (qP0 0)) (rC11) (rC12) (rC14) (rC15) (rC17) (rC18) (rC19) z7.2 ++ w6 ca qP0 (.ref (qT0 0)) (rP01) SP0 ++ w7 ca qT0 z5)) [12, 0, 1, 2, 3, 4, 5, 6, 7, 8, 9, 10, 11] rfl rfl
        obtain rfl := Option.some.inj hf
        exact tc_ri X hP hD hS rfl dX11_say_65 rfl rfl
      · have hf := tc_pos hc hf
        refine lv_aload_n hx hb dX11_say_42 rfl (lv_at hl 1 rfl) ?_
        refine lv_bipush (v := (9 : Int32)) hx hb dX11_say_43 (by decide) ?_
        obtain ⟨z8, hg, hf⟩ := tc_bi hf
        refine tc_iV (As := [.int ((9 : Int32))]) (rest := []) (b := qC 0) (wc := w11 ca qC (rC3) (rC4) (rC6) (rC7) (.ref (qP0 0)) (rC11) (rC12) (rC14) (rC15) (rC17) (rC18) (rC19) SC) (wr := w6 ca qP0 (.ref (qT0 0)) (rP01) SP0 ++ w7 ca qT0 ST0) X hP hD hS (mX11_refuse hg) okX11_refuse wl_X11_121 wi_X11_refuse ws_X11_X11_refuse_X11_refuse ⟨rfl, rfl, Nat.le_of_ble_eq_true rfl, Nat.le_of_ble_eq_true rfl⟩ 11 0 rfl rfl [0] [1, 2, 3, 4, 5, 6, 7, 8, 9, 10, 11, 12] ⟨rfl, rfl, rfl, rfl, by decide⟩ rfl hl.1 (Nat.le_of_ble_eq_true rfl) dX11_say_45 (fun H locs hP hD hS => ?_)
        have hP := hP.sub (ws' := (w11 ca qC (rC3) (rC4) (rC6) (rC7) (.ref (qP0 0)) (rC11) (rC12) (rC14) (rC15) (rC17) (rC18) (rC19) z8.2 ++ w6 ca qP0 (.ref (qT0 0)) (rP01) SP0 ++ w7 ca qT0 ST0)) [12, 0, 1, 2, 3, 4, 5, 6, 7, 8, 9, 10, 11] rfl
        have hD := hD.sub (ws' := (w11 ca qC (rC3) (rC4) (rC6) (rC7) (.ref (qP0 0)) (rC11) (rC12) (rC14) (rC15) (rC17) (rC18) (rC19) z8.2 ++ w6 ca qP0 (.ref (qT0 0)) (rP01) SP0 ++ w7 ca qT0 ST0)) [12, 0, 1, 2, 3, 4, 5, 6, 7, 8, 9, 10, 11] rfl rfl
        obtain rfl := Option.some.inj hf
        exact tc_ri X hP hD hS rfl dX11_say_48 rfl rfl
    · have hf := tc_pos hc hf
      exact tX11_say_24 X z SP0 SC ST0 hf _ _ _ hP hD hS (lv_sub hl [1] rfl)
def fX11_drop_33  (SP0 : ms_T)  (SC : ms_T) (ST0 : ms_T) : Option (Int32 × ms_T × ms_T) :=
  (fX11_refuse SC (5 : Int32)).bind fun z2 =>
  some (z2.1, z2.2, ST0)
def fX11_drop  (SC : ms_T) (SP0 : ms_T) (ST0 : ms_T) (a1 : Int32) (a2 : Int32) : Option (Int32 × ms_T × ms_T) :=
  (fX7_isTalker ST0 a1).bind fun z1 =>
  if z1 = 0 then
    (fX11_refuse SC (2 : Int32)).bind fun z8 =>
    some (z8.1, z8.2, ST0)
  else
    if a2 < (1 : Int32) then
      fX11_drop_33 SP0 SC ST0
    else
      if a2 ≤ (9 : Int32) then
        (fX7_isFalling ST0 a1).bind fun z3 =>
        if z3 = 0 then
          (fX11_refuse SC (9 : Int32)).bind fun z7 =>
          some (z7.1, z7.2, ST0)
        else
          (fX7_letDrop ST0 a1 a2).bind fun z4 =>
          if inb a1 6 = true then
            (fX11_answer SC (ia z4 6 a1)).bind fun z6 =>
            some (z6.1, z6.2, z4)
          else none
      else
        fX11_drop_33 SP0 SC ST0
abbrev rmX11_drop : Room := { frames := 2, cells := 0, slots := 0, locals := 45 }
theorem okX11_drop : tc_ok yX11_drop cX11_drop 4 (some .int) 2 := ⟨wc_X11_drop, wn_X11, by decide, by decide, by decide +kernel⟩
set_option maxRecDepth 20000 in
theorem tX11_drop_33 {qC : Nat → Nat} {qP0 : Nat → Nat} {qT0 : Nat → Nat} {rC3 : Value} {rC4 : Value} {rC6 : Value} {rC7 : Value} {rC11 : Value} {rC12 : Value} {rC14 : Value} {rC15 : Value} {rC17 : Value} {rC18 : Value} {rC19 : Value} {rP01 : Value} (X : tc_X dC dI ca A RX11 cX11_drop 4 (some .int) p s m args meth c) (z : Int32 × ms_T × ms_T)  (SP0 : ms_T)   : ∀ (SC : ms_T) (ST0 : ms_T), fX11_drop_33 SP0 SC ST0 = some z → ∀ (H : Heap) (locs : List Loc) (ls : Array Slot), va_P (dC, dI) classes (w11 ca qC (rC3) (rC4) (rC6) (rC7) (.ref (qP0 0)) (rC11) (rC12) (rC14) (rC15) (rC17) (rC18) (rC19) SC ++ w6 ca qP0 (.ref (qT0 0)) (rP01) SP0 ++ w7 ca qT0 ST0) H → va_D A (w11 ca qC (rC3) (rC4) (rC6) (rC7) (.ref (qP0 0)) (rC11) (rC12) (rC14) (rC15) (rC17) (rC18) (rC19) SC ++ w6 ca qP0 (.ref (qT0 0)) (rP01) SP0 ++ w7 ca qT0 ST0) → va_S A s.heap H locs → lv_has ls 4 [(0, .ref (qC 0))] → W p l e rmX11_drop s m args below meth c H locs 0 0 (MQ below (tc_QI dC dI ca A (w11 ca qC (rC3) (rC4) (rC6) (rC7) (.ref (qP0 0)) (rC11) (rC12) (rC14) (rC15) (rC17) (rC18) (rC19) z.2.1 ++ w6 ca qP0 (.ref (qT0 0)) (rP01) SP0 ++ w7 ca qT0 z.2.2) (z.1)) args s 0 0 A) (F0 m 33 ls []) := by
  obtain ⟨hx, hb, hr, hml, hown, hts, hlk, hK, hA, hG⟩ := id X
  intro SC ST0 hf H locs ls hP hD hS hl
  unfold fX11_drop_33 at hf
  refine lv_aload_n hx hb dX11_drop_33 rfl (lv_at hl 0 rfl) ?_
  refine lv_iconst (v := (5 : Int32)) hx hb dX11_drop_34 (by decide) ?_
  obtain ⟨z2, hg, hf⟩ := tc_bi hf
  refine tc_iV (As := [.int ((5 : Int32))]) (rest := []) (b := qC 0) (wc := w11 ca qC (rC3) (rC4) (rC6) (rC7) (.ref (qP0 0)) (rC11) (rC12) (rC14) (rC15) (rC17) (rC18) (rC19) SC) (wr := w6 ca qP0 (.ref (qT0 0)) (rP01) SP0 ++ w7 ca qT0 ST0) X hP hD hS (mX11_refuse hg) okX11_refuse wl_X11_121 wi_X11_refuse ws_X11_X11_refuse_X11_refuse ⟨rfl, rfl, Nat.le_of_ble_eq_true rfl, Nat.le_of_ble_eq_true rfl⟩ 11 0 rfl rfl [0] [1, 2, 3, 4, 5, 6, 7, 8, 9, 10, 11, 12] ⟨rfl, rfl, rfl, rfl, by decide⟩ rfl hl.1 (Nat.le_of_ble_eq_true rfl) dX11_drop_35 (fun H locs hP hD hS => ?_)
  have hP := hP.sub (ws' := (w11 ca qC (rC3) (rC4) (rC6) (rC7) (.ref (qP0 0)) (rC11) (rC12) (rC14) (rC15) (rC17) (rC18) (rC19) z2.2 ++ w6 ca qP0 (.ref (qT0 0)) (rP01) SP0 ++ w7 ca qT0 ST0)) [12, 0, 1, 2, 3, 4, 5, 6, 7, 8, 9, 10, 11] rfl
  have hD := hD.sub (ws' := (w11 ca qC (rC3) (rC4) (rC6) (rC7) (.ref (qP0 0)) (rC11) (rC12) (rC14) (rC15) (rC17) (rC18) (rC19) z2.2 ++ w6 ca qP0 (.ref (qT0 0)) (rP01) SP0 ++ w7 ca qT0 ST0)) [12, 0, 1, 2, 3, 4, 5, 6, 7, 8, 9, 10, 11] rfl rfl
  obtain rfl := Option.some.inj hf
  exact tc_ri X hP hD hS rfl dX11_drop_38 rfl rfl
set_option maxRecDepth 20000 in
theorem mX11_drop {qC : Nat → Nat} {qP0 : Nat → Nat} {qT0 : Nat → Nat} {rC3 : Value} {rC4 : Value} {rC6 : Value} {rC7 : Value} {rC11 : Value} {rC12 : Value} {rC14 : Value} {rC15 : Value} {rC17 : Value} {rC18 : Value} {rC19 : Value} {rP01 : Value} {SC : ms_T} {SP0 : ms_T} {ST0 : ms_T} {a1 : Int32} {a2 : Int32} {z : Int32 × ms_T × ms_T}  (hf : fX11_drop SC SP0 ST0 a1 a2 = some z) : tc_MI l dC dI ca yX11_drop cX11_drop 4 (some .int) rmX11_drop [.ref (qC 0), .int (a1), .int (a2)] (w11 ca qC (rC3) (rC4) (rC6) (rC7) (.ref (qP0 0)) (rC11) (rC12) (rC14) (rC15) (rC17) (rC18) (rC19) SC ++ w6 ca qP0 (.ref (qT0 0)) (rP01) SP0 ++ w7 ca qT0 ST0) (w11 ca qC (rC3) (rC4) (rC6) (rC7) (.ref (qP0 0)) (rC11) (rC12) (rC14) (rC15) (rC17) (rC18) (rC19) z.2.1 ++ w6 ca qP0 (.ref (qT0 0)) (rP01) SP0 ++ w7 ca qT0 z.2.2) (z.1) := by
  refine tc_metI (own := RX11) (by decide) rfl ?_ (Nat.le_of_ble_eq_true rfl)
  intro p e s m below meth c A X hP hD hS ls hl
  obtain ⟨hx, hb, hr, hml, hown, hts, hlk, hK, hA, hG⟩ := id X
  unfold fX11_drop at hf
  have hl : lv_has ls 4 [(0, .ref (qC 0)), (1, .int (a1)), (2, .int (a2))] := hl
  refine lv_aload_n hx hb dX11_drop_0 rfl (lv_at hl 0 rfl) ?_
  refine va_get (D := (dC, dI)) (ci := 11) (v := .ref (qP0 0)) (C := RX11) (T := TX11) (N := 20) hx hb hts i_X11 hown hK hP 0 rfl rfl 10 (by decide) (hts _ wf_X11_39) (fun _ h9 => h9) rfl dX11_drop_1 ?_
  refine va_get (D := (dC, dI)) (ci := 6) (v := .ref (qT0 0)) (C := RX6) (T := TX6) (N := 2) hx hb hts i_X6 hown hK hP 1 rfl rfl 0 (by decide) (hts _ wf_X11_152) (fun _ h9 => h9) rfl dX11_drop_4 ?_
  refine lv_astore_n (lv' := [(3, .ref (qT0 0)), (0, .ref (qC 0)), (1, .int (a1)), (2, .int (a2))]) hx hb dX11_drop_7 rfl hl (by decide) rfl (fun ls hl => ?_)
  refine lv_aload_n hx hb dX11_drop_8 rfl (lv_at hl 0 rfl) ?_
  refine lv_iload_n hx hb dX11_drop_9 rfl (lv_at hl 2 rfl) ?_
  obtain ⟨z1, hg, hf⟩ := tc_bi hf
  refine tc_iV (As := [.int (a1)]) (rest := []) (b := qT0 0) (wc := w7 ca qT0 ST0) (wr := w11 ca qC (rC3) (rC4) (rC6) (rC7) (.ref (qP0 0)) (rC11) (rC12) (rC14) (rC15) (rC17) (rC18) (rC19) SC ++ w6 ca qP0 (.ref (qT0 0)) (rP01) SP0) X hP hD hS (mX7_isTalker hg) okX7_isTalker wl_X11_244 wi_X7_isTalker ws_X7_X7_isTalker_X7_isTalker ⟨rfl, rfl, Nat.le_of_ble_eq_true rfl, Nat.le_of_ble_eq_true rfl⟩ 7 0 rfl rfl [2, 3, 4, 5, 6, 7, 8, 9, 10, 11, 12] [0, 1] ⟨rfl, rfl, rfl, rfl, by decide⟩ rfl hl.1 (Nat.le_of_ble_eq_true rfl) dX11_drop_10 (fun H locs hP hD hS => ?_)
  have hP := hP.sub (ws' := (w11 ca qC (rC3) (rC4) (rC6) (rC7) (.ref (qP0 0)) (rC11) (rC12) (rC14) (rC15) (rC17) (rC18) (rC19) SC ++ w6 ca qP0 (.ref (qT0 0)) (rP01) SP0 ++ w7 ca qT0 ST0)) [0, 1, 2, 3, 4, 5, 6, 7, 8, 9, 10, 11, 12] rfl
  have hD := hD.sub (ws' := (w11 ca qC (rC3) (rC4) (rC6) (rC7) (.ref (qP0 0)) (rC11) (rC12) (rC14) (rC15) (rC17) (rC18) (rC19) SC ++ w6 ca qP0 (.ref (qT0 0)) (rP01) SP0 ++ w7 ca qT0 ST0)) [0, 1, 2, 3, 4, 5, 6, 7, 8, 9, 10, 11, 12] rfl rfl
  refine lv_if_ne (tgt := 22) hx hb dX11_drop_13 (by decide) (fun hc => ?_) (fun hc => ?_)
  · have hf := tc_neg hc hf
    refine lv_iload_n hx hb dX11_drop_22 rfl (lv_at hl 3 rfl) ?_
    refine lv_iconst (v := (1 : Int32)) hx hb dX11_drop_23 (by decide) ?_
    refine lv_icmp_lt (tgt := 33) hx hb dX11_drop_24 (by decide) (fun hc => ?_) (fun hc => ?_)
    · have hf := tc_pos hc hf
      exact tX11_drop_33 X z SP0 SC ST0 hf _ _ _ hP hD hS (lv_sub hl [1] rfl)
    · have hf := tc_neg hc hf
      refine lv_iload_n hx hb dX11_drop_27 rfl (lv_at hl 3 rfl) ?_
      refine lv_bipush (v := (9 : Int32)) hx hb dX11_drop_28 (by decide) ?_
      refine lv_icmp_le (tgt := 39) hx hb dX11_drop_30 (by decide) (fun hc => ?_) (fun hc => ?_)
      · have hf := tc_pos hc hf
        refine lv_aload_n hx hb dX11_drop_39 rfl (lv_at hl 0 rfl) ?_
        refine lv_iload_n hx hb dX11_drop_40 rfl (lv_at hl 2 rfl) ?_
        obtain ⟨z3, hg, hf⟩ := tc_bi hf
        refine tc_iV (As := [.int (a1)]) (rest := []) (b := qT0 0) (wc := w7 ca qT0 ST0) (wr := w11 ca qC (rC3) (rC4) (rC6) (rC7) (.ref (qP0 0)) (rC11) (rC12) (rC14) (rC15) (rC17) (rC18) (rC19) SC ++ w6 ca qP0 (.ref (qT0 0)) (rP01) SP0) X hP hD hS (mX7_isFalling hg) okX7_isFalling wl_X11_271 wi_X7_isFalling ws_X7_X7_isFalling_X7_isFalling ⟨rfl, rfl, Nat.le_of_ble_eq_true rfl, Nat.le_of_ble_eq_true rfl⟩ 7 0 rfl rfl [2, 3, 4, 5, 6, 7, 8, 9, 10, 11, 12] [0, 1] ⟨rfl, rfl, rfl, rfl, by decide⟩ rfl hl.1 (Nat.le_of_ble_eq_true rfl) dX11_drop_41 (fun H locs hP hD hS => ?_)
        have hP := hP.sub (ws' := (w11 ca qC (rC3) (rC4) (rC6) (rC7) (.ref (qP0 0)) (rC11) (rC12) (rC14) (rC15) (rC17) (rC18) (rC19) SC ++ w6 ca qP0 (.ref (qT0 0)) (rP01) SP0 ++ w7 ca qT0 ST0)) [0, 1, 2, 3, 4, 5, 6, 7, 8, 9, 10, 11, 12] rfl
        have hD := hD.sub (ws' := (w11 ca qC (rC3) (rC4) (rC6) (rC7) (.ref (qP0 0)) (rC11) (rC12) (rC14) (rC15) (rC17) (rC18) (rC19) SC ++ w6 ca qP0 (.ref (qT0 0)) (rP01) SP0 ++ w7 ca qT0 ST0)) [0, 1, 2, 3, 4, 5, 6, 7, 8, 9, 10, 11, 12] rfl rfl
        refine lv_if_ne (tgt := 54) hx hb dX11_drop_44 (by decide) (fun hc => ?_) (fun hc => ?_)
        · have hf := tc_neg hc hf
          refine lv_aload_n hx hb dX11_drop_54 rfl (lv_at hl 0 rfl) ?_
          refine lv_iload_n hx hb dX11_drop_55 rfl (lv_at hl 2 rfl) ?_
          refine lv_iload_n hx hb dX11_drop_56 rfl (lv_at hl 3 rfl) ?_
          obtain ⟨z4, hg, hf⟩ := tc_bi hf
          refine tc_vV (As := [.int (a1), .int (a2)]) (rest := []) (b := qT0 0) (wc := w7 ca qT0 ST0) (wr := w11 ca qC (rC3) (rC4) (rC6) (rC7) (.ref (qP0 0)) (rC11) (rC12) (rC14) (rC15) (rC17) (rC18) (rC19) SC ++ w6 ca qP0 (.ref (qT0 0)) (rP01) SP0) X hP hD hS (mX7_letDrop hg) okX7_letDrop wl_X11_274 wi_X7_letDrop ws_X7_X7_letDrop_X7_letDrop ⟨rfl, rfl, Nat.le_of_ble_eq_true rfl, Nat.le_of_ble_eq_true rfl⟩ 7 0 rfl rfl [2, 3, 4, 5, 6, 7, 8, 9, 10, 11, 12] [0, 1] ⟨rfl, rfl, rfl, rfl, by decide⟩ rfl hl.1 (Nat.le_of_ble_eq_true rfl) dX11_drop_57 (fun H locs hP hD hS => ?_)
          have hP := hP.sub (ws' := (w11 ca qC (rC3) (rC4) (rC6) (rC7) (.ref (qP0 0)) (rC11) (rC12) (rC14) (rC15) (rC17) (rC18) (rC19) SC ++ w6 ca qP0 (.ref (qT0 0)) (rP01) SP0 ++ w7 ca qT0 z4)) [0, 1, 2, 3, 4, 5, 6, 7, 8, 9, 10, 11, 12] rfl
          have hD := hD.sub (ws' := (w11 ca qC (rC3) (rC4) (rC6) (rC7) (.ref (qP0 0)) (rC11) (rC12) (rC14) (rC15) (rC17) (rC18) (rC19) SC ++ w6 ca qP0 (.ref (qT0 0)) (rP01) SP0 ++ w7 ca qT0 z4)) [0, 1, 2, 3, 4, 5, 6, 7, 8, 9, 10, 11, 12] rfl rfl
          refine lv_aload_n hx hb dX11_drop_60 rfl (lv_at hl 1 rfl) ?_
          refine lv_aload_n hx hb dX11_drop_61 rfl (lv_at hl 0 rfl) ?_
          refine va_get (D := (dC, dI)) (ci := 7) (v := .ref (qT0 6)) (C := RX7) (T := TX7) (N := 18) hx hb hts i_X7 hown hK hP 2 rfl rfl 10 (by decide) (hts _ wf_X11_250) (fun _ h9 => h9) rfl dX11_drop_62 ?_
          refine lv_iload_n hx hb dX11_drop_65 rfl (lv_at hl 2 rfl) ?_
          obtain ⟨hi5, hf⟩ := tc_in hf
          refine va_iald hx hb hK hP 8 1 rfl rfl hi5 dX11_drop_66 ?_
          obtain ⟨z6, hg, hf⟩ := tc_bi hf
          refine tc_iV (As := [.int (ia z4 6 a1)]) (rest := []) (b := qC 0) (wc := w11 ca qC (rC3) (rC4) (rC6) (rC7) (.ref (qP0 0)) (rC11) (rC12) (rC14) (rC15) (rC17) (rC18) (rC19) SC) (wr := w6 ca qP0 (.ref (qT0 0)) (rP01) SP0 ++ w7 ca qT0 z4) X hP hD hS (mX11_answer hg) okX11_answer wl_X11_182 wi_X11_answer ws_X11_X11_answer_X11_answer ⟨rfl, rfl, Nat.le_of_ble_eq_true rfl, Nat.le_of_ble_eq_true rfl⟩ 11 0 rfl rfl [0] [1, 2, 3, 4, 5, 6, 7, 8, 9, 10, 11, 12] ⟨rfl, rfl, rfl, rfl, by decide⟩ rfl hl.1 (Nat.le_of_ble_eq_true rfl) dX11_drop_67 (fun H locs hP hD hS => ?_)
          have hP := hP.sub (ws' := (w11 ca qC (rC3) (rC4) (rC6) (rC7) (.ref (qP0 0)) (rC11) (rC12) (rC14) (rC15) (rC17) (rC18) (rC19) z6.2 ++ w6 ca qP0 (.ref (qT0 0)) (rP01) SP0 ++ w7 ca qT0 z4)) [12, 0, 1, 2, 3, 4, 5, 6, 7, 8, 9, 10, 11] rfl
          have hD := hD.sub (ws' := (w11 ca qC (rC3) (rC4) (rC6) (rC7) (.ref (qP0 0)) (rC11) (rC12) (rC14) (rC15) (rC17) (rC18) (rC19) z6.2 ++ w6 ca qP0 (.ref (qT0 0)) (rP01) SP0 ++ w7 ca qT0 z4)) [12, 0, 1, 2, 3, 4, 5, 6, 7, 8, 9, 10, 11] rfl rfl
          obtain rfl := Option.some.inj hf
          exact tc_ri X hP hD hS rfl dX11_drop_70 rfl rfl
        · have hf := tc_pos hc hf
          refine lv_aload_n hx hb dX11_drop_47 rfl (lv_at hl 1 rfl) ?_
          refine lv_bipush (v := (9 : Int32)) hx hb dX11_drop_48 (by decide) ?_
          obtain ⟨z7, hg, hf⟩ := tc_bi hf
          refine tc_iV (As := [.int ((9 : Int32))]) (rest := []) (b := qC 0) (wc := w11 ca qC (rC3) (rC4) (rC6) (rC7) (.ref (qP0 0)) (rC11) (rC12) (rC14) (rC15) (rC17) (rC18) (rC19) SC) (wr := w6 ca qP0 (.ref (qT0 0)) (rP01) SP0 ++ w7 ca qT0 ST0) X hP hD hS (mX11_refuse hg) okX11_refuse wl_X11_121 wi_X11_refuse ws_X11_X11_refuse_X11_refuse ⟨rfl, rfl, Nat.le_of_ble_eq_true rfl, Nat.le_of_ble_eq_true rfl⟩ 11 0 rfl rfl [0] [1, 2, 3, 4, 5, 6, 7, 8, 9, 10, 11, 12] ⟨rfl, rfl, rfl, rfl, by decide⟩ rfl hl.1 (Nat.le_of_ble_eq_true rfl) dX11_drop_50 (fun H locs hP hD hS => ?_)
          have hP := hP.sub (ws' := (w11 ca qC (rC3) (rC4) (rC6) (rC7) (.ref (qP0 0)) (rC11) (rC12) (rC14) (rC15) (rC17) (rC18) (rC19) z7.2 ++ w6 ca qP0 (.ref (qT0 0)) (rP01) SP0 ++ w7 ca qT0 ST0)) [12, 0, 1, 2, 3, 4, 5, 6, 7, 8, 9, 10, 11] rfl
          have hD := hD.sub (ws' := (w11 ca qC (rC3) (rC4) (rC6) (rC7) (.ref (qP0 0)) (rC11) (rC12) (rC14) (rC15) (rC17) (rC18) (rC19) z7.2 ++ w6 ca qP0 (.ref (qT0 0)) (rP01) SP0 ++ w7 ca qT0 ST0)) [12, 0, 1, 2, 3, 4, 5, 6, 7, 8, 9, 10, 11] rfl rfl
          obtain rfl := Option.some.inj hf
          exact tc_ri X hP hD hS rfl dX11_drop_53 rfl rfl
      · have hf := tc_neg hc hf
        exact tX11_drop_33 X z SP0 SC ST0 hf _ _ _ hP hD hS (lv_sub hl [1] rfl)
  · have hf := tc_pos hc hf
    refine lv_aload_n hx hb dX11_drop_16 rfl (lv_at hl 1 rfl) ?_
    refine lv_iconst (v := (2 : Int32)) hx hb dX11_drop_17 (by decide) ?_
    obtain ⟨z8, hg, hf⟩ := tc_bi hf
    refine tc_iV (As := [.int ((2 : Int32))]) (rest := []) (b := qC 0) (wc := w11 ca qC (rC3) (rC4) (rC6) (rC7) (.ref (qP0 0)) (rC11) (rC12) (rC14) (rC15) (rC17) (rC18) (rC19) SC) (wr := w6 ca qP0 (.ref (qT0 0)) (rP01) SP0 ++ w7 ca qT0 ST0) X hP hD hS (mX11_refuse hg) okX11_refuse wl_X11_121 wi_X11_refuse ws_X11_X11_refuse_X11_refuse ⟨rfl, rfl, Nat.le_of_ble_eq_true rfl, Nat.le_of_ble_eq_true rfl⟩ 11 0 rfl rfl [0] [1, 2, 3, 4, 5, 6, 7, 8, 9, 10, 11, 12] ⟨rfl, rfl, rfl, rfl, by decide⟩ rfl hl.1 (Nat.le_of_ble_eq_true rfl) dX11_drop_18 (fun H locs hP hD hS => ?_)
    have hP := hP.sub (ws' := (w11 ca qC (rC3) (rC4) (rC6) (rC7) (.ref (qP0 0)) (rC11) (rC12) (rC14) (rC15) (rC17) (rC18) (rC19) z8.2 ++ w6 ca qP0 (.ref (qT0 0)) (rP01) SP0 ++ w7 ca qT0 ST0)) [12, 0, 1, 2, 3, 4, 5, 6, 7, 8, 9, 10, 11] rfl
    have hD := hD.sub (ws' := (w11 ca qC (rC3) (rC4) (rC6) (rC7) (.ref (qP0 0)) (rC11) (rC12) (rC14) (rC15) (rC17) (rC18) (rC19) z8.2 ++ w6 ca qP0 (.ref (qT0 0)) (rP01) SP0 ++ w7 ca qT0 ST0)) [12, 0, 1, 2, 3, 4, 5, 6, 7, 8, 9, 10, 11] rfl rfl
    obtain rfl := Option.some.inj hf
    exact tc_ri X hP hD hS rfl dX11_drop_21 rfl rfl
end G
