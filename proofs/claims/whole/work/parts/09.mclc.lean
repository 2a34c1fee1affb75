section G
variable {p : Program} {l : Launch} {e : Env} {s : State} {m : MethodId} {args : Array Value} {below : List Frame} {meth : Method} {c : Code} {dC : Nat → ClassId} {dI : Nat → Nat → Nat} {ca : Nat → ClassId} {A : Nat → Prop}
theorem aw8_B_7_2_5 (ca : Nat → ClassId) (q0 q1 q2 : Nat → Nat) (r0_0 r0_11 : Value) (S0 S1 S2 : ms_T) (i v : Int32) : (w8 ca q0 r0_0 r0_11 S0 ++ wLB ca q1 S1 ++ w7 ca q2 S2 : va_W).set 7 (q2 5, .inl (ca 1, 6, .inl (upd (ra S2 5) i.toNatClampNeg v))) = w8 ca q0 r0_0 r0_11 S0 ++ wLB ca q1 S1 ++ w7 ca q2 (sa S2 5 i v) := rfl
theorem aw8_B_7_2_6 (ca : Nat → ClassId) (q0 q1 q2 : Nat → Nat) (r0_0 r0_11 : Value) (S0 S1 S2 : ms_T) (i v : Int32) : (w8 ca q0 r0_0 r0_11 S0 ++ wLB ca q1 S1 ++ w7 ca q2 S2 : va_W).set 8 (q2 6, .inl (ca 1, 6, .inl (upd (ra S2 6) i.toNatClampNeg v))) = w8 ca q0 r0_0 r0_11 S0 ++ wLB ca q1 S1 ++ w7 ca q2 (sa S2 6 i v) := rfl
theorem pw8_B_7_2_8 (ca : Nat → ClassId) (q0 q1 q2 : Nat → Nat) (r0_0 r0_11 : Value) (S0 S1 S2 : ms_T) (v : Int32) : (w8 ca q0 r0_0 r0_11 S0 ++ wLB ca q1 S1 ++ w7 ca q2 S2 : va_W).set 2 (q2 0, .inr (7, List.set (.int (gi S2 0) :: .int (gi S2 1) :: .ref (q2 1) :: .ref (q2 2) :: .int (gi S2 4) :: .ref (q2 3) :: .ref (q2 4) :: .int (gi S2 7) :: .int (gi S2 8) :: .ref (q2 5) :: .ref (q2 6) :: .ref (q2 7) :: .int (gi S2 12) :: .int (gi S2 13) :: .ref (q2 8) :: .ref (q2 9) :: .int (gi S2 16) :: .ref (q2 10) :: []) 8 (.int v))) = w8 ca q0 r0_0 r0_11 S0 ++ wLB ca q1 S1 ++ w7 ca q2 (si S2 8 v) := rfl
def fX8_readTalker_161  (SB : ms_T)  (SR : ms_T) (ST : ms_T) : Option (Int32 × ms_T × ms_T) :=
  some ((1 : Int32), SR, si ST 8 ((gi ST 8) + (1 : Int32)))
def fX8_readTalker  (SR : ms_T) (SB : ms_T) (ST : ms_T)  : Option (Int32 × ms_T × ms_T) :=
  if (gi ST 8) = (6 : Int32) then
    (fX4_refuseHereT SR (6 : Int32)).bind fun z15 =>
    if z15.1 &&& 1 = z15.1 then
      some (z15.1, z15.2, ST)
    else none
  else
    (fX4_advanceT SR SB).bind fun z1 =>
    (fX8_isNewNameHere z1 ST).bind fun z2 =>
    if z2.1 = 0 then
      some ((0 : Int32), z2.2, ST)
    else
      if inb ((17 : Int32) + (gi ST 8)) 23 = true then
        (fX4_advanceT z2.2 SB).bind fun z4 =>
        (fX4_passWordT z4 SB (9 : Int32)).bind fun z5 =>
        if z5.1 = 0 then
          some ((0 : Int32), z5.2, sA ST 10 ((17 : Int32) + (gi ST 8)) (gl z2.2 8))
        else
          (fX8_isFreeSeatHere z5.2 (sA ST 10 ((17 : Int32) + (gi ST 8)) (gl z2.2 8))).bind fun z6 =>
          if z6.1 = 0 then
            some ((0 : Int32), z6.2, sA ST 10 ((17 : Int32) + (gi ST 8)) (gl z2.2 8))
          else
            if inb (gi ST 8) 6 = true then
              (fX4_advanceT z6.2 SB).bind fun z8 =>
              (fX4_passWordT z8 SB (10 : Int32)).bind fun z9 =>
              if z9.1 = 0 then
                some ((0 : Int32), z9.2, sa (sA ST 10 ((17 : Int32) + (gi ST 8)) (gl z2.2 8)) 5 (gi ST 8) (gi z6.2 5))
              else
                (fX4_topicNamedT z9.2 (sa (sA ST 10 ((17 : Int32) + (gi ST 8)) (gl z2.2 8)) 5 (gi ST 8) (gi z6.2 5))).bind fun z10 =>
                if z10.1 = (-1 : Int32) then
                  some ((0 : Int32), z10.2, sa (sA ST 10 ((17 : Int32) + (gi ST 8)) (gl z2.2 8)) 5 (gi ST 8) (gi z6.2 5))
                else
                  if inb (gi ST 8) 6 = true then
                    if inb (gi ST 8) 6 = true then
                      (fX4_advanceT z10.2 SB).bind fun z13 =>
                      if (gi z13 7) = (11 : Int32) then
                        (fX8_readFails z13 SB (sa (sa (sa (sA ST 10 ((17 : Int32) + (gi ST 8)) (gl z2.2 8)) 5 (gi ST 8) (gi z6.2 5)) 6 (gi ST 8) (z10.1 + (1 : Int32))) 7 (gi ST 8) (0 : Int32)) (gi ST 8)).bind fun z14 =>
                        if z14.1 = 0 then
                          some ((0 : Int32), z14.2.1, z14.2.2)
                        else
                          fX8_readTalker_161 SB z14.2.1 z14.2.2
                      else
                        fX8_readTalker_161 SB z13 (sa (sa (sa (sA ST 10 ((17 : Int32) + (gi ST 8)) (gl z2.2 8)) 5 (gi ST 8) (gi z6.2 5)) 6 (gi ST 8) (z10.1 + (1 : Int32))) 7 (gi ST 8) (0 : Int32))
                    else none
                  else none
            else none
      else none
abbrev rmX8_readTalker : Room := { frames := 11, cells := 0, slots := 0, locals := 466 }
theorem okX8_readTalker : tc_ok yX8_readTalker cX8_readTalker 3 (some .boolean) 0 := ⟨wc_X8_readTalker, wn_X8, by decide, by decide, by decide +kernel⟩
set_option maxRecDepth 20000 in
theorem tX8_readTalker_161 {qR : Nat → Nat} {qB : Nat → Nat} {qT : Nat → Nat}  (X : tc_X dC dI ca A RX8 cX8_readTalker 3 (some .boolean) p s m args meth c) (z : Int32 × ms_T × ms_T)  (SB : ms_T)   : ∀ (SR : ms_T) (ST : ms_T), fX8_readTalker_161 SB SR ST = some z → ∀ (H : Heap) (locs : List Loc) (ls : Array Slot), va_P (dC, dI) classes (w8 ca qR (.ref (qB 0)) (.ref (qT 0)) SR ++ wLB ca qB SB ++ w7 ca qT ST) H → va_D A (w8 ca qR (.ref (qB 0)) (.ref (qT 0)) SR ++ wLB ca qB SB ++ w7 ca qT ST) → va_S A s.heap H locs → lv_has ls 3 [(0, .ref (qR 0))] → W p l e rmX8_readTalker s m args below meth c H locs 0 0 (MQ below (tc_QI dC dI ca A (w8 ca qR (.ref (qB 0)) (.ref (qT 0)) z.2.1 ++ wLB ca qB SB ++ w7 ca qT z.2.2) (z.1)) args s 0 0 A) (F0 m 161 ls []) := by
  obtain ⟨hx, hb, hr, hml, hown, hts, hlk, hK, hA, hG⟩ := id X
  intro SR ST hf H locs ls hP hD hS hl
  unfold fX8_readTalker_161 at hf
  refine lv_aload_n hx hb dX8_readTalker_161 rfl (lv_at hl 0 rfl) ?_
  refine va_get (D := (dC, dI)) (ci := 8) (v := .ref (qT 0)) (C := RX8) (T := TX8) (N := 13) hx hb hts i_X8 hown hK hP 0 rfl rfl 11 (by decide) (hts _ wf_X8_9) (fun _ h9 => h9) rfl dX8_readTalker_162 ?_
  refine lv_dup hx hb dX8_readTalker_165 rfl ?_
  refine va_get (D := (dC, dI)) (ci := 7) (v := .int (gi ST 8)) (C := RX7) (T := TX7) (N := 18) hx hb hts i_X7 hown hK hP 2 rfl rfl 8 (by decide) (hts _ wf_X8_124) (fun _ h9 => h9) rfl dX8_readTalker_166 ?_
  refine lv_iconst (v := (1 : Int32)) hx hb dX8_readTalker_169 (by decide) ?_
  refine lv_iadd hx hb dX8_readTalker_170 ?_
  refine va_put (D := (dC, dI)) (ci := 7) (v := .int ((gi ST 8) + (1 : Int32))) (ty := .int) (C := RX7) (T := TX7) (N := 18) hx hb hts i_X7 tyX7 tyX7_ok nmX7 hown hK hP hD hS 2 rfl rfl 8 (by decide) (hts _ wf_X8_124) (fun _ h9 => h9) rfl (tyX7_ok 8 (by decide)) rfl rfl (Nat.le_of_ble_eq_true rfl) dX8_readTalker_171 (fun H locs hP hD hS => ?_)
  have hP := tc_eP (pw8_B_7_2_8 ca qR qB qT (.ref (qB 0)) (.ref (qT 0)) SR SB ST ((gi ST 8) + (1 : Int32))) hP
  have hD := tc_eD (pw8_B_7_2_8 ca qR qB qT (.ref (qB 0)) (.ref (qT 0)) SR SB ST ((gi ST 8) + (1 : Int32))) hD
  refine lv_iconst (v := (1 : Int32)) hx hb dX8_readTalker_174 (by decide) ?_
  obtain rfl := Option.some.inj hf
  exact tc_rz X hP hD hS rfl dX8_readTalker_175 (by decide) rfl rfl
set_option maxRecDepth 20000 in
theorem mX8_readTalker {qR : Nat → Nat} {qB : Nat → Nat} {qT : Nat → Nat}  {SR : ms_T} {SB : ms_T} {ST : ms_T}  {z : Int32 × ms_T × ms_T}  (hf : fX8_readTalker SR SB ST = some z) : tc_MI l dC dI ca yX8_readTalker cX8_readTalker 3 (some .boolean) rmX8_readTalker [.ref (qR 0)] (w8 ca qR (.ref (qB 0)) (.ref (qT 0)) SR ++ wLB ca qB SB ++ w7 ca qT ST) (w8 ca qR (.ref (qB 0)) (.ref (qT 0)) z.2.1 ++ wLB ca qB SB ++ w7 ca qT z.2.2) (z.1) := by
  refine tc_metI (own := RX8) (by decide) rfl ?_ (Nat.le_of_ble_eq_true rfl)
  intro p e s m below meth c A X hP hD hS ls hl
  obtain ⟨hx, hb, hr, hml, hown, hts, hlk, hK, hA, hG⟩ := id X
  unfold fX8_readTalker at hf
  have hl : lv_has ls 3 [(0, .ref (qR 0))] := hl
  refine lv_aload_n hx hb dX8_readTalker_0 rfl (lv_at hl 0 rfl) ?_
  refine va_get (D := (dC, dI)) (ci := 8) (v := .ref (qT 0)) (C := RX8) (T := TX8) (N := 13) hx hb hts i_X8 hown hK hP 0 rfl rfl 11 (by decide) (hts _ wf_X8_9) (fun _ h9 => h9) rfl dX8_readTalker_1 ?_
  refine va_get (D := (dC, dI)) (ci := 7) (v := .int (gi ST 8)) (C := RX7) (T := TX7) (N := 18) hx hb hts i_X7 hown hK hP 2 rfl rfl 8 (by decide) (hts _ wf_X8_124) (fun _ h9 => h9) rfl dX8_readTalker_4 ?_
  refine lv_istore_n (lv' := [(1, .int (gi ST 8)), (0, .ref (qR 0))]) hx hb dX8_readTalker_7 rfl hl (by decide) rfl (fun ls hl => ?_)
  refine lv_iload_n hx hb dX8_readTalker_8 rfl (lv_at hl 0 rfl) ?_
  refine lv_bipush (v := (6 : Int32)) hx hb dX8_readTalker_9 (by decide) ?_
  refine lv_icmp_ne (tgt := 21) hx hb dX8_readTalker_11 (by decide) (fun hc => ?_) (fun hc => ?_)
  · have hf := tc_neg hc hf
    refine lv_aload_n hx hb dX8_readTalker_21 rfl (lv_at hl 1 rfl) ?_
    obtain ⟨z1, hg, hf⟩ := tc_bi hf
    refine tc_vU (As := []) (rest := []) (b := qR 0) (wc := w8 ca qR (.ref (qB 0)) (.ref (qT 0)) SR ++ wLB ca qB SB) (wr := w7 ca qT ST) X hP hD hS (mX4_advanceT hg) okX4_advance wl_X8_59 wu_X8_advance rfl wi_X4_advance ws_X8_xadvance_X4_advance ⟨rfl, rfl, Nat.le_of_ble_eq_true rfl, Nat.le_of_ble_eq_true rfl⟩ 8 0 rfl rfl [0, 1] [2, 3, 4, 5, 6, 7, 8, 9, 10, 11, 12] ⟨rfl, rfl, rfl, rfl, by decide⟩ rfl hl.1 (Nat.le_of_ble_eq_true rfl) dX8_readTalker_22 (fun H locs hP hD hS => ?_)
    have hP := hP.sub (ws' := (w8 ca qR (.ref (qB 0)) (.ref (qT 0)) z1 ++ wLB ca qB SB ++ w7 ca qT ST)) [11, 12, 0, 1, 2, 3, 4, 5, 6, 7, 8, 9, 10] rfl
    have hD := hD.sub (ws' := (w8 ca qR (.ref (qB 0)) (.ref (qT 0)) z1 ++ wLB ca qB SB ++ w7 ca qT ST)) [11, 12, 0, 1, 2, 3, 4, 5, 6, 7, 8, 9, 10] rfl rfl
    refine lv_aload_n hx hb dX8_readTalker_25 rfl (lv_at hl 1 rfl) ?_
    obtain ⟨z2, hg, hf⟩ := tc_bi hf
    refine tc_iV (As := []) (rest := []) (b := qR 0) (wc := w8 ca qR (.ref (qB 0)) (.ref (qT 0)) z1 ++ w7 ca qT ST) (wr := wLB ca qB SB) X hP hD hS (mX8_isNewNameHere hg) okX8_isNewNameHere wl_X8_90 wi_X8_isNewNameHere ws_X8_X8_isNewNameHere_X8_isNewNameHere ⟨rfl, rfl, Nat.le_of_ble_eq_true rfl, Nat.le_of_ble_eq_true rfl⟩ 8 0 rfl rfl [0, 2, 3, 4, 5, 6, 7, 8, 9, 10, 11, 12] [1] ⟨rfl, rfl, rfl, rfl, by decide⟩ rfl hl.1 (Nat.le_of_ble_eq_true rfl) dX8_readTalker_26 (fun H locs hP hD hS => ?_)
    have hP := hP.sub (ws' := (w8 ca qR (.ref (qB 0)) (.ref (qT 0)) z2.2 ++ wLB ca qB SB ++ w7 ca qT ST)) [1, 0, 2, 3, 4, 5, 6, 7, 8, 9, 10, 11, 12] rfl
    have hD := hD.sub (ws' := (w8 ca qR (.ref (qB 0)) (.ref (qT 0)) z2.2 ++ wLB ca qB SB ++ w7 ca qT ST)) [1, 0, 2, 3, 4, 5, 6, 7, 8, 9, 10, 11, 12] rfl rfl
    refine lv_if_ne (tgt := 34) hx hb dX8_readTalker_29 (by decide) (fun hc => ?_) (fun hc => ?_)
    · have hf := tc_neg hc hf
      refine lv_aload_n hx hb dX8_readTalker_34 rfl (lv_at hl 1 rfl) ?_
      refine va_get (D := (dC, dI)) (ci := 8) (v := .ref (qT 0)) (C := RX8) (T := TX8) (N := 13) hx hb hts i_X8 hown hK hP 0 rfl rfl 11 (by decide) (hts _ wf_X8_9) (fun _ h9 => h9) rfl dX8_readTalker_35 ?_
      refine va_get (D := (dC, dI)) (ci := 7) (v := .ref (qT 10)) (C := RX7) (T := TX7) (N := 18) hx hb hts i_X7 hown hK hP 2 rfl rfl 17 (by decide) (hts _ wf_X8_75) (fun _ h9 => h9) rfl dX8_readTalker_38 ?_
      refine lv_bipush (v := (17 : Int32)) hx hb dX8_readTalker_41 (by decide) ?_
      refine lv_iload_n hx hb dX8_readTalker_43 rfl (lv_at hl 0 rfl) ?_
      refine lv_iadd hx hb dX8_readTalker_44 ?_
      refine lv_aload_n hx hb dX8_readTalker_45 rfl (lv_at hl 1 rfl) ?_
      refine va_get (D := (dC, dI)) (ci := 8) (v := .long (gl z2.2 8)) (C := RX8) (T := TX8) (N := 13) hx hb hts i_X8 hown hK hP 0 rfl rfl 8 (by decide) (hts _ wf_X8_79) (u_same (hts _ wq_X8_name)) rfl dX8_readTalker_46 ?_
      obtain ⟨hi3, hf⟩ := tc_in hf
      refine va_last hx hb hK hP hD hS 12 2 rfl rfl hi3 dX8_readTalker_49 (fun H locs hP hD hS => ?_)
      have hP := tc_eP (aw8_B_7_2_10 ca qR qB qT (.ref (qB 0)) (.ref (qT 0)) z2.2 SB ST ((17 : Int32) + (gi ST 8)) (gl z2.2 8)) hP
      have hD := tc_eD (aw8_B_7_2_10 ca qR qB qT (.ref (qB 0)) (.ref (qT 0)) z2.2 SB ST ((17 : Int32) + (gi ST 8)) (gl z2.2 8)) hD
      refine lv_aload_n hx hb dX8_readTalker_50 rfl (lv_at hl 1 rfl) ?_
      obtain ⟨z4, hg, hf⟩ := tc_bi hf
      refine tc_vU (As := []) (rest := []) (b := qR 0) (wc := w8 ca qR (.ref (qB 0)) (.ref (qT 0)) z2.2 ++ wLB ca qB SB) (wr := w7 ca qT (sA ST 10 ((17 : Int32) + (gi ST 8)) (gl z2.2 8))) X hP hD hS (mX4_advanceT hg) okX4_advance wl_X8_59 wu_X8_advance rfl wi_X4_advance ws_X8_xadvance_X4_advance ⟨rfl, rfl, Nat.le_of_ble_eq_true rfl, Nat.le_of_ble_eq_true rfl⟩ 8 0 rfl rfl [0, 1] [2, 3, 4, 5, 6, 7, 8, 9, 10, 11, 12] ⟨rfl, rfl, rfl, rfl, by decide⟩ rfl hl.1 (Nat.le_of_ble_eq_true rfl) dX8_readTalker_51 (fun H locs hP hD hS => ?_)
      have hP := hP.sub (ws' := (w8 ca qR (.ref (qB 0)) (.ref (qT 0)) z4 ++ wLB ca qB SB ++ w7 ca qT (sA ST 10 ((17 : Int32) + (gi ST 8)) (gl z2.2 8)))) [11, 12, 0, 1, 2, 3, 4, 5, 6, 7, 8, 9, 10] rfl
      have hD := hD.sub (ws' := (w8 ca qR (.ref (qB 0)) (.ref (qT 0)) z4 ++ wLB ca qB SB ++ w7 ca qT (sA ST 10 ((17 : Int32) + (gi ST 8)) (gl z2.2 8)))) [11, 12, 0, 1, 2, 3, 4, 5, 6, 7, 8, 9, 10] rfl rfl
      refine lv_aload_n hx hb dX8_readTalker_54 rfl (lv_at hl 1 rfl) ?_
      refine lv_bipush (v := (9 : Int32)) hx hb dX8_readTalker_55 (by decide) ?_
      obtain ⟨z5, hg, hf⟩ := tc_bi hf
      refine tc_iU (As := [.int ((9 : Int32))]) (rest := []) (b := qR 0) (wc := w8 ca qR (.ref (qB 0)) (.ref (qT 0)) z4 ++ wLB ca qB SB) (wr := w7 ca qT (sA ST 10 ((17 : Int32) + (gi ST 8)) (gl z2.2 8))) X hP hD hS (mX4_passWordT hg) okX4_passWord wl_X8_93 wu_X8_passWord rfl wi_X4_passWord ws_X8_xpassWord_X4_passWord ⟨rfl, rfl, Nat.le_of_ble_eq_true rfl, Nat.le_of_ble_eq_true rfl⟩ 8 0 rfl rfl [0, 1] [2, 3, 4, 5, 6, 7, 8, 9, 10, 11, 12] ⟨rfl, rfl, rfl, rfl, by decide⟩ rfl hl.1 (Nat.le_of_ble_eq_true rfl) dX8_readTalker_57 (fun H locs hP hD hS => ?_)
      have hP := hP.sub (ws' := (w8 ca qR (.ref (qB 0)) (.ref (qT 0)) z5.2 ++ wLB ca qB SB ++ w7 ca qT (sA ST 10 ((17 : Int32) + (gi ST 8)) (gl z2.2 8)))) [11, 12, 0, 1, 2, 3, 4, 5, 6, 7, 8, 9, 10] rfl
      have hD := hD.sub (ws' := (w8 ca qR (.ref (qB 0)) (.ref (qT 0)) z5.2 ++ wLB ca qB SB ++ w7 ca qT (sA ST 10 ((17 : Int32) + (gi ST 8)) (gl z2.2 8)))) [11, 12, 0, 1, 2, 3, 4, 5, 6, 7, 8, 9, 10] rfl rfl
      refine lv_if_eq (tgt := 70) hx hb dX8_readTalker_60 (by decide) (fun hc => ?_) (fun hc => ?_)
      · have hf := tc_pos hc hf
        refine lv_iconst (v := (0 : Int32)) hx hb dX8_readTalker_70 (by decide) ?_
        obtain rfl := Option.some.inj hf
        exact tc_rz X hP hD hS rfl dX8_readTalker_71 (by decide) rfl rfl
      · have hf := tc_neg hc hf
        refine lv_aload_n hx hb dX8_readTalker_63 rfl (lv_at hl 1 rfl) ?_
        obtain ⟨z6, hg, hf⟩ := tc_bi hf
        refine tc_iV (As := []) (rest := []) (b := qR 0) (wc := w8 ca qR (.ref (qB 0)) (.ref (qT 0)) z5.2 ++ w7 ca qT (sA ST 10 ((17 : Int32) + (gi ST 8)) (gl z2.2 8))) (wr := wLB ca qB SB) X hP hD hS (mX8_isFreeSeatHere hg) okX8_isFreeSeatHere wl_X8_127 wi_X8_isFreeSeatHere ws_X8_X8_isFreeSeatHere_X8_isFreeSeatHere ⟨rfl, rfl, Nat.le_of_ble_eq_true rfl, Nat.le_of_ble_eq_true rfl⟩ 8 0 rfl rfl [0, 2, 3, 4, 5, 6, 7, 8, 9, 10, 11, 12] [1] ⟨rfl, rfl, rfl, rfl, by decide⟩ rfl hl.1 (Nat.le_of_ble_eq_true rfl) dX8_readTalker_64 (fun H locs hP hD hS => ?_)
        have hP := hP.sub (ws' := (w8 ca qR (.ref (qB 0)) (.ref (qT 0)) z6.2 ++ wLB ca qB SB ++ w7 ca qT (sA ST 10 ((17 : Int32) + (gi ST 8)) (gl z2.2 8)))) [1, 0, 2, 3, 4, 5, 6, 7, 8, 9, 10, 11, 12] rfl
        have hD := hD.sub (ws' := (w8 ca qR (.ref (qB 0)) (.ref (qT 0)) z6.2 ++ wLB ca qB SB ++ w7 ca qT (sA ST 10 ((17 : Int32) + (gi ST 8)) (gl z2.2 8)))) [1, 0, 2, 3, 4, 5, 6, 7, 8, 9, 10, 11, 12] rfl rfl
        refine lv_if_ne (tgt := 72) hx hb dX8_readTalker_67 (by decide) (fun hc => ?_) (fun hc => ?_)
        · have hf := tc_neg hc hf
          refine lv_aload_n hx hb dX8_readTalker_72 rfl (lv_at hl 1 rfl) ?_
          refine va_get (D := (dC, dI)) (ci := 8) (v := .ref (qT 0)) (C := RX8) (T := TX8) (N := 13) hx hb hts i_X8 hown hK hP 0 rfl rfl 11 (by decide) (hts _ wf_X8_9) (fun _ h9 => h9) rfl dX8_readTalker_73 ?_
          refine va_get (D := (dC, dI)) (ci := 7) (v := .ref (qT 5)) (C := RX7) (T := TX7) (N := 18) hx hb hts i_X7 hown hK hP 2 rfl rfl 9 (by decide) (hts _ wf_X8_130) (fun _ h9 => h9) rfl dX8_readTalker_76 ?_
          refine lv_iload_n hx hb dX8_readTalker_79 rfl (lv_at hl 0 rfl) ?_
          refine lv_aload_n hx hb dX8_readTalker_80 rfl (lv_at hl 1 rfl) ?_
          refine va_get (D := (dC, dI)) (ci := 8) (v := .int (gi z6.2 5)) (C := RX8) (T := TX8) (N := 13) hx hb hts i_X8 hown hK hP 0 rfl rfl 5 (by decide) (hts _ wf_X8_66) (u_same (hts _ wq_X8_number)) rfl dX8_readTalker_81 ?_
          obtain ⟨hi7, hf⟩ := tc_in hf
          refine va_iast hx hb hK hP hD hS 7 1 rfl rfl hi7 dX8_readTalker_84 (fun H locs hP hD hS => ?_)
          have hP := tc_eP (aw8_B_7_2_5 ca qR qB qT (.ref (qB 0)) (.ref (qT 0)) z6.2 SB (sA ST 10 ((17 : Int32) + (gi ST 8)) (gl z2.2 8)) (gi ST 8) (gi z6.2 5)) hP
          have hD := tc_eD (aw8_B_7_2_5 ca qR qB qT (.ref (qB 0)) (.ref (qT 0)) z6.2 SB (sA ST 10 ((17 : Int32) + (gi ST 8)) (gl z2.2 8)) (gi ST 8) (gi z6.2 5)) hD
          refine lv_aload_n hx hb dX8_readTalker_85 rfl (lv_at hl 1 rfl) ?_
          obtain ⟨z8, hg, hf⟩ := tc_bi hf
          refine tc_vU (As := []) (rest := []) (b := qR 0) (wc := w8 ca qR (.ref (qB 0)) (.ref (qT 0)) z6.2 ++ wLB ca qB SB) (wr := w7 ca qT (sa (sA ST 10 ((17 : Int32) + (gi ST 8)) (gl z2.2 8)) 5 (gi ST 8) (gi z6.2 5))) X hP hD hS (mX4_advanceT hg) okX4_advance wl_X8_59 wu_X8_advance rfl wi_X4_advance ws_X8_xadvance_X4_advance ⟨rfl, rfl, Nat.le_of_ble_eq_true rfl, Nat.le_of_ble_eq_true rfl⟩ 8 0 rfl rfl [0, 1] [2, 3, 4, 5, 6, 7, 8, 9, 10, 11, 12] ⟨rfl, rfl, rfl, rfl, by decide⟩ rfl hl.1 (Nat.le_of_ble_eq_true rfl) dX8_readTalker_86 (fun H locs hP hD hS => ?_)
          have hP := hP.sub (ws' := (w8 ca qR (.ref (qB 0)) (.ref (qT 0)) z8 ++ wLB ca qB SB ++ w7 ca qT (sa (sA ST 10 ((17 : Int32) + (gi ST 8)) (gl z2.2 8)) 5 (gi ST 8) (gi z6.2 5)))) [11, 12, 0, 1, 2, 3, 4, 5, 6, 7, 8, 9, 10] rfl
          have hD := hD.sub (ws' := (w8 ca qR (.ref (qB 0)) (.ref (qT 0)) z8 ++ wLB ca qB SB ++ w7 ca qT (sa (sA ST 10 ((17 : Int32) + (gi ST 8)) (gl z2.2 8)) 5 (gi ST 8) (gi z6.2 5)))) [11, 12, 0, 1, 2, 3, 4, 5, 6, 7, 8, 9, 10] rfl rfl
          refine lv_aload_n hx hb dX8_readTalker_89 rfl (lv_at hl 1 rfl) ?_
          refine lv_bipush (v := (10 : Int32)) hx hb dX8_readTalker_90 (by decide) ?_
          obtain ⟨z9, hg, hf⟩ := tc_bi hf
          refine tc_iU (As := [.int ((10 : Int32))]) (rest := []) (b := qR 0) (wc := w8 ca qR (.ref (qB 0)) (.ref (qT 0)) z8 ++ wLB ca qB SB) (wr := w7 ca qT (sa (sA ST 10 ((17 : Int32) + (gi ST 8)) (gl z2.2 8)) 5 (gi ST 8) (gi z6.2 5))) X hP hD hS (mX4_passWordT hg) okX4_passWord wl_X8_93 wu_X8_passWord rfl wi_X4_passWord ws_X8_xpassWord_X4_passWord ⟨rfl, rfl, Nat.le_of_ble_eq_true rfl, Nat.le_of_ble_eq_true rfl⟩ 8 0 rfl rfl [0, 1] [2, 3, 4, 5, 6, 7, 8, 9, 10, 11, 12] ⟨rfl, rfl, rfl, rfl, by decide⟩ rfl hl.1 (Nat.le_of_ble_eq_true rfl) dX8_readTalker_92 (fun H locs hP hD hS => ?_)
          have hP := hP.sub (ws' := (w8 ca qR (.ref (qB 0)) (.ref (qT 0)) z9.2 ++ wLB ca qB SB ++ w7 ca qT (sa (sA ST 10 ((17 : Int32) + (gi ST 8)) (gl z2.2 8)) 5 (gi ST 8) (gi z6.2 5)))) [11, 12, 0, 1, 2, 3, 4, 5, 6, 7, 8, 9, 10] rfl
          have hD := hD.sub (ws' := (w8 ca qR (.ref (qB 0)) (.ref (qT 0)) z9.2 ++ wLB ca qB SB ++ w7 ca qT (sa (sA ST 10 ((17 : Int32) + (gi ST 8)) (gl z2.2 8)) 5 (gi ST 8) (gi z6.2 5)))) [11, 12, 0, 1, 2, 3, 4, 5, 6, 7, 8, 9, 10] rfl rfl
          refine lv_if_ne (tgt := 100) hx hb dX8_readTalker_95 (by decide) (fun hc => ?_) (fun hc => ?_)
          · have hf := tc_neg hc hf
            refine lv_aload_n hx hb dX8_readTalker_100 rfl (lv_at hl 1 rfl) ?_
            refine lv_aload_n hx hb dX8_readTalker_101 rfl (lv_at hl 1 rfl) ?_
            refine va_get (D := (dC, dI)) (ci := 8) (v := .ref (qT 0)) (C := RX8) (T := TX8) (N := 13) hx hb hts i_X8 hown hK hP 0 rfl rfl 11 (by decide) (hts _ wf_X8_9) (fun _ h9 => h9) rfl dX8_readTalker_102 ?_
            obtain ⟨z10, hg, hf⟩ := tc_bi hf
            refine tc_iU (As := [.ref (qT 0)]) (rest := []) (b := qR 0) (wc := w8 ca qR (.ref (qB 0)) (.ref (qT 0)) z9.2 ++ w7 ca qT (sa (sA ST 10 ((17 : Int32) + (gi ST 8)) (gl z2.2 8)) 5 (gi ST 8) (gi z6.2 5))) (wr := wLB ca qB SB) X hP hD hS (mX4_topicNamedT hg) okX4_topicNamed wl_X8_106 wu_X8_topicNamed rfl wi_X4_topicNamed ws_X8_xtopicNamed_X4_topicNamed ⟨rfl, rfl, Nat.le_of_ble_eq_true rfl, Nat.le_of_ble_eq_true rfl⟩ 8 0 rfl rfl [0, 2, 3, 4, 5, 6, 7, 8, 9, 10, 11, 12] [1] ⟨rfl, rfl, rfl, rfl, by decide⟩ rfl hl.1 (Nat.le_of_ble_eq_true rfl) dX8_readTalker_105 (fun H locs hP hD hS => ?_)
            have hP := hP.sub (ws' := (w8 ca qR (.ref (qB 0)) (.ref (qT 0)) z10.2 ++ wLB ca qB SB ++ w7 ca qT (sa (sA ST 10 ((17 : Int32) + (gi ST 8)) (gl z2.2 8)) 5 (gi ST 8) (gi z6.2 5)))) [1, 0, 2, 3, 4, 5, 6, 7, 8, 9, 10, 11, 12] rfl
            have hD := hD.sub (ws' := (w8 ca qR (.ref (qB 0)) (.ref (qT 0)) z10.2 ++ wLB ca qB SB ++ w7 ca qT (sa (sA ST 10 ((17 : Int32) + (gi ST 8)) (gl z2.2 8)) 5 (gi ST 8) (gi z6.2 5)))) [1, 0, 2, 3, 4, 5, 6, 7, 8, 9, 10, 11, 12] rfl rfl
            refine lv_istore_n (lv' := [(2, .int (z10.1)), (1, .int (gi ST 8)), (0, .ref (qR 0))]) hx hb dX8_readTalker_108 rfl hl (by decide) rfl (fun ls hl => ?_)
            refine lv_iload_n hx hb dX8_readTalker_109 rfl (lv_at hl 0 rfl) ?_
            refine lv_iconst (v := (-1 : Int32)) hx hb dX8_readTalker_110 (by decide) ?_
            refine lv_icmp_ne (tgt := 116) hx hb dX8_readTalker_111 (by decide) (fun hc => ?_) (fun hc => ?_)
            · have hf := tc_neg hc hf
              refine lv_aload_n hx hb dX8_readTalker_116 rfl (lv_at hl 2 rfl) ?_
              refine va_get (D := (dC, dI)) (ci := 8) (v := .ref (qT 0)) (C := RX8) (T := TX8) (N := 13) hx hb hts i_X8 hown hK hP 0 rfl rfl 11 (by decide) (hts _ wf_X8_9) (fun _ h9 => h9) rfl dX8_readTalker_117 ?_
              refine va_get (D := (dC, dI)) (ci := 7) (v := .ref (qT 6)) (C := RX7) (T := TX7) (N := 18) hx hb hts i_X7 hown hK hP 2 rfl rfl 10 (by decide) (hts _ wf_X8_133) (fun _ h9 => h9) rfl dX8_readTalker_120 ?_
              refine lv_iload_n hx hb dX8_readTalker_123 rfl (lv_at hl 1 rfl) ?_
              refine lv_iload_n hx hb dX8_readTalker_124 rfl (lv_at hl 0 rfl) ?_
              refine lv_iconst (v := (1 : Int32)) hx hb dX8_readTalker_125 (by decide) ?_
              refine lv_iadd hx hb dX8_readTalker_126 ?_
              obtain ⟨hi11, hf⟩ := tc_in hf
              refine va_iast hx hb hK hP hD hS 8 1 rfl rfl hi11 dX8_readTalker_127 (fun H locs hP hD hS => ?_)
              have hP := tc_eP (aw8_B_7_2_6 ca qR qB qT (.ref (qB 0)) (.ref (qT 0)) z10.2 SB (sa (sA ST 10 ((17 : Int32) + (gi ST 8)) (gl z2.2 8)) 5 (gi ST 8) (gi z6.2 5)) (gi ST 8) (z10.1 + (1 : Int32))) hP
              have hD := tc_eD (aw8_B_7_2_6 ca qR qB qT (.ref (qB 0)) (.ref (qT 0)) z10.2 SB (sa (sA ST 10 ((17 : Int32) + (gi ST 8)) (gl z2.2 8)) 5 (gi ST 8) (gi z6.2 5)) (gi ST 8) (z10.1 + (1 : Int32))) hD
              refine lv_aload_n hx hb dX8_readTalker_128 rfl (lv_at hl 2 rfl) ?_
              refine va_get (D := (dC, dI)) (ci := 8) (v := .ref (qT 0)) (C := RX8) (T := TX8) (N := 13) hx hb hts i_X8 hown hK hP 0 rfl rfl 11 (by decide) (hts _ wf_X8_9) (fun _ h9 => h9) rfl dX8_readTalker_129 ?_
              refine va_get (D := (dC, dI)) (ci := 7) (v := .ref (qT 7)) (C := RX7) (T := TX7) (N := 18) hx hb hts i_X7 hown hK hP 2 rfl rfl 11 (by decide) (hts _ wf_X8_136) (fun _ h9 => h9) rfl dX8_readTalker_132 ?_
              refine lv_iload_n hx hb dX8_readTalker_135 rfl (lv_at hl 1 rfl) ?_
              refine lv_iconst (v := (0 : Int32)) hx hb dX8_readTalker_136 (by decide) ?_
              obtain ⟨hi12, hf⟩ := tc_in hf
              refine va_iast hx hb hK hP hD hS 9 1 rfl rfl hi12 dX8_readTalker_137 (fun H locs hP hD hS => ?_)
              have hP := tc_eP (aw8_B_7_2_7 ca qR qB qT (.ref (qB 0)) (.ref (qT 0)) z10.2 SB (sa (sa (sA ST 10 ((17 : Int32) + (gi ST 8)) (gl z2.2 8)) 5 (gi ST 8) (gi z6.2 5)) 6 (gi ST 8) (z10.1 + (1 : Int32))) (gi ST 8) (0 : Int32)) hP
              have hD := tc_eD (aw8_B_7_2_7 ca qR qB qT (.ref (qB 0)) (.ref (qT 0)) z10.2 SB (sa (sa (sA ST 10 ((17 : Int32) + (gi ST 8)) (gl z2.2 8)) 5 (gi ST 8) (gi z6.2 5)) 6 (gi ST 8) (z10.1 + (1 : Int32))) (gi ST 8) (0 : Int32)) hD
              refine lv_aload_n hx hb dX8_readTalker_138 rfl (lv_at hl 2 rfl) ?_
              obtain ⟨z13, hg, hf⟩ := tc_bi hf
              refine tc_vU (As := []) (rest := []) (b := qR 0) (wc := w8 ca qR (.ref (qB 0)) (.ref (qT 0)) z10.2 ++ wLB ca qB SB) (wr := w7 ca qT (sa (sa (sa (sA ST 10 ((17 : Int32) + (gi ST 8)) (gl z2.2 8)) 5 (gi ST 8) (gi z6.2 5)) 6 (gi ST 8) (z10.1 + (1 : Int32))) 7 (gi ST 8) (0 : Int32))) X hP hD hS (mX4_advanceT hg) okX4_advance wl_X8_59 wu_X8_advance rfl wi_X4_advance ws_X8_xadvance_X4_advance ⟨rfl, rfl, Nat.le_of_ble_eq_true rfl, Nat.le_of_ble_eq_true rfl⟩ 8 0 rfl rfl [0, 1] [2, 3, 4, 5, 6, 7, 8, 9, 10, 11, 12] ⟨rfl, rfl, rfl, rfl, by decide⟩ rfl hl.1 (Nat.le_of_ble_eq_true rfl) dX8_readTalker_139 (fun H locs hP hD hS => ?_)
              have hP := hP.sub (ws' := (w8 ca qR (.ref (qB 0)) (.ref (qT 0)) z13 ++ wLB ca qB SB ++ w7 ca qT (sa (sa (sa (sA ST 10 ((17 : Int32) + (gi ST 8)) (gl z2.2 8)) 5 (gi ST 8) (gi z6.2 5)) 6 (gi ST 8) (z10.1 + (1 : Int32))) 7 (gi ST 8) (0 : Int32)))) [11, 12, 0, 1, 2, 3, 4, 5, 6, 7, 8, 9, 10] rfl
              have hD := hD.sub (ws' := (w8 ca qR (.ref (qB 0)) (.ref (qT 0)) z13 ++ wLB ca qB SB ++ w7 ca qT (sa (sa (sa (sA ST 10 ((17 : Int32) + (gi ST 8)) (gl z2.2 8)) 5 (gi ST 8) (gi z6.2 5)) 6 (gi ST 8) (z10.1 + (1 : Int32))) 7 (gi ST 8) (0 : Int32)))) [11, 12, 0, 1, 2, 3, 4, 5, 6, 7, 8, 9, 10] rfl rfl
              refine lv_aload_n hx hb dX8_readTalker_142 rfl (lv_at hl 2 rfl) ?_
              refine va_get (D := (dC, dI)) (ci := 8) (v := .int (gi z13 7)) (C := RX8) (T := TX8) (N := 13) hx hb hts i_X8 hown hK hP 0 rfl rfl 7 (by decide) (hts _ wf_X8_33) (u_same (hts _ wq_X8_word)) rfl dX8_readTalker_143 ?_
              refine lv_bipush (v := (11 : Int32)) hx hb dX8_readTalker_146 (by decide) ?_
              refine lv_icmp_ne (tgt := 161) hx hb dX8_readTalker_148 (by decide) (fun hc => ?_) (fun hc => ?_)
              · have hf := tc_neg hc hf
                exact tX8_readTalker_161 X z SB z13 (sa (sa (sa (sA ST 10 ((17 : Int32) + (gi ST 8)) (gl z2.2 8)) 5 (gi ST 8) (gi z6.2 5)) 6 (gi ST 8) (z10.1 + (1 : Int32))) 7 (gi ST 8) (0 : Int32)) hf _ _ _ hP hD hS (lv_sub hl [2] rfl)
              · have hf := tc_pos hc hf
                refine lv_aload_n hx hb dX8_readTalker_151 rfl (lv_at hl 2 rfl) ?_
                refine lv_iload_n hx hb dX8_readTalker_152 rfl (lv_at hl 1 rfl) ?_
                obtain ⟨z14, hg, hf⟩ := tc_bi hf
                refine tc_iVs (As := [.int (gi ST 8)]) (rest := []) (b := qR 0) X hP hD hS (mX8_readFails hg) okX8_readFails wl_X8_139 wi_X8_readFails ws_X8_X8_readFails_X8_readFails ⟨rfl, rfl, Nat.le_of_ble_eq_true rfl, Nat.le_of_ble_eq_true rfl⟩ 8 0 rfl rfl rfl hl.1 (Nat.le_of_ble_eq_true rfl) dX8_readTalker_153 (fun H locs hP hD hS => ?_)
                refine lv_if_ne (tgt := 161) hx hb dX8_readTalker_156 (by decide) (fun hc => ?_) (fun hc => ?_)
                · have hf := tc_neg hc hf
                  exact tX8_readTalker_161 X z SB z14.2.1 z14.2.2 hf _ _ _ hP hD hS (lv_sub hl [2] rfl)
                · have hf := tc_pos hc hf
                  refine lv_iconst (v := (0 : Int32)) hx hb dX8_readTalker_159 (by decide) ?_
                  obtain rfl := Option.some.inj hf
                  exact tc_rz X hP hD hS rfl dX8_readTalker_160 (by decide) rfl rfl
            · have hf := tc_pos hc hf
              refine lv_iconst (v := (0 : Int32)) hx hb dX8_readTalker_114 (by decide) ?_
              obtain rfl := Option.some.inj hf
              exact tc_rz X hP hD hS rfl dX8_readTalker_115 (by decide) rfl rfl
          · have hf := tc_pos hc hf
            refine lv_iconst (v := (0 : Int32)) hx hb dX8_readTalker_98 (by decide) ?_
            obtain rfl := Option.some.inj hf
            exact tc_rz X hP hD hS rfl dX8_readTalker_99 (by decide) rfl rfl
        · have hf := tc_pos hc hf
          refine lv_iconst (v := (0 : Int32)) hx hb dX8_readTalker_70 (by decide) ?_
          obtain rfl := Option.some.inj hf
          exact tc_rz X hP hD hS rfl dX8_readTalker_71 (by decide) rfl rfl
    · have hf := tc_pos hc hf
      refine lv_iconst (v := (0 : Int32)) hx hb dX8_readTalker_32 (by decide) ?_
      obtain rfl := Option.some.inj hf
      exact tc_rz X hP hD hS rfl dX8_readTalker_33 (by decide) rfl rfl
  · have hf := tc_pos hc hf
    refine lv_aload_n hx hb dX8_readTalker_14 rfl (lv_at hl 1 rfl) ?_
    refine lv_bipush (v := (6 : Int32)) hx hb dX8_readTalker_15 (by decide) ?_
    obtain ⟨z15, hg, hf⟩ := tc_bi hf
    refine tc_iU (As := [.int ((6 : Int32))]) (rest := []) (b := qR 0) (wc := w8 ca qR (.ref (qB 0)) (.ref (qT 0)) SR) (wr := wLB ca qB SB ++ w7 ca qT ST) X hP hD hS (mX4_refuseHereT hg) okX4_refuseHere wl_X8_52 wu_X8_refuseHere rfl wi_X4_refuseHere ws_X8_xrefuseHere_X4_refuseHere ⟨rfl, rfl, Nat.le_of_ble_eq_true rfl, Nat.le_of_ble_eq_true rfl⟩ 8 0 rfl rfl [0] [1, 2, 3, 4, 5, 6, 7, 8, 9, 10, 11, 12] ⟨rfl, rfl, rfl, rfl, by decide⟩ rfl hl.1 (Nat.le_of_ble_eq_true rfl) dX8_readTalker_17 (fun H locs hP hD hS => ?_)
    have hP := hP.sub (ws' := (w8 ca qR (.ref (qB 0)) (.ref (qT 0)) z15.2 ++ wLB ca qB SB ++ w7 ca qT ST)) [12, 0, 1, 2, 3, 4, 5, 6, 7, 8, 9, 10, 11] rfl
    have hD := hD.sub (ws' := (w8 ca qR (.ref (qB 0)) (.ref (qT 0)) z15.2 ++ wLB ca qB SB ++ w7 ca qT ST)) [12, 0, 1, 2, 3, 4, 5, 6, 7, 8, 9, 10, 11] rfl rfl
    obtain ⟨hz1, hf⟩ := tc_ck hf
    obtain rfl := Option.some.inj hf
    exact tc_rz X hP hD hS rfl dX8_readTalker_20 hz1 rfl rfl
def fX8_readFeud_76  (SB : ms_T)  (SR : ms_T) (ST : ms_T) : Option (Int32 × ms_T × ms_T) :=
  (fX4_refuseHereT SR (5 : Int32)).bind fun z5 =>
  if z5.1 &&& 1 = z5.1 then
    some (z5.1, z5.2, ST)
  else none
def fX8_readFeud  (SR : ms_T) (SB : ms_T) (ST : ms_T)  : Option (Int32 × ms_T × ms_T) :=
  if (gi ST 13) = (10 : Int32) then
    (fX4_refuseHereT SR (6 : Int32)).bind fun z9 =>
    if z9.1 &&& 1 = z9.1 then
      some (z9.1, z9.2, ST)
    else none
  else
    (fX4_advanceT SR SB).bind fun z1 =>
    (fX4_talkerNamedT z1 ST).bind fun z2 =>
    if z2.1 = (-1 : Int32) then
      some ((0 : Int32), z2.2, ST)
    else
      (fX4_advanceT z2.2 SB).bind fun z3 =>
      (fX4_talkerNamedT z3 ST).bind fun z4 =>
      if z4.1 = (-1 : Int32) then
        some ((0 : Int32), z4.2, ST)
      else
        if z2.1 = z4.1 then
          fX8_readFeud_76 SB z4.2 ST
        else
          (fX7_isFeud ST z2.1 z4.1).bind fun z6 =>
          if z6 = 0 then
            (fX7_addFeud ST z2.1 z4.1).bind fun z7 =>
            (fX4_advanceT z4.2 SB).bind fun z8 =>
            some ((1 : Int32), z8, z7)
          else
            fX8_readFeud_76 SB z4.2 ST
abbrev rmX8_readFeud : Room := { frames := 10, cells := 0, slots := 0, locals := 445 }
theorem okX8_readFeud : tc_ok yX8_readFeud cX8_readFeud 3 (some .boolean) 0 := ⟨wc_X8_readFeud, wn_X8, by decide, by decide, by decide +kernel⟩
set_option maxRecDepth 20000 in
theorem tX8_readFeud_76 {qR : Nat → Nat} {qB : Nat → Nat} {qT : Nat → Nat}  (X : tc_X dC dI ca A RX8 cX8_readFeud 3 (some .boolean) p s m args meth c) (z : Int32 × ms_T × ms_T)  (SB : ms_T)   : ∀ (SR : ms_T) (ST : ms_T), fX8_readFeud_76 SB SR ST = some z → ∀ (H : Heap) (locs : List Loc) (ls : Array Slot), va_P (dC, dI) classes (w8 ca qR (.ref (qB 0)) (.ref (qT 0)) SR ++ wLB ca qB SB ++ w7 ca qT ST) H → va_D A (w8 ca qR (.ref (qB 0)) (.ref (qT 0)) SR ++ wLB ca qB SB ++ w7 ca qT ST) → va_S A s.heap H locs → lv_has ls 3 [(0, .ref (qR 0))] → W p l e rmX8_readFeud s m args below meth c H locs 0 0 (MQ below (tc_QI dC dI ca A (w8 ca qR (.ref (qB 0)) (.ref (qT 0)) z.2.1 ++ wLB ca qB SB ++ w7 ca qT z.2.2) (z.1)) args s 0 0 A) (F0 m 76 ls []) := by
  obtain ⟨hx, hb, hr, hml, hown, hts, hlk, hK, hA, hG⟩ := id X
  intro SR ST hf H locs ls hP hD hS hl
  unfold fX8_readFeud_76 at hf
  refine lv_aload_n hx hb dX8_readFeud_76 rfl (lv_at hl 0 rfl) ?_
  refine lv_iconst (v := (5 : Int32)) hx hb dX8_readFeud_77 (by decide) ?_
  obtain ⟨z5, hg, hf⟩ := tc_bi hf
  refine tc_iU (As := [.int ((5 : Int32))]) (rest := []) (b := qR 0) (wc := w8 ca qR (.ref (qB 0)) (.ref (qT 0)) SR) (wr := wLB ca qB SB ++ w7 ca qT ST) X hP hD hS (mX4_refuseHereT hg) okX4_refuseHere wl_X8_52 wu_X8_refuseHere rfl wi_X4_refuseHere ws_X8_xrefuseHere_X4_refuseHere ⟨rfl, rfl, Nat.le_of_ble_eq_true rfl, Nat.le_of_ble_eq_true rfl⟩ 8 0 rfl rfl [0] [1, 2, 3, 4, 5, 6, 7, 8, 9, 10, 11, 12] ⟨rfl, rfl, rfl, rfl, by decide⟩ rfl hl.1 (Nat.le_of_ble_eq_true rfl) dX8_readFeud_78 (fun H locs hP hD hS => ?_)
  have hP := hP.sub (ws' := (w8 ca qR (.ref (qB 0)) (.ref (qT 0)) z5.2 ++ wLB ca qB SB ++ w7 ca qT ST)) [12, 0, 1, 2, 3, 4, 5, 6, 7, 8, 9, 10, 11] rfl
  have hD := hD.sub (ws' := (w8 ca qR (.ref (qB 0)) (.ref (qT 0)) z5.2 ++ wLB ca qB SB ++ w7 ca qT ST)) [12, 0, 1, 2, 3, 4, 5, 6, 7, 8, 9, 10, 11] rfl rfl
  obtain ⟨hz1, hf⟩ := tc_ck hf
  obtain rfl := Option.some.inj hf
  exact tc_rz X hP hD hS rfl dX8_readFeud_81 hz1 rfl rfl
set_option maxRecDepth 20000 in
theorem mX8_readFeud {qR : Nat → Nat} {qB : Nat → Nat} {qT : Nat → Nat}  {SR : ms_T} {SB : ms_T} {ST : ms_T}  {z : Int32 × ms_T × ms_T}  (hf : fX8_readFeud SR SB ST = some z) : tc_MI l dC dI ca yX8_readFeud cX8_readFeud 3 (some .boolean) rmX8_readFeud [.ref (qR 0)] (w8 ca qR (.ref (qB 0)) (.ref (qT 0)) SR ++ wLB ca qB SB ++ w7 ca qT ST) (w8 ca qR (.ref (qB 0)) (.ref (qT 0)) z.2.1 ++ wLB ca qB SB ++ w7 ca qT z.2.2) (z.1) := by
  refine tc_metI (own := RX8) (by decide) rfl ?_ (Nat.le_of_ble_eq_true rfl)
  intro p e s m below meth c A X hP hD hS ls hl
  obtain ⟨hx, hb, hr, hml, hown, hts, hlk, hK, hA, hG⟩ := id X
  unfold fX8_readFeud at hf
  have hl : lv_has ls 3 [(0, .ref (qR 0))] := hl
  refine lv_aload_n hx hb dX8_readFeud_0 rfl (lv_at hl 0 rfl) ?_
  refine va_get (D := (dC, dI)) (ci := 8) (v := .ref (qT 0)) (C := RX8) (T := TX8) (N := 13) hx hb hts i_X8 hown hK hP 0 rfl rfl 11 (by decide) (hts _ wf_X8_9) (fun _ h9 => h9) rfl dX8_readFeud_1 ?_
  refine va_get (D := (dC, dI)) (ci := 7) (v := .int (gi ST 13)) (C := RX7) (T := TX7) (N := 18) hx hb hts i_X7 hown hK hP 2 rfl rfl 13 (by decide) (hts _ wf_X8_142) (fun _ h9 => h9) rfl dX8_readFeud_4 ?_
  refine lv_bipush (v := (10 : Int32)) hx hb dX8_readFeud_7 (by decide) ?_
  refine lv_icmp_ne (tgt := 19) hx hb dX8_readFeud_9 (by decide) (fun hc => ?_) (fun hc => ?_)
  · have hf := tc_neg hc hf
    refine lv_aload_n hx hb dX8_readFeud_19 rfl (lv_at hl 0 rfl) ?_
    obtain ⟨z1, hg, hf⟩ := tc_bi hf
    refine tc_vU (As := []) (rest := []) (b := qR 0) (wc := w8 ca qR (.ref (qB 0)) (.ref (qT 0)) SR ++ wLB ca qB SB) (wr := w7 ca qT ST) X hP hD hS (mX4_advanceT hg) okX4_advance wl_X8_59 wu_X8_advance rfl wi_X4_advance ws_X8_xadvance_X4_advance ⟨rfl, rfl, Nat.le_of_ble_eq_true rfl, Nat.le_of_ble_eq_true rfl⟩ 8 0 rfl rfl [0, 1] [2, 3, 4, 5, 6, 7, 8, 9, 10, 11, 12] ⟨rfl, rfl, rfl, rfl, by decide⟩ rfl hl.1 (Nat.le_of_ble_eq_true rfl) dX8_readFeud_20 (fun H locs hP hD hS => ?_)
    have hP := hP.sub (ws' := (w8 ca qR (.ref (qB 0)) (.ref (qT 0)) z1 ++ wLB ca qB SB ++ w7 ca qT ST)) [11, 12, 0, 1, 2, 3, 4, 5, 6, 7, 8, 9, 10] rfl
    have hD := hD.sub (ws' := (w8 ca qR (.ref (qB 0)) (.ref (qT 0)) z1 ++ wLB ca qB SB ++ w7 ca qT ST)) [11, 12, 0, 1, 2, 3, 4, 5, 6, 7, 8, 9, 10] rfl rfl
    refine lv_aload_n hx hb dX8_readFeud_23 rfl (lv_at hl 0 rfl) ?_
    refine lv_aload_n hx hb dX8_readFeud_24 rfl (lv_at hl 0 rfl) ?_
    refine va_get (D := (dC, dI)) (ci := 8) (v := .ref (qT 0)) (C := RX8) (T := TX8) (N := 13) hx hb hts i_X8 hown hK hP 0 rfl rfl 11 (by decide) (hts _ wf_X8_9) (fun _ h9 => h9) rfl dX8_readFeud_25 ?_
    obtain ⟨z2, hg, hf⟩ := tc_bi hf
    refine tc_iU (As := [.ref (qT 0)]) (rest := []) (b := qR 0) (wc := w8 ca qR (.ref (qB 0)) (.ref (qT 0)) z1 ++ w7 ca qT ST) (wr := wLB ca qB SB) X hP hD hS (mX4_talkerNamedT hg) okX4_talkerNamed wl_X8_145 wu_X8_talkerNamed rfl wi_X4_talkerNamed ws_X8_xtalkerNamed_X4_talkerNamed ⟨rfl, rfl, Nat.le_of_ble_eq_true rfl, Nat.le_of_ble_eq_true rfl⟩ 8 0 rfl rfl [0, 2, 3, 4, 5, 6, 7, 8, 9, 10, 11, 12] [1] ⟨rfl, rfl, rfl, rfl, by decide⟩ rfl hl.1 (Nat.le_of_ble_eq_true rfl) dX8_readFeud_28 (fun H locs hP hD hS => ?_)
    have hP := hP.sub (ws' := (w8 ca qR (.ref (qB 0)) (.ref (qT 0)) z2.2 ++ wLB ca qB SB ++ w7 ca qT ST)) [1, 0, 2, 3, 4, 5, 6, 7, 8, 9, 10, 11, 12] rfl
    have hD := hD.sub (ws' := (w8 ca qR (.ref (qB 0)) (.ref (qT 0)) z2.2 ++ wLB ca qB SB ++ w7 ca qT ST)) [1, 0, 2, 3, 4, 5, 6, 7, 8, 9, 10, 11, 12] rfl rfl
    refine lv_istore_n (lv' := [(1, .int (z2.1)), (0, .ref (qR 0))]) hx hb dX8_readFeud_31 rfl hl (by decide) rfl (fun ls hl => ?_)
    refine lv_iload_n hx hb dX8_readFeud_32 rfl (lv_at hl 0 rfl) ?_
    refine lv_iconst (v := (-1 : Int32)) hx hb dX8_readFeud_33 (by decide) ?_
    refine lv_icmp_ne (tgt := 39) hx hb dX8_readFeud_34 (by decide) (fun hc => ?_) (fun hc => ?_)
    · have hf := tc_neg hc hf
      refine lv_aload_n hx hb dX8_readFeud_39 rfl (lv_at hl 1 rfl) ?_
      obtain ⟨z3, hg, hf⟩ := tc_bi hf
      refine tc_vU (As := []) (rest := []) (b := qR 0) (wc := w8 ca qR (.ref (qB 0)) (.ref (qT 0)) z2.2 ++ wLB ca qB SB) (wr := w7 ca qT ST) X hP hD hS (mX4_advanceT hg) okX4_advance wl_X8_59 wu_X8_advance rfl wi_X4_advance ws_X8_xadvance_X4_advance ⟨rfl, rfl, Nat.le_of_ble_eq_true rfl, Nat.le_of_ble_eq_true rfl⟩ 8 0 rfl rfl [0, 1] [2, 3, 4, 5, 6, 7, 8, 9, 10, 11, 12] ⟨rfl, rfl, rfl, rfl, by decide⟩ rfl hl.1 (Nat.le_of_ble_eq_true rfl) dX8_readFeud_40 (fun H locs hP hD hS => ?_)
      have hP := hP.sub (ws' := (w8 ca qR (.ref (qB 0)) (.ref (qT 0)) z3 ++ wLB ca qB SB ++ w7 ca qT ST)) [11, 12, 0, 1, 2, 3, 4, 5, 6, 7, 8, 9, 10] rfl
      have hD := hD.sub (ws' := (w8 ca qR (.ref (qB 0)) (.ref (qT 0)) z3 ++ wLB ca qB SB ++ w7 ca qT ST)) [11, 12, 0, 1, 2, 3, 4, 5, 6, 7, 8, 9, 10] rfl rfl
      refine lv_aload_n hx hb dX8_readFeud_43 rfl (lv_at hl 1 rfl) ?_
      refine lv_aload_n hx hb dX8_readFeud_44 rfl (lv_at hl 1 rfl) ?_
      refine va_get (D := (dC, dI)) (ci := 8) (v := .ref (qT 0)) (C := RX8) (T := TX8) (N := 13) hx hb hts i_X8 hown hK hP 0 rfl rfl 11 (by decide) (hts _ wf_X8_9) (fun _ h9 => h9) rfl dX8_readFeud_45 ?_
      obtain ⟨z4, hg, hf⟩ := tc_bi hf
      refine tc_iU (As := [.ref (qT 0)]) (rest := []) (b := qR 0) (wc := w8 ca qR (.ref (qB 0)) (.ref (qT 0)) z3 ++ w7 ca qT ST) (wr := wLB ca qB SB) X hP hD hS (mX4_talkerNamedT hg) okX4_talkerNamed wl_X8_145 wu_X8_talkerNamed rfl wi_X4_talkerNamed ws_X8_xtalkerNamed_X4_talkerNamed ⟨rfl, rfl, Nat.le_of_ble_eq_true rfl, Nat.le_of_ble_eq_true rfl⟩ 8 0 rfl rfl [0, 2, 3, 4, 5, 6, 7, 8, 9, 10, 11, 12] [1] ⟨rfl, rfl, rfl, rfl, by decide⟩ rfl hl.1 (Nat.le_of_ble_eq_true rfl) dX8_readFeud_48 (fun H locs hP hD hS => ?_)
      have hP := hP.sub (ws' := (w8 ca qR (.ref (qB 0)) (.ref (qT 0)) z4.2 ++ wLB ca qB SB ++ w7 ca qT ST)) [1, 0, 2, 3, 4, 5, 6, 7, 8, 9, 10, 11, 12] rfl
      have hD := hD.sub (ws' := (w8 ca qR (.ref (qB 0)) (.ref (qT 0)) z4.2 ++ wLB ca qB SB ++ w7 ca qT ST)) [1, 0, 2, 3, 4, 5, 6, 7, 8, 9, 10, 11, 12] rfl rfl
      refine lv_istore_n (lv' := [(2, .int (z4.1)), (1, .int (z2.1)), (0, .ref (qR 0))]) hx hb dX8_readFeud_51 rfl hl (by decide) rfl (fun ls hl => ?_)
      refine lv_iload_n hx hb dX8_readFeud_52 rfl (lv_at hl 0 rfl) ?_
      refine lv_iconst (v := (-1 : Int32)) hx hb dX8_readFeud_53 (by decide) ?_
      refine lv_icmp_ne (tgt := 59) hx hb dX8_readFeud_54 (by decide) (fun hc => ?_) (fun hc => ?_)
      · have hf := tc_neg hc hf
        refine lv_iload_n hx hb dX8_readFeud_59 rfl (lv_at hl 1 rfl) ?_
        refine lv_iload_n hx hb dX8_readFeud_60 rfl (lv_at hl 0 rfl) ?_
        refine lv_icmp_eq (tgt := 76) hx hb dX8_readFeud_61 (by decide) (fun hc => ?_) (fun hc => ?_)
        · have hf := tc_pos hc hf
          exact tX8_readFeud_76 X z SB z4.2 ST hf _ _ _ hP hD hS (lv_sub hl [2] rfl)
        · have hf := tc_neg hc hf
          refine lv_aload_n hx hb dX8_readFeud_64 rfl (lv_at hl 2 rfl) ?_
          refine va_get (D := (dC, dI)) (ci := 8) (v := .ref (qT 0)) (C := RX8) (T := TX8) (N := 13) hx hb hts i_X8 hown hK hP 0 rfl rfl 11 (by decide) (hts _ wf_X8_9) (fun _ h9 => h9) rfl dX8_readFeud_65 ?_
          refine lv_iload_n hx hb dX8_readFeud_68 rfl (lv_at hl 1 rfl) ?_
          refine lv_iload_n hx hb dX8_readFeud_69 rfl (lv_at hl 0 rfl) ?_
          obtain ⟨z6, hg, hf⟩ := tc_bi hf
          refine tc_iV (As := [.int (z2.1), .int (z4.1)]) (rest := []) (b := qT 0) (wc := w7 ca qT ST) (wr := w8 ca qR (.ref (qB 0)) (.ref (qT 0)) z4.2 ++ wLB ca qB SB) X hP hD hS (mX7_isFeud hg) okX7_isFeud wl_X8_148 wi_X7_isFeud ws_X7_X7_isFeud_X7_isFeud ⟨rfl, rfl, Nat.le_of_ble_eq_true rfl, Nat.le_of_ble_eq_true rfl⟩ 7 0 rfl rfl [2, 3, 4, 5, 6, 7, 8, 9, 10, 11, 12] [0, 1] ⟨rfl, rfl, rfl, rfl, by decide⟩ rfl hl.1 (Nat.le_of_ble_eq_true rfl) dX8_readFeud_70 (fun H locs hP hD hS => ?_)
          have hP := hP.sub (ws' := (w8 ca qR (.ref (qB 0)) (.ref (qT 0)) z4.2 ++ wLB ca qB SB ++ w7 ca qT ST)) [0, 1, 2, 3, 4, 5, 6, 7, 8, 9, 10, 11, 12] rfl
          have hD := hD.sub (ws' := (w8 ca qR (.ref (qB 0)) (.ref (qT 0)) z4.2 ++ wLB ca qB SB ++ w7 ca qT ST)) [0, 1, 2, 3, 4, 5, 6, 7, 8, 9, 10, 11, 12] rfl rfl
          refine lv_if_eq (tgt := 82) hx hb dX8_readFeud_73 (by decide) (fun hc => ?_) (fun hc => ?_)
          · have hf := tc_pos hc hf
            refine lv_aload_n hx hb dX8_readFeud_82 rfl (lv_at hl 2 rfl) ?_
            refine va_get (D := (dC, dI)) (ci := 8) (v := .ref (qT 0)) (C := RX8) (T := TX8) (N := 13) hx hb hts i_X8 hown hK hP 0 rfl rfl 11 (by decide) (hts _ wf_X8_9) (fun _ h9 => h9) rfl dX8_readFeud_83 ?_
            refine lv_iload_n hx hb dX8_readFeud_86 rfl (lv_at hl 1 rfl) ?_
            refine lv_iload_n hx hb dX8_readFeud_87 rfl (lv_at hl 0 rfl) ?_
            obtain ⟨z7, hg, hf⟩ := tc_bi hf
            refine tc_vV (As := [.int (z2.1), .int (z4.1)]) (rest := []) (b := qT 0) (wc := w7 ca qT ST) (wr := w8 ca qR (.ref (qB 0)) (.ref (qT 0)) z4.2 ++ wLB ca qB SB) X hP hD hS (mX7_addFeud hg) okX7_addFeud wl_X8_151 wi_X7_addFeud ws_X7_X7_addFeud_X7_addFeud ⟨rfl, rfl, Nat.le_of_ble_eq_true rfl, Nat.le_of_ble_eq_true rfl⟩ 7 0 rfl rfl [2, 3, 4, 5, 6, 7, 8, 9, 10, 11, 12] [0, 1] ⟨rfl, rfl, rfl, rfl, by decide⟩ rfl hl.1 (Nat.le_of_ble_eq_true rfl) dX8_readFeud_88 (fun H locs hP hD hS => ?_)
            have hP := hP.sub (ws' := (w8 ca qR (.ref (qB 0)) (.ref (qT 0)) z4.2 ++ wLB ca qB SB ++ w7 ca qT z7)) [0, 1, 2, 3, 4, 5, 6, 7, 8, 9, 10, 11, 12] rfl
            have hD := hD.sub (ws' := (w8 ca qR (.ref (qB 0)) (.ref (qT 0)) z4.2 ++ wLB ca qB SB ++ w7 ca qT z7)) [0, 1, 2, 3, 4, 5, 6, 7, 8, 9, 10, 11, 12] rfl rfl
            refine lv_aload_n hx hb dX8_readFeud_91 rfl (lv_at hl 2 rfl) ?_
            obtain ⟨z8, hg, hf⟩ := tc_bi hf
            refine tc_vU (As := []) (rest := []) (b := qR 0) (wc := w8 ca qR (.ref (qB 0)) (.ref (qT 0)) z4.2 ++ wLB ca qB SB) (wr := w7 ca qT z7) X hP hD hS (mX4_advanceT hg) okX4_advance wl_X8_59 wu_X8_advance rfl wi_X4_advance ws_X8_xadvance_X4_advance ⟨rfl, rfl, Nat.le_of_ble_eq_true rfl, Nat.le_of_ble_eq_true rfl⟩ 8 0 rfl rfl [0, 1] [2, 3, 4, 5, 6, 7, 8, 9, 10, 11, 12] ⟨rfl, rfl, rfl, rfl, by decide⟩ rfl hl.1 (Nat.le_of_ble_eq_true rfl) dX8_readFeud_92 (fun H locs hP hD hS => ?_)
            have hP := hP.sub (ws' := (w8 ca qR (.ref (qB 0)) (.ref (qT 0)) z8 ++ wLB ca qB SB ++ w7 ca qT z7)) [11, 12, 0, 1, 2, 3, 4, 5, 6, 7, 8, 9, 10] rfl
            have hD := hD.sub (ws' := (w8 ca qR (.ref (qB 0)) (.ref (qT 0)) z8 ++ wLB ca qB SB ++ w7 ca qT z7)) [11, 12, 0, 1, 2, 3, 4, 5, 6, 7, 8, 9, 10] rfl rfl
            refine lv_iconst (v := (1 : Int32)) hx hb dX8_readFeud_95 (by decide) ?_
            obtain rfl := Option.some.inj hf
            exact tc_rz X hP hD hS rfl dX8_readFeud_96 (by decide) rfl rfl
          · have hf := tc_neg hc hf
            exact tX8_readFeud_76 X z SB z4.2 ST hf _ _ _ hP hD hS (lv_sub hl [2] rfl)
      · have hf := tc_pos hc hf
        refine lv_iconst (v := (0 : Int32)) hx hb dX8_readFeud_57 (by decide) ?_
        obtain rfl := Option.some.inj hf
        exact tc_rz X hP hD hS rfl dX8_readFeud_58 (by decide) rfl rfl
    · have hf := tc_pos hc hf
      refine lv_iconst (v := (0 : Int32)) hx hb dX8_readFeud_37 (by decide) ?_
      obtain rfl := Option.some.inj hf
      exact tc_rz X hP hD hS rfl dX8_readFeud_38 (by decide) rfl rfl
  · have hf := tc_pos hc hf
    refine lv_aload_n hx hb dX8_readFeud_12 rfl (lv_at hl 0 rfl) ?_
    refine lv_bipush (v := (6 : Int32)) hx hb dX8_readFeud_13 (by decide) ?_
    obtain ⟨z9, hg, hf⟩ := tc_bi hf
    refine tc_iU (As := [.int ((6 : Int32))]) (rest := []) (b := qR 0) (wc := w8 ca qR (.ref (qB 0)) (.ref (qT 0)) SR) (wr := wLB ca qB SB ++ w7 ca qT ST) X hP hD hS (mX4_refuseHereT hg) okX4_refuseHere wl_X8_52 wu_X8_refuseHere rfl wi_X4_refuseHere ws_X8_xrefuseHere_X4_refuseHere ⟨rfl, rfl, Nat.le_of_ble_eq_true rfl, Nat.le_of_ble_eq_true rfl⟩ 8 0 rfl rfl [0] [1, 2, 3, 4, 5, 6, 7, 8, 9, 10, 11, 12] ⟨rfl, rfl, rfl, rfl, by decide⟩ rfl hl.1 (Nat.le_of_ble_eq_true rfl) dX8_readFeud_15 (fun H locs hP hD hS => ?_)
    have hP := hP.sub (ws' := (w8 ca qR (.ref (qB 0)) (.ref (qT 0)) z9.2 ++ wLB ca qB SB ++ w7 ca qT ST)) [12, 0, 1, 2, 3, 4, 5, 6, 7, 8, 9, 10, 11] rfl
    have hD := hD.sub (ws' := (w8 ca qR (.ref (qB 0)) (.ref (qT 0)) z9.2 ++ wLB ca qB SB ++ w7 ca qT ST)) [12, 0, 1, 2, 3, 4, 5, 6, 7, 8, 9, 10, 11] rfl rfl
    obtain ⟨hz1, hf⟩ := tc_ck hf
    obtain rfl := Option.some.inj hf
    exact tc_rz X hP hD hS rfl dX8_readFeud_18 hz1 rfl rfl
theorem pw8_B_7_0_11 (ca : Nat → ClassId) (q0 q1 q2 : Nat → Nat) (r0_0 r0_11 : Value) (S0 S1 S2 : ms_T) (v : Value) : (w8 ca q0 r0_0 r0_11 S0 ++ wLB ca q1 S1 ++ w7 ca q2 S2 : va_W).set 0 (q0 0, .inr (8, List.set (r0_0 :: .int (gi S0 1) :: .int (gi S0 2) :: .int (gi S0 3) :: .int (gi S0 4) :: .int (gi S0 5) :: .int (gi S0 6) :: .int (gi S0 7) :: .long (gl S0 8) :: .int (gi S0 9) :: .int (gi S0 10) :: r0_11 :: .int (gi S0 12) :: []) 11 (v))) = w8 ca q0 r0_0 v S0 ++ wLB ca q1 S1 ++ w7 ca q2 S2 := rfl
def fX8_readTable_160  (SB : ms_T) (k24 : ms_T → ms_T → Int32 → Option (Int32 × ms_T × ms_T)) (SR : ms_T) (ST : ms_T) (v3 : Int32) (v4 : Int32) : Option (Int32 × ms_T × ms_T) :=
  if v4 = 0 then
    some ((0 : Int32), SR, ST)
  else
    (fX4_passSemicolonT SR SB).bind fun z4 =>
    if z4.1 = 0 then
      some ((0 : Int32), z4.2, ST)
    else
      k24 z4.2 ST (v3 + (1 : Int32))
def fX8_readTable_153  (SB : ms_T) (k24 : ms_T → ms_T → Int32 → Option (Int32 × ms_T × ms_T)) (SR : ms_T) (ST : ms_T) (v3 : Int32) : Option (Int32 × ms_T × ms_T) :=
  (fX4_refuseHereT SR (2 : Int32)).bind fun z3 =>
  fX8_readTable_160 SB k24 z3.2 ST v3 z3.1
def fX8_readTable_24  (SB : ms_T)  : Nat → ms_T → ms_T → Int32 → Option (Int32 × ms_T × ms_T)
  | 0, _, _, _ => none
  | n + 1, SR, ST, v3 =>
    if (900 : Int32) < v3 then
      some ((1 : Int32), SR, ST)
    else
      if (gi SR 4) = 0 then
        some ((1 : Int32), SR, ST)
      else
        if (gi SR 7) = (0 : Int32) then
          (fX8_readOdds SR SB ST).bind fun z5 =>
          fX8_readTable_160 SB (fX8_readTable_24 SB n) z5.2.1 z5.2.2 v3 z5.1
        else
          if (gi SR 7) = (1 : Int32) then
            (fX8_readTopic SR SB ST).bind fun z6 =>
            fX8_readTable_160 SB (fX8_readTable_24 SB n) z6.2.1 z6.2.2 v3 z6.1
          else
            if (gi SR 7) = (2 : Int32) then
              fX8_readTable_153 SB (fX8_readTable_24 SB n) SR ST v3
            else
              if (gi SR 7) = (3 : Int32) then
                fX8_readTable_153 SB (fX8_readTable_24 SB n) SR ST v3
              else
                if (gi SR 7) = (4 : Int32) then
                  (fX8_readClaim SR SB ST).bind fun z7 =>
                  fX8_readTable_160 SB (fX8_readTable_24 SB n) z7.2.1 z7.2.2 v3 z7.1
                else
                  if (gi SR 7) = (5 : Int32) then
                    fX8_readTable_153 SB (fX8_readTable_24 SB n) SR ST v3
                  else
                    if (gi SR 7) = (6 : Int32) then
                      fX8_readTable_153 SB (fX8_readTable_24 SB n) SR ST v3
                    else
                      if (gi SR 7) = (7 : Int32) then
                        fX8_readTable_153 SB (fX8_readTable_24 SB n) SR ST v3
                      else
                        if (gi SR 7) = (8 : Int32) then
                          (fX8_readTalker SR SB ST).bind fun z8 =>
                          fX8_readTable_160 SB (fX8_readTable_24 SB n) z8.2.1 z8.2.2 v3 z8.1
                        else
                          if (gi SR 7) = (9 : Int32) then
                            fX8_readTable_153 SB (fX8_readTable_24 SB n) SR ST v3
                          else
                            if (gi SR 7) = (10 : Int32) then
                              fX8_readTable_153 SB (fX8_readTable_24 SB n) SR ST v3
                            else
                              if (gi SR 7) = (11 : Int32) then
                                fX8_readTable_153 SB (fX8_readTable_24 SB n) SR ST v3
                              else
                                if (gi SR 7) = (12 : Int32) then
                                  (fX8_readFeud SR SB ST).bind fun z9 =>
                                  fX8_readTable_160 SB (fX8_readTable_24 SB n) z9.2.1 z9.2.2 v3 z9.1
                                else
                                  fX8_readTable_153 SB (fX8_readTable_24 SB n) SR ST v3
def fX8_readTable  (SR : ms_T) (SB : ms_T) (ST : ms_T) (a1 : Int32) : Option (Int32 × ms_T × ms_T) :=
  (fX7_clear ST).bind fun z1 =>
  (fX4_beginT (si SR 12 (0 : Int32)) SB a1).bind fun z2 =>
  fX8_readTable_24 SB FU z2 z1 (0 : Int32)
abbrev rmX8_readTable : Room := { frames := 12, cells := 0, slots := 0, locals := 493 }
theorem okX8_readTable : tc_ok yX8_readTable cX8_readTable 5 (some .boolean) 2 := ⟨wc_X8_readTable, wn_X8, by decide, by decide, by decide +kernel⟩
set_option maxRecDepth 20000 in
theorem tX8_readTable_160 {qR : Nat → Nat} {qB : Nat → Nat} {qT : Nat → Nat}  (X : tc_X dC dI ca A RX8 cX8_readTable 5 (some .boolean) p s m args meth c) (z : Int32 × ms_T × ms_T)  (SB : ms_T) (k24 : ms_T → ms_T → Int32 → Option (Int32 × ms_T × ms_T)) (hk24 : ∀ (SR : ms_T) (ST : ms_T) (v3 : Int32), k24 SR ST v3 = some z → ∀ (H : Heap) (locs : List Loc) (ls : Array Slot), va_P (dC, dI) classes (w8 ca qR (.ref (qB 0)) (.ref (qT 0)) SR ++ wLB ca qB SB ++ w7 ca qT ST) H → va_D A (w8 ca qR (.ref (qB 0)) (.ref (qT 0)) SR ++ wLB ca qB SB ++ w7 ca qT ST) → va_S A s.heap H locs → lv_has ls 5 [(0, .ref (qR 0)), (3, .int (v3))] → W p l e rmX8_readTable s m args below meth c H locs 0 0 (MQ below (tc_QI dC dI ca A (w8 ca qR (.ref (qB 0)) (.ref (qT 0)) z.2.1 ++ wLB ca qB SB ++ w7 ca qT z.2.2) (z.1)) args s 0 0 A) (F0 m 24 ls [])) : ∀ (SR : ms_T) (ST : ms_T) (v3 : Int32) (v4 : Int32), fX8_readTable_160 SB k24 SR ST v3 v4 = some z → ∀ (H : Heap) (locs : List Loc) (ls : Array Slot), va_P (dC, dI) classes (w8 ca qR (.ref (qB 0)) (.ref (qT 0)) SR ++ wLB ca qB SB ++ w7 ca qT ST) H → va_D A (w8 ca qR (.ref (qB 0)) (.ref (qT 0)) SR ++ wLB ca qB SB ++ w7 ca qT ST) → va_S A s.heap H locs → lv_has ls 5 [(0, .ref (qR 0)), (3, .int (v3)), (4, .int (v4))] → W p l e rmX8_readTable s m args below meth c H locs 0 0 (MQ below (tc_QI dC dI ca A (w8 ca qR (.ref (qB 0)) (.ref (qT 0)) z.2.1 ++ wLB ca qB SB ++ w7 ca qT z.2.2) (z.1)) args s 0 0 A) (F0 m 160 ls []) := by
  obtain ⟨hx, hb, hr, hml, hown, hts, hlk, hK, hA, hG⟩ := id X
  intro SR ST v3 v4 hf H locs ls hP hD hS hl
  unfold fX8_readTable_160 at hf
  refine lv_iload hx hb dX8_readTable_160 (lv_at hl 2 rfl) ?_
  refine lv_if_eq (tgt := 172) hx hb dX8_readTable_162 (by decide) (fun hc => ?_) (fun hc => ?_)
  · have hf := tc_pos hc hf
    refine lv_iconst (v := (0 : Int32)) hx hb dX8_readTable_172 (by decide) ?_
    obtain rfl := Option.some.inj hf
    exact tc_rz X hP hD hS rfl dX8_readTable_173 (by decide) rfl rfl
  · have hf := tc_neg hc hf
    refine lv_aload_n hx hb dX8_readTable_165 rfl (lv_at hl 0 rfl) ?_
    obtain ⟨z4, hg, hf⟩ := tc_bi hf
    refine tc_iU (As := []) (rest := []) (b := qR 0) (wc := w8 ca qR (.ref (qB 0)) (.ref (qT 0)) SR ++ wLB ca qB SB) (wr := w7 ca qT ST) X hP hD hS (mX4_passSemicolonT hg) okX4_passSemicolon wl_X8_56 wu_X8_passSemicolon rfl wi_X4_passSemicolon ws_X8_xpassSemicolon_X4_passSemicolon ⟨rfl, rfl, Nat.le_of_ble_eq_true rfl, Nat.le_of_ble_eq_true rfl⟩ 8 0 rfl rfl [0, 1] [2, 3, 4, 5, 6, 7, 8, 9, 10, 11, 12] ⟨rfl, rfl, rfl, rfl, by decide⟩ rfl hl.1 (Nat.le_of_ble_eq_true rfl) dX8_readTable_166 (fun H locs hP hD hS => ?_)
    have hP := hP.sub (ws' := (w8 ca qR (.ref (qB 0)) (.ref (qT 0)) z4.2 ++ wLB ca qB SB ++ w7 ca qT ST)) [11, 12, 0, 1, 2, 3, 4, 5, 6, 7, 8, 9, 10] rfl
    have hD := hD.sub (ws' := (w8 ca qR (.ref (qB 0)) (.ref (qT 0)) z4.2 ++ wLB ca qB SB ++ w7 ca qT ST)) [11, 12, 0, 1, 2, 3, 4, 5, 6, 7, 8, 9, 10] rfl rfl
    refine lv_if_ne (tgt := 174) hx hb dX8_readTable_169 (by decide) (fun hc => ?_) (fun hc => ?_)
    · have hf := tc_neg hc hf
      refine lv_iinc (v := v3 + (1 : Int32)) (lv' := [(3, .int (v3 + (1 : Int32))), (0, .ref (qR 0)), (4, .int (v4))]) hx hb dX8_readTable_174 hl (k := 1) rfl rfl (by decide) rfl (fun ls hl => ?_)
      refine lv_goto (tgt := 24) hx hb dX8_readTable_177 (by decide) ?_
      exact hk24 z4.2 ST (v3 + (1 : Int32)) hf _ _ _ hP hD hS (lv_sub hl [1, 0] rfl)
    · have hf := tc_pos hc hf
      refine lv_iconst (v := (0 : Int32)) hx hb dX8_readTable_172 (by decide) ?_
      obtain rfl := Option.some.inj hf
      exact tc_rz X hP hD hS rfl dX8_readTable_173 (by decide) rfl rfl
set_option maxRecDepth 20000 in
theorem tX8_readTable_153 {qR : Nat → Nat} {qB : Nat → Nat} {qT : Nat → Nat}  (X : tc_X dC dI ca A RX8 cX8_readTable 5 (some .boolean) p s m args meth c) (z : Int32 × ms_T × ms_T)  (SB : ms_T) (k24 : ms_T → ms_T → Int32 → Option (Int32 × ms_T × ms_T)) (hk24 : ∀ (SR : ms_T) (ST : ms_T) (v3 : Int32), k24 SR ST v3 = some z → ∀ (H : Heap) (locs : List Loc) (ls : Array Slot), va_P (dC, dI) classes (w8 ca qR (.ref (qB 0)) (.ref (qT 0)) SR ++ wLB ca qB SB ++ w7 ca qT ST) H → va_D A (w8 ca qR (.ref (qB 0)) (.ref (qT 0)) SR ++ wLB ca qB SB ++ w7 ca qT ST) → va_S A s.heap H locs → lv_has ls 5 [(0, .ref (qR 0)), (3, .int (v3))] → W p l e rmX8_readTable s m args below meth c H locs 0 0 (MQ below (tc_QI dC dI ca A (w8 ca qR (.ref (qB 0)) (.ref (qT 0)) z.2.1 ++ wLB ca qB SB ++ w7 ca qT z.2.2) (z.1)) args s 0 0 A) (F0 m 24 ls [])) : ∀ (SR : ms_T) (ST : ms_T) (v3 : Int32), fX8_readTable_153 SB k24 SR ST v3 = some z → ∀ (H : Heap) (locs : List Loc) (ls : Array Slot), va_P (dC, dI) classes (w8 ca qR (.ref (qB 0)) (.ref (qT 0)) SR ++ wLB ca qB SB ++ w7 ca qT ST) H → va_D A (w8 ca qR (.ref (qB 0)) (.ref (qT 0)) SR ++ wLB ca qB SB ++ w7 ca qT ST) → va_S A s.heap H locs → lv_has ls 5 [(0, .ref (qR 0)), (3, .int (v3))] → W p l e rmX8_readTable s m args below meth c H locs 0 0 (MQ below (tc_QI dC dI ca A (w8 ca qR (.ref (qB 0)) (.ref (qT 0)) z.2.1 ++ wLB ca qB SB ++ w7 ca qT z.2.2) (z.1)) args s 0 0 A) (F0 m 153 ls []) := by
  obtain ⟨hx, hb, hr, hml, hown, hts, hlk, hK, hA, hG⟩ := id X
  intro SR ST v3 hf H locs ls hP hD hS hl
  unfold fX8_readTable_153 at hf
  refine lv_aload_n hx hb dX8_readTable_153 rfl (lv_at hl 0 rfl) ?_
  refine lv_iconst (v := (2 : Int32)) hx hb dX8_readTable_154 (by decide) ?_
  obtain ⟨z3, hg, hf⟩ := tc_bi hf
  refine tc_iU (As := [.int ((2 : Int32))]) (rest := []) (b := qR 0) (wc := w8 ca qR (.ref (qB 0)) (.ref (qT 0)) SR) (wr := wLB ca qB SB ++ w7 ca qT ST) X hP hD hS (mX4_refuseHereT hg) okX4_refuseHere wl_X8_52 wu_X8_refuseHere rfl wi_X4_refuseHere ws_X8_xrefuseHere_X4_refuseHere ⟨rfl, rfl, Nat.le_of_ble_eq_true rfl, Nat.le_of_ble_eq_true rfl⟩ 8 0 rfl rfl [0] [1, 2, 3, 4, 5, 6, 7, 8, 9, 10, 11, 12] ⟨rfl, rfl, rfl, rfl, by decide⟩ rfl hl.1 (Nat.le_of_ble_eq_true rfl) dX8_readTable_155 (fun H locs hP hD hS => ?_)
  have hP := hP.sub (ws' := (w8 ca qR (.ref (qB 0)) (.ref (qT 0)) z3.2 ++ wLB ca qB SB ++ w7 ca qT ST)) [12, 0, 1, 2, 3, 4, 5, 6, 7, 8, 9, 10, 11] rfl
  have hD := hD.sub (ws' := (w8 ca qR (.ref (qB 0)) (.ref (qT 0)) z3.2 ++ wLB ca qB SB ++ w7 ca qT ST)) [12, 0, 1, 2, 3, 4, 5, 6, 7, 8, 9, 10, 11] rfl rfl
  refine lv_istore (lv' := [(4, .int (z3.1)), (0, .ref (qR 0)), (3, .int (v3))]) hx hb dX8_readTable_158 hl (by decide) rfl (fun ls hl => ?_)
  exact tX8_readTable_160 X z SB k24 hk24 z3.2 ST v3 z3.1 hf _ _ _ hP hD hS (lv_sub hl [1, 2, 0] rfl)
set_option maxRecDepth 20000 in
theorem tX8_readTable_24 {qR : Nat → Nat} {qB : Nat → Nat} {qT : Nat → Nat}  (X : tc_X dC dI ca A RX8 cX8_readTable 5 (some .boolean) p s m args meth c) (z : Int32 × ms_T × ms_T)  (SB : ms_T)   : ∀ n : Nat, ∀ (SR : ms_T) (ST : ms_T) (v3 : Int32), fX8_readTable_24 SB n SR ST v3 = some z → ∀ (H : Heap) (locs : List Loc) (ls : Array Slot), va_P (dC, dI) classes (w8 ca qR (.ref (qB 0)) (.ref (qT 0)) SR ++ wLB ca qB SB ++ w7 ca qT ST) H → va_D A (w8 ca qR (.ref (qB 0)) (.ref (qT 0)) SR ++ wLB ca qB SB ++ w7 ca qT ST) → va_S A s.heap H locs → lv_has ls 5 [(0, .ref (qR 0)), (3, .int (v3))] → W p l e rmX8_readTable s m args below meth c H locs 0 0 (MQ below (tc_QI dC dI ca A (w8 ca qR (.ref (qB 0)) (.ref (qT 0)) z.2.1 ++ wLB ca qB SB ++ w7 ca qT z.2.2) (z.1)) args s 0 0 A) (F0 m 24 ls []) := by
  obtain ⟨hx, hb, hr, hml, hown, hts, hlk, hK, hA, hG⟩ := id X
  intro n
  induction n with
  | zero => intro SR ST v3 hf; exact absurd (show none = some z from hf) (fun h => by cases h)
  | succ n ih =>
    intro SR ST v3 hf H locs ls hP hD hS hl
    rw [fX8_readTable_24] at hf
    refine lv_iload_n hx hb dX8_readTable_24 rfl (lv_at hl 1 rfl) ?_
    refine lv_sipush (v := (900 : Int32)) hx hb dX8_readTable_25 (by decide) ?_
    refine lv_icmp_gt (tgt := 180) hx hb dX8_readTable_28 (by decide) (fun hc => ?_) (fun hc => ?_)
    · have hf := tc_pos hc hf
      refine lv_iconst (v := (1 : Int32)) hx hb dX8_readTable_180 (by decide) ?_
      obtain rfl := Option.some.inj hf
      exact tc_rz X hP hD hS rfl dX8_readTable_181 (by decide) rfl rfl
    · have hf := tc_neg hc hf
      refine lv_aload_n hx hb dX8_readTable_31 rfl (lv_at hl 0 rfl) ?_
      refine va_get (D := (dC, dI)) (ci := 8) (v := .int (gi SR 4)) (C := RX8) (T := TX8) (N := 13) hx hb hts i_X8 hown hK hP 0 rfl rfl 4 (by decide) (hts _ wf_X8_29) (u_same (hts _ wq_X8_kind)) rfl dX8_readTable_32 ?_
      refine lv_if_eq (tgt := 180) hx hb dX8_readTable_35 (by decide) (fun hc => ?_) (fun hc => ?_)
      · have hf := tc_pos hc hf
        refine lv_iconst (v := (1 : Int32)) hx hb dX8_readTable_180 (by decide) ?_
        obtain rfl := Option.some.inj hf
        exact tc_rz X hP hD hS rfl dX8_readTable_181 (by decide) rfl rfl
      · have hf := tc_neg hc hf
        refine lv_aload_n hx hb dX8_readTable_38 rfl (lv_at hl 0 rfl) ?_
        refine va_get (D := (dC, dI)) (ci := 8) (v := .int (gi SR 7)) (C := RX8) (T := TX8) (N := 13) hx hb hts i_X8 hown hK hP 0 rfl rfl 7 (by decide) (hts _ wf_X8_33) (u_same (hts _ wq_X8_word)) rfl dX8_readTable_39 ?_
        by_cases hn0 : (gi SR 7) = (0 : Int32)
        · have hf := tc_pos hn0 hf
          refine lv_tableIn (off := 66) (tgt := 108) hx hb dX8_readTable_42 (tc_sw (P := fun y => ¬ y.toInt < 0) hn0 (by decide)) (tc_sw (P := fun y => ¬ 12 < y.toInt) hn0 (by decide)) (tc_sw (P := fun y => (#[66, 75, 111, 111, 84, 111, 111, 111, 93, 111, 111, 111, 102] : Array Int)[(y.toInt - 0).toNat]? = some 66) hn0 (by decide)) (by decide) ?_
          refine lv_aload_n hx hb dX8_readTable_108 rfl (lv_at hl 0 rfl) ?_
          obtain ⟨z5, hg, hf⟩ := tc_bi hf
          refine tc_iVs (As := []) (rest := []) (b := qR 0) X hP hD hS (mX8_readOdds hg) okX8_readOdds wl_X8_36 wi_X8_readOdds ws_X8_X8_readOdds_X8_readOdds ⟨rfl, rfl, Nat.le_of_ble_eq_true rfl, Nat.le_of_ble_eq_true rfl⟩ 8 0 rfl rfl rfl hl.1 (Nat.le_of_ble_eq_true rfl) dX8_readTable_109 (fun H locs hP hD hS => ?_)
          refine lv_istore (lv' := [(4, .int (z5.1)), (0, .ref (qR 0)), (3, .int (v3))]) hx hb dX8_readTable_112 hl (by decide) rfl (fun ls hl => ?_)
          refine lv_goto (tgt := 160) hx hb dX8_readTable_114 (by decide) ?_
          exact tX8_readTable_160 X z SB (fX8_readTable_24 SB n) ih z5.2.1 z5.2.2 v3 z5.1 hf _ _ _ hP hD hS (lv_sub hl [1, 2, 0] rfl)
        · have hf := tc_neg hn0 hf
          by_cases hn1 : (gi SR 7) = (1 : Int32)
          · have hf := tc_pos hn1 hf
            refine lv_tableIn (off := 75) (tgt := 117) hx hb dX8_readTable_42 (tc_sw (P := fun y => ¬ y.toInt < 0) hn1 (by decide)) (tc_sw (P := fun y => ¬ 12 < y.toInt) hn1 (by decide)) (tc_sw (P := fun y => (#[66, 75, 111, 111, 84, 111, 111, 111, 93, 111, 111, 111, 102] : Array Int)[(y.toInt - 0).toNat]? = some 75) hn1 (by decide)) (by decide) ?_
            refine lv_aload_n hx hb dX8_readTable_117 rfl (lv_at hl 0 rfl) ?_
            obtain ⟨z6, hg, hf⟩ := tc_bi hf
            refine tc_iVs (As := []) (rest := []) (b := qR 0) X hP hD hS (mX8_readTopic hg) okX8_readTopic wl_X8_40 wi_X8_readTopic ws_X8_X8_readTopic_X8_readTopic ⟨rfl, rfl, Nat.le_of_ble_eq_true rfl, Nat.le_of_ble_eq_true rfl⟩ 8 0 rfl rfl rfl hl.1 (Nat.le_of_ble_eq_true rfl) dX8_readTable_118 (fun H locs hP hD hS => ?_)
            refine lv_istore (lv' := [(4, .int (z6.1)), (0, .ref (qR 0)), (3, .int (v3))]) hx hb dX8_readTable_121 hl (by decide) rfl (fun ls hl => ?_)
            refine lv_goto (tgt := 160) hx hb dX8_readTable_123 (by decide) ?_
            exact tX8_readTable_160 X z SB (fX8_readTable_24 SB n) ih z6.2.1 z6.2.2 v3 z6.1 hf _ _ _ hP hD hS (lv_sub hl [1, 2, 0] rfl)
          · have hf := tc_neg hn1 hf
            by_cases hn2 : (gi SR 7) = (2 : Int32)
            · have hf := tc_pos hn2 hf
              refine lv_tableIn (off := 111) (tgt := 153) hx hb dX8_readTable_42 (tc_sw (P := fun y => ¬ y.toInt < 0) hn2 (by decide)) (tc_sw (P := fun y => ¬ 12 < y.toInt) hn2 (by decide)) (tc_sw (P := fun y => (#[66, 75, 111, 111, 84, 111, 111, 111, 93, 111, 111, 111, 102] : Array Int)[(y.toInt - 0).toNat]? = some 111) hn2 (by decide)) (by decide) ?_
              exact tX8_readTable_153 X z SB (fX8_readTable_24 SB n) ih SR ST v3 hf _ _ _ hP hD hS (lv_sub hl [0, 1] rfl)
            · have hf := tc_neg hn2 hf
              by_cases hn3 : (gi SR 7) = (3 : Int32)
              · have hf := tc_pos hn3 hf
                refine lv_tableIn (off := 111) (tgt := 153) hx hb dX8_readTable_42 (tc_sw (P := fun y => ¬ y.toInt < 0) hn3 (by decide)) (tc_sw (P := fun y => ¬ 12 < y.toInt) hn3 (by decide)) (tc_sw (P := fun y => (#[66, 75, 111, 111, 84, 111, 111, 111, 93, 111, 111, 111, 102] : Array Int)[(y.toInt - 0).toNat]? = some 111) hn3 (by decide)) (by decide) ?_
                exact tX8_readTable_153 X z SB (fX8_readTable_24 SB n) ih SR ST v3 hf _ _ _ hP hD hS (lv_sub hl [0, 1] rfl)
              · have hf := tc_neg hn3 hf
                by_cases hn4 : (gi SR 7) = (4 : Int32)
                · have hf := tc_pos hn4 hf
                  refine lv_tableIn (off := 84) (tgt := 126) hx hb dX8_readTable_42 (tc_sw (P := fun y => ¬ y.toInt < 0) hn4 (by decide)) (tc_sw (P := fun y => ¬ 12 < y.toInt) hn4 (by decide)) (tc_sw (P := fun y => (#[66, 75, 111, 111, 84, 111, 111, 111, 93, 111, 111, 111, 102] : Array Int)[(y.toInt - 0).toNat]? = some 84) hn4 (by decide)) (by decide) ?_
                  refine lv_aload_n hx hb dX8_readTable_126 rfl (lv_at hl 0 rfl) ?_
                  obtain ⟨z7, hg, hf⟩ := tc_bi hf
                  refine tc_iVs (As := []) (rest := []) (b := qR 0) X hP hD hS (mX8_readClaim hg) okX8_readClaim wl_X8_43 wi_X8_readClaim ws_X8_X8_readClaim_X8_readClaim ⟨rfl, rfl, Nat.le_of_ble_eq_true rfl, Nat.le_of_ble_eq_true rfl⟩ 8 0 rfl rfl rfl hl.1 (Nat.le_of_ble_eq_true rfl) dX8_readTable_127 (fun H locs hP hD hS => ?_)
                  refine lv_istore (lv' := [(4, .int (z7.1)), (0, .ref (qR 0)), (3, .int (v3))]) hx hb dX8_readTable_130 hl (by decide) rfl (fun ls hl => ?_)
                  refine lv_goto (tgt := 160) hx hb dX8_readTable_132 (by decide) ?_
                  exact tX8_readTable_160 X z SB (fX8_readTable_24 SB n) ih z7.2.1 z7.2.2 v3 z7.1 hf _ _ _ hP hD hS (lv_sub hl [1, 2, 0] rfl)
                · have hf := tc_neg hn4 hf
                  by_cases hn5 : (gi SR 7) = (5 : Int32)
                  · have hf := tc_pos hn5 hf
                    refine lv_tableIn (off := 111) (tgt := 153) hx hb dX8_readTable_42 (tc_sw (P := fun y => ¬ y.toInt < 0) hn5 (by decide)) (tc_sw (P := fun y => ¬ 12 < y.toInt) hn5 (by decide)) (tc_sw (P := fun y => (#[66, 75, 111, 111, 84, 111, 111, 111, 93, 111, 111, 111, 102] : Array Int)[(y.toInt - 0).toNat]? = some 111) hn5 (by decide)) (by decide) ?_
                    exact tX8_readTable_153 X z SB (fX8_readTable_24 SB n) ih SR ST v3 hf _ _ _ hP hD hS (lv_sub hl [0, 1] rfl)
                  · have hf := tc_neg hn5 hf
                    by_cases hn6 : (gi SR 7) = (6 : Int32)
                    · have hf := tc_pos hn6 hf
                      refine lv_tableIn (off := 111) (tgt := 153) hx hb dX8_readTable_42 (tc_sw (P := fun y => ¬ y.toInt < 0) hn6 (by decide)) (tc_sw (P := fun y => ¬ 12 < y.toInt) hn6 (by decide)) (tc_sw (P := fun y => (#[66, 75, 111, 111, 84, 111, 111, 111, 93, 111, 111, 111, 102] : Array Int)[(y.toInt - 0).toNat]? = some 111) hn6 (by decide)) (by decide) ?_
                      exact tX8_readTable_153 X z SB (fX8_readTable_24 SB n) ih SR ST v3 hf _ _ _ hP hD hS (lv_sub hl [0, 1] rfl)
                    · have hf := tc_neg hn6 hf
                      by_cases hn7 : (gi SR 7) = (7 : Int32)
                      · have hf := tc_pos hn7 hf
                        refine lv_tableIn (off := 111) (tgt := 153) hx hb dX8_readTable_42 (tc_sw (P := fun y => ¬ y.toInt < 0) hn7 (by decide)) (tc_sw (P := fun y => ¬ 12 < y.toInt) hn7 (by decide)) (tc_sw (P := fun y => (#[66, 75, 111, 111, 84, 111, 111, 111, 93, 111, 111, 111, 102] : Array Int)[(y.toInt - 0).toNat]? = some 111) hn7 (by decide)) (by decide) ?_
                        exact tX8_readTable_153 X z SB (fX8_readTable_24 SB n) ih SR ST v3 hf _ _ _ hP hD hS (lv_sub hl [0, 1] rfl)
                      · have hf := tc_neg hn7 hf
                        by_cases hn8 : (gi SR 7) = (8 : Int32)
                        · have hf := tc_pos hn8 hf
                          refine lv_tableIn (off := 93) (tgt := 135) hx hb dX8_readTable_42 (tc_sw (P := fun y => ¬ y.toInt < 0) hn8 (by decide)) (tc_sw (P := fun y => ¬ 12 < y.toInt) hn8 (by decide)) (tc_sw (P := fun y => (#[66, 75, 111, 111, 84, 111, 111, 111, 93, 111, 111, 111, 102] : Array Int)[(y.toInt - 0).toNat]? = some 93) hn8 (by decide)) (by decide) ?_
                          refine lv_aload_n hx hb dX8_readTable_135 rfl (lv_at hl 0 rfl) ?_
                          obtain ⟨z8, hg, hf⟩ := tc_bi hf
                          refine tc_iVs (As := []) (rest := []) (b := qR 0) X hP hD hS (mX8_readTalker hg) okX8_readTalker wl_X8_46 wi_X8_readTalker ws_X8_X8_readTalker_X8_readTalker ⟨rfl, rfl, Nat.le_of_ble_eq_true rfl, Nat.le_of_ble_eq_true rfl⟩ 8 0 rfl rfl rfl hl.1 (Nat.le_of_ble_eq_true rfl) dX8_readTable_136 (fun H locs hP hD hS => ?_)
                          refine lv_istore (lv' := [(4, .int (z8.1)), (0, .ref (qR 0)), (3, .int (v3))]) hx hb dX8_readTable_139 hl (by decide) rfl (fun ls hl => ?_)
                          refine lv_goto (tgt := 160) hx hb dX8_readTable_141 (by decide) ?_
                          exact tX8_readTable_160 X z SB (fX8_readTable_24 SB n) ih z8.2.1 z8.2.2 v3 z8.1 hf _ _ _ hP hD hS (lv_sub hl [1, 2, 0] rfl)
                        · have hf := tc_neg hn8 hf
                          by_cases hn9 : (gi SR 7) = (9 : Int32)
                          · have hf := tc_pos hn9 hf
                            refine lv_tableIn (off := 111) (tgt := 153) hx hb dX8_readTable_42 (tc_sw (P := fun y => ¬ y.toInt < 0) hn9 (by decide)) (tc_sw (P := fun y => ¬ 12 < y.toInt) hn9 (by decide)) (tc_sw (P := fun y => (#[66, 75, 111, 111, 84, 111, 111, 111, 93, 111, 111, 111, 102] : Array Int)[(y.toInt - 0).toNat]? = some 111) hn9 (by decide)) (by decide) ?_
                            exact tX8_readTable_153 X z SB (fX8_readTable_24 SB n) ih SR ST v3 hf _ _ _ hP hD hS (lv_sub hl [0, 1] rfl)
                          · have hf := tc_neg hn9 hf
                            by_cases hn10 : (gi SR 7) = (10 : Int32)
                            · have hf := tc_pos hn10 hf
                              refine lv_tableIn (off := 111) (tgt := 153) hx hb dX8_readTable_42 (tc_sw (P := fun y => ¬ y.toInt < 0) hn10 (by decide)) (tc_sw (P := fun y => ¬ 12 < y.toInt) hn10 (by decide)) (tc_sw (P := fun y => (#[66, 75, 111, 111, 84, 111, 111, 111, 93, 111, 111, 111, 102] : Array Int)[(y.toInt - 0).toNat]? = some 111) hn10 (by decide)) (by decide) ?_
                              exact tX8_readTable_153 X z SB (fX8_readTable_24 SB n) ih SR ST v3 hf _ _ _ hP hD hS (lv_sub hl [0, 1] rfl)
                            · have hf := tc_neg hn10 hf
                              by_cases hn11 : (gi SR 7) = (11 : Int32)
                              · have hf := tc_pos hn11 hf
                                refine lv_tableIn (off := 111) (tgt := 153) hx hb dX8_readTable_42 (tc_sw (P := fun y => ¬ y.toInt < 0) hn11 (by decide)) (tc_sw (P := fun y => ¬ 12 < y.toInt) hn11 (by decide)) (tc_sw (P := fun y => (#[66, 75, 111, 111, 84, 111, 111, 111, 93, 111, 111, 111, 102] : Array Int)[(y.toInt - 0).toNat]? = some 111) hn11 (by decide)) (by decide) ?_
                                exact tX8_readTable_153 X z SB (fX8_readTable_24 SB n) ih SR ST v3 hf _ _ _ hP hD hS (lv_sub hl [0, 1] rfl)
                              · have hf := tc_neg hn11 hf
                                by_cases hn12 : (gi SR 7) = (12 : Int32)
                                · have hf := tc_pos hn12 hf
                                  refine lv_tableIn (off := 102) (tgt := 144) hx hb dX8_readTable_42 (tc_sw (P := fun y => ¬ y.toInt < 0) hn12 (by decide)) (tc_sw (P := fun y => ¬ 12 < y.toInt) hn12 (by decide)) (tc_sw (P := fun y => (#[66, 75, 111, 111, 84, 111, 111, 111, 93, 111, 111, 111, 102] : Array Int)[(y.toInt - 0).toNat]? = some 102) hn12 (by decide)) (by decide) ?_
                                  refine lv_aload_n hx hb dX8_readTable_144 rfl (lv_at hl 0 rfl) ?_
                                  obtain ⟨z9, hg, hf⟩ := tc_bi hf
                                  refine tc_iVs (As := []) (rest := []) (b := qR 0) X hP hD hS (mX8_readFeud hg) okX8_readFeud wl_X8_49 wi_X8_readFeud ws_X8_X8_readFeud_X8_readFeud ⟨rfl, rfl, Nat.le_of_ble_eq_true rfl, Nat.le_of_ble_eq_true rfl⟩ 8 0 rfl rfl rfl hl.1 (Nat.le_of_ble_eq_true rfl) dX8_readTable_145 (fun H locs hP hD hS => ?_)
                                  refine lv_istore (lv' := [(4, .int (z9.1)), (0, .ref (qR 0)), (3, .int (v3))]) hx hb dX8_readTable_148 hl (by decide) rfl (fun ls hl => ?_)
                                  refine lv_goto (tgt := 160) hx hb dX8_readTable_150 (by decide) ?_
                                  exact tX8_readTable_160 X z SB (fX8_readTable_24 SB n) ih z9.2.1 z9.2.2 v3 z9.1 hf _ _ _ hP hD hS (lv_sub hl [1, 2, 0] rfl)
                                · have hf := tc_neg hn12 hf
                                  have hout : (gi SR 7).toInt < 0 ∨ 12 < (gi SR 7).toInt := by
                                    have e0 := tc_ne hn0
                                    have e1 := tc_ne hn1
                                    have e2 := tc_ne hn2
                                    have e3 := tc_ne hn3
                                    have e4 := tc_ne hn4
                                    have e5 := tc_ne hn5
                                    have e6 := tc_ne hn6
                                    have e7 := tc_ne hn7
                                    have e8 := tc_ne hn8
                                    have e9 := tc_ne hn9
                                    have e10 := tc_ne hn10
                                    have e11 := tc_ne hn11
                                    have e12 := tc_ne hn12
                                    simp only [show ((0 : Int32)).toInt = 0 from by decide, show ((1 : Int32)).toInt = 1 from by decide, show ((2 : Int32)).toInt = 2 from by decide, show ((3 : Int32)).toInt = 3 from by decide, show ((4 : Int32)).toInt = 4 from by decide, show ((5 : Int32)).toInt = 5 from by decide, show ((6 : Int32)).toInt = 6 from by decide, show ((7 : Int32)).toInt = 7 from by decide, show ((8 : Int32)).toInt = 8 from by decide, show ((9 : Int32)).toInt = 9 from by decide, show ((10 : Int32)).toInt = 10 from by decide, show ((11 : Int32)).toInt = 11 from by decide, show ((12 : Int32)).toInt = 12 from by decide] at e0 e1 e2 e3 e4 e5 e6 e7 e8 e9 e10 e11 e12
                                    omega
                                  refine lv_tableOut (tgt := 153) hx hb dX8_readTable_42 hout (by decide) ?_
                                  exact tX8_readTable_153 X z SB (fX8_readTable_24 SB n) ih SR ST v3 hf _ _ _ hP hD hS (lv_sub hl [0, 1] rfl)
set_option maxRecDepth 20000 in
theorem mX8_readTable {qR : Nat → Nat} {qB : Nat → Nat} {qT : Nat → Nat} {rR11 : Value} {SR : ms_T} {SB : ms_T} {ST : ms_T} {a1 : Int32} {z : Int32 × ms_T × ms_T}  (hf : fX8_readTable SR SB ST a1 = some z) : tc_MI l dC dI ca yX8_readTable cX8_readTable 5 (some .boolean) rmX8_readTable [.ref (qR 0), .int (a1), .ref (qT 0)] (w8 ca qR (.ref (qB 0)) (rR11) SR ++ wLB ca qB SB ++ w7 ca qT ST) (w8 ca qR (.ref (qB 0)) (.ref (qT 0)) z.2.1 ++ wLB ca qB SB ++ w7 ca qT z.2.2) (z.1) := by
  refine tc_metI (own := RX8) (by decide) rfl ?_ (Nat.le_of_ble_eq_true rfl)
  intro p e s m below meth c A X hP hD hS ls hl
  obtain ⟨hx, hb, hr, hml, hown, hts, hlk, hK, hA, hG⟩ := id X
  unfold fX8_readTable at hf
  have hl : lv_has ls 5 [(0, .ref (qR 0)), (1, .int (a1)), (2, .ref (qT 0))] := hl
  refine lv_aload_n hx hb dX8_readTable_0 rfl (lv_at hl 0 rfl) ?_
  refine lv_aload_n hx hb dX8_readTable_1 rfl (lv_at hl 2 rfl) ?_
  refine va_put (D := (dC, dI)) (ci := 8) (v := .ref (qT 0)) (ty := .object "TalkChutes$Table") (C := RX8) (T := TX8) (N := 13) hx hb hts i_X8 tyX8 tyX8_ok nmX8 hown hK hP hD hS 0 rfl rfl 11 (by decide) (hts _ wf_X8_9) (fun _ h9 => h9) rfl (tyX8_ok 11 (by decide)) rfl rfl (Nat.le_of_ble_eq_true rfl) dX8_readTable_2 (fun H locs hP hD hS => ?_)
  have hP := tc_eP (pw8_B_7_0_11 ca qR qB qT (.ref (qB 0)) (rR11) SR SB ST (.ref (qT 0))) hP
  have hD := tc_eD (pw8_B_7_0_11 ca qR qB qT (.ref (qB 0)) (rR11) SR SB ST (.ref (qT 0))) hD
  refine lv_aload_n hx hb dX8_readTable_5 rfl (lv_at hl 0 rfl) ?_
  refine va_get (D := (dC, dI)) (ci := 8) (v := .ref (qT 0)) (C := RX8) (T := TX8) (N := 13) hx hb hts i_X8 hown hK hP 0 rfl rfl 11 (by decide) (hts _ wf_X8_9) (fun _ h9 => h9) rfl dX8_readTable_6 ?_
  obtain ⟨z1, hg, hf⟩ := tc_bi hf
  refine tc_vV (As := []) (rest := []) (b := qT 0) (wc := w7 ca qT ST) (wr := w8 ca qR (.ref (qB 0)) (.ref (qT 0)) SR ++ wLB ca qB SB) X hP hD hS (mX7_clear hg) okX7_clear wl_X8_15 wi_X7_clear ws_X7_X7_clear_X7_clear ⟨rfl, rfl, Nat.le_of_ble_eq_true rfl, Nat.le_of_ble_eq_true rfl⟩ 7 0 rfl rfl [2, 3, 4, 5, 6, 7, 8, 9, 10, 11, 12] [0, 1] ⟨rfl, rfl, rfl, rfl, by decide⟩ rfl hl.1 (Nat.le_of_ble_eq_true rfl) dX8_readTable_9 (fun H locs hP hD hS => ?_)
  have hP := hP.sub (ws' := (w8 ca qR (.ref (qB 0)) (.ref (qT 0)) SR ++ wLB ca qB SB ++ w7 ca qT z1)) [0, 1, 2, 3, 4, 5, 6, 7, 8, 9, 10, 11, 12] rfl
  have hD := hD.sub (ws' := (w8 ca qR (.ref (qB 0)) (.ref (qT 0)) SR ++ wLB ca qB SB ++ w7 ca qT z1)) [0, 1, 2, 3, 4, 5, 6, 7, 8, 9, 10, 11, 12] rfl rfl
  refine lv_aload_n hx hb dX8_readTable_12 rfl (lv_at hl 0 rfl) ?_
  refine lv_iconst (v := (0 : Int32)) hx hb dX8_readTable_13 (by decide) ?_
  refine va_put (D := (dC, dI)) (ci := 8) (v := .int ((0 : Int32))) (ty := .boolean) (C := RX8) (T := TX8) (N := 13) hx hb hts i_X8 tyX8 tyX8_ok nmX8 hown hK hP hD hS 0 rfl rfl 12 (by decide) (hts _ wf_X8_21) (fun _ h9 => h9) rfl (tyX8_ok 12 (by decide)) (tc_nb (by decide)) (tc_fb (by decide)) (Nat.le_of_ble_eq_true rfl) dX8_readTable_14 (fun H locs hP hD hS => ?_)
  have hP := tc_eP (pw8_B_7_0_12 ca qR qB qT (.ref (qB 0)) (.ref (qT 0)) SR SB z1 (0 : Int32)) hP
  have hD := tc_eD (pw8_B_7_0_12 ca qR qB qT (.ref (qB 0)) (.ref (qT 0)) SR SB z1 (0 : Int32)) hD
  refine lv_aload_n hx hb dX8_readTable_17 rfl (lv_at hl 0 rfl) ?_
  refine lv_iload_n hx hb dX8_readTable_18 rfl (lv_at hl 1 rfl) ?_
  obtain ⟨z2, hg, hf⟩ := tc_bi hf
  refine tc_vU (As := [.int (a1)]) (rest := []) (b := qR 0) (wc := w8 ca qR (.ref (qB 0)) (.ref (qT 0)) (si SR 12 (0 : Int32)) ++ wLB ca qB SB) (wr := w7 ca qT z1) X hP hD hS (mX4_beginT hg) okX4_begin wl_X8_25 wu_X8_begin rfl wi_X4_begin ws_X8_xbegin_X4_begin ⟨rfl, rfl, Nat.le_of_ble_eq_true rfl, Nat.le_of_ble_eq_true rfl⟩ 8 0 rfl rfl [0, 1] [2, 3, 4, 5, 6, 7, 8, 9, 10, 11, 12] ⟨rfl, rfl, rfl, rfl, by decide⟩ rfl hl.1 (Nat.le_of_ble_eq_true rfl) dX8_readTable_19 (fun H locs hP hD hS => ?_)
  have hP := hP.sub (ws' := (w8 ca qR (.ref (qB 0)) (.ref (qT 0)) z2 ++ wLB ca qB SB ++ w7 ca qT z1)) [11, 12, 0, 1, 2, 3, 4, 5, 6, 7, 8, 9, 10] rfl
  have hD := hD.sub (ws' := (w8 ca qR (.ref (qB 0)) (.ref (qT 0)) z2 ++ wLB ca qB SB ++ w7 ca qT z1)) [11, 12, 0, 1, 2, 3, 4, 5, 6, 7, 8, 9, 10] rfl rfl
  refine lv_iconst (v := (0 : Int32)) hx hb dX8_readTable_22 (by decide) ?_
  refine lv_istore_n (lv' := [(3, .int ((0 : Int32))), (0, .ref (qR 0)), (1, .int (a1)), (2, .ref (qT 0))]) hx hb dX8_readTable_23 rfl hl (by decide) rfl (fun ls hl => ?_)
  exact tX8_readTable_24 X z SB FU z2 z1 (0 : Int32) hf _ _ _ hP hD hS (lv_sub hl [1, 0] rfl)
def fX9_isMissing  (S : ms_T)  : Option (Int32) :=
  if (gi S 2) = (-1 : Int32) then
    some ((1 : Int32))
  else
    some ((0 : Int32))
abbrev rmX9_isMissing : Room := { frames := 0, cells := 0, slots := 0, locals := 0 }
theorem okX9_isMissing : tc_ok yX9_isMissing cX9_isMissing 1 (some .boolean) 0 := ⟨wc_X9_isMissing, wn_X9, by decide, by decide, by decide +kernel⟩
set_option maxRecDepth 20000 in
theorem mX9_isMissing {q : Nat → Nat}  {S : ms_T}  {z : Int32}  (hf : fX9_isMissing S = some z) : tc_MI l dC dI ca yX9_isMissing cX9_isMissing 1 (some .boolean) rmX9_isMissing [.ref (q 0)] (w9 ca q S) (w9 ca q S) (z) := by
  refine tc_metI (own := RX9) (by decide) rfl ?_ (Nat.le_of_ble_eq_true rfl)
  intro p e s m below meth c A X hP hD hS ls hl
  obtain ⟨hx, hb, hr, hml, hown, hts, hlk, hK, hA, hG⟩ := id X
  unfold fX9_isMissing at hf
  have hl : lv_has ls 1 [(0, .ref (q 0))] := hl
  refine lv_aload_n hx hb dX9_isMissing_0 rfl (lv_at hl 0 rfl) ?_
  refine va_get (D := (dC, dI)) (ci := 9) (v := .int (gi S 2)) (C := RX9) (T := TX9) (N := 3) hx hb hts i_X9 hown hK hP 0 rfl rfl 2 (by decide) (hts _ wf_X9_15) (fun _ h9 => h9) rfl dX9_isMissing_1 ?_
  refine lv_iconst (v := (-1 : Int32)) hx hb dX9_isMissing_4 (by decide) ?_
  refine lv_icmp_ne (tgt := 12) hx hb dX9_isMissing_5 (by decide) (fun hc => ?_) (fun hc => ?_)
  · have hf := tc_neg hc hf
    refine lv_iconst (v := (0 : Int32)) hx hb dX9_isMissing_12 (by decide) ?_
    obtain rfl := Option.some.inj hf
    exact tc_rz X hP hD hS rfl dX9_isMissing_13 (by decide) rfl rfl
  · have hf := tc_pos hc hf
    refine lv_iconst (v := (1 : Int32)) hx hb dX9_isMissing_8 (by decide) ?_
    refine lv_goto (tgt := 13) hx hb dX9_isMissing_9 (by decide) ?_
    obtain rfl := Option.some.inj hf
    exact tc_rz X hP hD hS rfl dX9_isMissing_13 (by decide) rfl rfl
def fX9_holds  (S : ms_T) (a1 : Int32) (a2 : Int32) : Option (Int32) :=
  if a1 < 0 then
    some ((0 : Int32))
  else
    if (gi S 2) < a2 then
      some ((0 : Int32))
    else
      if ((gi S 2) - a2) < a1 then
        some ((0 : Int32))
      else
        some ((1 : Int32))
abbrev rmX9_holds : Room := { frames := 0, cells := 0, slots := 0, locals := 0 }
theorem okX9_holds : tc_ok yX9_holds cX9_holds 3 (some .boolean) 2 := ⟨wc_X9_holds, wn_X9, by decide, by decide, by decide +kernel⟩
set_option maxRecDepth 20000 in
theorem mX9_holds {q : Nat → Nat}  {S : ms_T} {a1 : Int32} {a2 : Int32} {z : Int32}  (hf : fX9_holds S a1 a2 = some z) : tc_MI l dC dI ca yX9_holds cX9_holds 3 (some .boolean) rmX9_holds [.ref (q 0), .int (a1), .int (a2)] (w9 ca q S) (w9 ca q S) (z) := by
  refine tc_metI (own := RX9) (by decide) rfl ?_ (Nat.le_of_ble_eq_true rfl)
  intro p e s m below meth c A X hP hD hS ls hl
  obtain ⟨hx, hb, hr, hml, hown, hts, hlk, hK, hA, hG⟩ := id X
  unfold fX9_holds at hf
  have hl : lv_has ls 3 [(0, .ref (q 0)), (1, .int (a1)), (2, .int (a2))] := hl
  refine lv_iload_n hx hb dX9_holds_0 rfl (lv_at hl 1 rfl) ?_
  refine lv_if_lt (tgt := 26) hx hb dX9_holds_1 (by decide) (fun hc => ?_) (fun hc => ?_)
  · have hf := tc_pos hc hf
    refine lv_iconst (v := (0 : Int32)) hx hb dX9_holds_26 (by decide) ?_
    obtain rfl := Option.some.inj hf
    exact tc_rz X hP hD hS rfl dX9_holds_27 (by decide) rfl rfl
  · have hf := tc_neg hc hf
    refine lv_iload_n hx hb dX9_holds_4 rfl (lv_at hl 2 rfl) ?_
    refine lv_aload_n hx hb dX9_holds_5 rfl (lv_at hl 0 rfl) ?_
    refine va_get (D := (dC, dI)) (ci := 9) (v := .int (gi S 2)) (C := RX9) (T := TX9) (N := 3) hx hb hts i_X9 hown hK hP 0 rfl rfl 2 (by decide) (hts _ wf_X9_15) (fun _ h9 => h9) rfl dX9_holds_6 ?_
    refine lv_icmp_gt (tgt := 26) hx hb dX9_holds_9 (by decide) (fun hc => ?_) (fun hc => ?_)
    · have hf := tc_pos hc hf
      refine lv_iconst (v := (0 : Int32)) hx hb dX9_holds_26 (by decide) ?_
      obtain rfl := Option.some.inj hf
      exact tc_rz X hP hD hS rfl dX9_holds_27 (by decide) rfl rfl
    · have hf := tc_neg hc hf
      refine lv_iload_n hx hb dX9_holds_12 rfl (lv_at hl 1 rfl) ?_
      refine lv_aload_n hx hb dX9_holds_13 rfl (lv_at hl 0 rfl) ?_
      refine va_get (D := (dC, dI)) (ci := 9) (v := .int (gi S 2)) (C := RX9) (T := TX9) (N := 3) hx hb hts i_X9 hown hK hP 0 rfl rfl 2 (by decide) (hts _ wf_X9_15) (fun _ h9 => h9) rfl dX9_holds_14 ?_
      refine lv_iload_n hx hb dX9_holds_17 rfl (lv_at hl 2 rfl) ?_
      refine lv_isub hx hb dX9_holds_18 ?_
      refine lv_icmp_gt (tgt := 26) hx hb dX9_holds_19 (by decide) (fun hc => ?_) (fun hc => ?_)
      · have hf := tc_pos hc hf
        refine lv_iconst (v := (0 : Int32)) hx hb dX9_holds_26 (by decide) ?_
        obtain rfl := Option.some.inj hf
        exact tc_rz X hP hD hS rfl dX9_holds_27 (by decide) rfl rfl
      · have hf := tc_neg hc hf
        refine lv_iconst (v := (1 : Int32)) hx hb dX9_holds_22 (by decide) ?_
        refine lv_goto (tgt := 27) hx hb dX9_holds_23 (by decide) ?_
        obtain rfl := Option.some.inj hf
        exact tc_rz X hP hD hS rfl dX9_holds_27 (by decide) rfl rfl
theorem pw9_0_1 (ca : Nat → ClassId) (q0 : Nat → Nat) (S0 : ms_T) (v : Int32) : (w9 ca q0 S0 : va_W).set 0 (q0 0, .inr (9, List.set (.ref (q0 1) :: .int (gi S0 1) :: .int (gi S0 2) :: []) 1 (.int v))) = w9 ca q0 (si S0 1 v) := rfl
theorem pw9_0_2 (ca : Nat → ClassId) (q0 : Nat → Nat) (S0 : ms_T) (v : Int32) : (w9 ca q0 S0 : va_W).set 0 (q0 0, .inr (9, List.set (.ref (q0 1) :: .int (gi S0 1) :: .int (gi S0 2) :: []) 2 (.int v))) = w9 ca q0 (si S0 2 v) := rfl
theorem aw9_0_1 (ca : Nat → ClassId) (q0 : Nat → Nat) (S0 : ms_T) (i : Int32) (v : Int64) : (w9 ca q0 S0 : va_W).set 1 (q0 1, .inl (ca 2, 60, .inr (.inl (vp_updL (rl S0 1) i.toNatClampNeg v)))) = w9 ca q0 (sA S0 1 i v) := rfl
def fX9_begin_12    : Nat → ms_T → Int32 → Int32 → Option (ms_T)
  | 0, _, _, _ => none
  | n + 1, S, v2, v3 =>
    if v2 ≤ v3 then
      some (S)
    else
      if inb v3 60 = true then
        fX9_begin_12 n (sA S 1 v3 (0 : Int64)) v2 (v3 + (1 : Int32))
      else none
def fX9_begin  (S : ms_T) (a1 : Int32) (a2 : Int32) : Option (ms_T) :=
  fX9_begin_12 FU (si (si S 1 a1) 2 a2) a2 (0 : Int32)
abbrev rmX9_begin : Room := { frames := 0, cells := 0, slots := 0, locals := 0 }
theorem okX9_begin : tc_ok yX9_begin cX9_begin 4 none 2 := ⟨wc_X9_begin, wn_X9, by decide, by decide, by decide +kernel⟩
set_option maxRecDepth 20000 in
theorem tX9_begin_12 {q : Nat → Nat}  (X : tc_X dC dI ca A RX9 cX9_begin 4 none p s m args meth c) (z : ms_T)     : ∀ n : Nat, ∀ (S : ms_T) (v2 : Int32) (v3 : Int32), fX9_begin_12 n S v2 v3 = some z → ∀ (H : Heap) (locs : List Loc) (ls : Array Slot), va_P (dC, dI) classes (w9 ca q S) H → va_D A (w9 ca q S) → va_S A s.heap H locs → lv_has ls 4 [(0, .ref (q 0)), (2, .int (v2)), (3, .int (v3))] → W p l e rmX9_begin s m args below meth c H locs 0 0 (MQ below (tc_QV dC dI ca A (w9 ca q z)) args s 0 0 A) (F0 m 12 ls []) := by
  obtain ⟨hx, hb, hr, hml, hown, hts, hlk, hK, hA, hG⟩ := id X
  intro n
  induction n with
  | zero => intro S v2 v3 hf; exact absurd (show none = some z from hf) (fun h => by cases h)
  | succ n ih =>
    intro S v2 v3 hf H locs ls hP hD hS hl
    rw [fX9_begin_12] at hf
    refine lv_iload_n hx hb dX9_begin_12 rfl (lv_at hl 2 rfl) ?_
    refine lv_iload_n hx hb dX9_begin_13 rfl (lv_at hl 1 rfl) ?_
    refine lv_icmp_ge (tgt := 30) hx hb dX9_begin_14 (by decide) (fun hc => ?_) (fun hc => ?_)
    · have hf := tc_pos hc hf
      obtain rfl := Option.some.inj hf
      exact tc_rv X hP hD hS rfl dX9_begin_30 rfl
    · have hf := tc_neg hc hf
      refine lv_aload_n hx hb dX9_begin_17 rfl (lv_at hl 0 rfl) ?_
      refine va_get (D := (dC, dI)) (ci := 9) (v := .ref (q 1)) (C := RX9) (T := TX9) (N := 3) hx hb hts i_X9 hown hK hP 0 rfl rfl 0 (by decide) (hts _ wf_X9_11) (fun _ h9 => h9) rfl dX9_begin_18 ?_
      refine lv_iload_n hx hb dX9_begin_21 rfl (lv_at hl 2 rfl) ?_
      refine lv_lconst (v := (0 : Int64)) hx hb dX9_begin_22 (by decide) ?_
      obtain ⟨hi1, hf⟩ := tc_in hf
      refine va_last hx hb hK hP hD hS 1 2 rfl rfl hi1 dX9_begin_23 (fun H locs hP hD hS => ?_)
      have hP := tc_eP (aw9_0_1 ca q S v3 (0 : Int64)) hP
      have hD := tc_eD (aw9_0_1 ca q S v3 (0 : Int64)) hD
      refine lv_iinc (v := v3 + (1 : Int32)) (lv' := [(3, .int (v3 + (1 : Int32))), (0, .ref (q 0)), (2, .int (v2))]) hx hb dX9_begin_24 hl (k := 2) rfl rfl (by decide) rfl (fun ls hl => ?_)
      refine lv_goto (tgt := 12) hx hb dX9_begin_27 (by decide) ?_
      exact ih (sA S 1 v3 (0 : Int64)) v2 (v3 + (1 : Int32)) hf _ _ _ hP hD hS (lv_sub hl [1, 2, 0] rfl)
set_option maxRecDepth 20000 in
theorem mX9_begin {q : Nat → Nat}  {S : ms_T} {a1 : Int32} {a2 : Int32} {z : ms_T}  (hf : fX9_begin S a1 a2 = some z) : tc_MV l dC dI ca yX9_begin cX9_begin 4 none rmX9_begin [.ref (q 0), .int (a1), .int (a2)] (w9 ca q S) (w9 ca q z) := by
  refine tc_metV (own := RX9) (by decide) rfl ?_ (Nat.le_of_ble_eq_true rfl)
  intro p e s m below meth c A X hP hD hS ls hl
  obtain ⟨hx, hb, hr, hml, hown, hts, hlk, hK, hA, hG⟩ := id X
  unfold fX9_begin at hf
  have hl : lv_has ls 4 [(0, .ref (q 0)), (1, .int (a1)), (2, .int (a2))] := hl
  refine lv_aload_n hx hb dX9_begin_0 rfl (lv_at hl 0 rfl) ?_
  refine lv_iload_n hx hb dX9_begin_1 rfl (lv_at hl 1 rfl) ?_
  refine va_put (D := (dC, dI)) (ci := 9) (v := .int (a1)) (ty := .int) (C := RX9) (T := TX9) (N := 3) hx hb hts i_X9 tyX9 tyX9_ok nmX9 hown hK hP hD hS 0 rfl rfl 1 (by decide) (hts _ wf_X9_19) (fun _ h9 => h9) rfl (tyX9_ok 1 (by decide)) rfl rfl (Nat.le_of_ble_eq_true rfl) dX9_begin_2 (fun H locs hP hD hS => ?_)
  have hP := tc_eP (pw9_0_1 ca q S a1) hP
  have hD := tc_eD (pw9_0_1 ca q S a1) hD
  refine lv_aload_n hx hb dX9_begin_5 rfl (lv_at hl 0 rfl) ?_
  refine lv_iload_n hx hb dX9_begin_6 rfl (lv_at hl 2 rfl) ?_
  refine va_put (D := (dC, dI)) (ci := 9) (v := .int (a2)) (ty := .int) (C := RX9) (T := TX9) (N := 3) hx hb hts i_X9 tyX9 tyX9_ok nmX9 hown hK hP hD hS 0 rfl rfl 2 (by decide) (hts _ wf_X9_15) (fun _ h9 => h9) rfl (tyX9_ok 2 (by decide)) rfl rfl (Nat.le_of_ble_eq_true rfl) dX9_begin_7 (fun H locs hP hD hS => ?_)
  have hP := tc_eP (pw9_0_2 ca q (si S 1 a1) a2) hP
  have hD := tc_eD (pw9_0_2 ca q (si S 1 a1) a2) hD
  refine lv_iconst (v := (0 : Int32)) hx hb dX9_begin_10 (by decide) ?_
  refine lv_istore_n (lv' := [(3, .int ((0 : Int32))), (0, .ref (q 0)), (1, .int (a1)), (2, .int (a2))]) hx hb dX9_begin_11 rfl hl (by decide) rfl (fun ls hl => ?_)
  exact tX9_begin_12 X z FU (si (si S 1 a1) 2 a2) a2 (0 : Int32) hf _ _ _ hP hD hS (lv_sub hl [1, 3, 0] rfl)
def fX9_put  (S : ms_T) (a1 : Int32) (a2 : Int64) : Option (ms_T) :=
  if (gi S 1) = (0 : Int32) then
    if inb a1 60 = true then
      some (sA S 1 a1 a2.toInt32.toInt8.toInt32.toInt64)
    else none
  else
    if (gi S 1) = (1 : Int32) then
      if inb a1 60 = true then
        some (sA S 1 a1 a2.toInt32.toInt16.toInt32.toInt64)
      else none
    else
      if (gi S 1) = (2 : Int32) then
        if inb a1 60 = true then
          some (sA S 1 a1 a2.toInt32.toInt64)
        else none
      else
        if inb a1 60 = true then
          some (sA S 1 a1 a2)
        else none
abbrev rmX9_put : Room := { frames := 0, cells := 0, slots := 0, locals := 0 }
theorem okX9_put : tc_ok yX9_put cX9_put 4 none 2 := ⟨wc_X9_put, wn_X9, by decide, by decide, by decide +kernel⟩
set_option maxRecDepth 20000 in
theorem mX9_put {q : Nat → Nat}  {S : ms_T} {a1 : Int32} {a2 : Int64} {z : ms_T}  (hf : fX9_put S a1 a2 = some z) : tc_MV l dC dI ca yX9_put cX9_put 4 none rmX9_put [.ref (q 0), .int (a1), .long (a2)] (w9 ca q S) (w9 ca q z) := by
  refine tc_metV (own := RX9) (by decide) rfl ?_ (Nat.le_of_ble_eq_true rfl)
  intro p e s m below meth c A X hP hD hS ls hl
  obtain ⟨hx, hb, hr, hml, hown, hts, hlk, hK, hA, hG⟩ := id X
  unfold fX9_put at hf
  have hl : lv_has ls 4 [(0, .ref (q 0)), (1, .int (a1)), (2, .long (a2))] := hl
  refine lv_aload_n hx hb dX9_put_0 rfl (lv_at hl 0 rfl) ?_
  refine va_get (D := (dC, dI)) (ci := 9) (v := .int (gi S 1)) (C := RX9) (T := TX9) (N := 3) hx hb hts i_X9 hown hK hP 0 rfl rfl 1 (by decide) (hts _ wf_X9_19) (fun _ h9 => h9) rfl dX9_put_1 ?_
  by_cases hn0 : (gi S 1) = (0 : Int32)
  · have hf := tc_pos hn0 hf
    refine lv_tableIn (off := 28) (tgt := 32) hx hb dX9_put_4 (tc_sw (P := fun y => ¬ y.toInt < 0) hn0 (by decide)) (tc_sw (P := fun y => ¬ 2 < y.toInt) hn0 (by decide)) (tc_sw (P := fun y => (#[28, 41, 54] : Array Int)[(y.toInt - 0).toNat]? = some 28) hn0 (by decide)) (by decide) ?_
    refine lv_aload_n hx hb dX9_put_32 rfl (lv_at hl 0 rfl) ?_
    refine va_get (D := (dC, dI)) (ci := 9) (v := .ref (q 1)) (C := RX9) (T := TX9) (N := 3) hx hb hts i_X9 hown hK hP 0 rfl rfl 0 (by decide) (hts _ wf_X9_11) (fun _ h9 => h9) rfl dX9_put_33 ?_
    refine lv_iload_n hx hb dX9_put_36 rfl (lv_at hl 1 rfl) ?_
    refine lv_lload_n hx hb dX9_put_37 rfl (lv_at hl 2 rfl) ?_
    refine lv_l2i (v := a2.toInt32) hx hb dX9_put_38 rfl ?_
    refine lv_i2b (v := a2.toInt32.toInt8.toInt32) hx hb dX9_put_39 rfl ?_
    refine lv_i2l (v := a2.toInt32.toInt8.toInt32.toInt64) hx hb dX9_put_40 rfl ?_
    obtain ⟨hi2, hf⟩ := tc_in hf
    refine va_last hx hb hK hP hD hS 1 2 rfl rfl hi2 dX9_put_41 (fun H locs hP hD hS => ?_)
    have hP := tc_eP (aw9_0_1 ca q S a1 a2.toInt32.toInt8.toInt32.toInt64) hP
    have hD := tc_eD (aw9_0_1 ca q S a1 a2.toInt32.toInt8.toInt32.toInt64) hD
    refine lv_goto (tgt := 77) hx hb dX9_put_42 (by decide) ?_
    obtain rfl := Option.some.inj hf
    exact tc_rv X hP hD hS rfl dX9_put_77 rfl
  · have hf := tc_neg hn0 hf
    by_cases hn1 : (gi S 1) = (1 : Int32)
    · have hf := tc_pos hn1 hf
      refine lv_tableIn (off := 41) (tgt := 45) hx hb dX9_put_4 (tc_sw (P := fun y => ¬ y.toInt < 0) hn1 (by decide)) (tc_sw (P := fun y => ¬ 2 < y.toInt) hn1 (by decide)) (tc_sw (P := fun y => (#[28, 41, 54] : Array Int)[(y.toInt - 0).toNat]? = some 41) hn1 (by decide)) (by decide) ?_
      refine lv_aload_n hx hb dX9_put_45 rfl (lv_at hl 0 rfl) ?_
      refine va_get (D := (dC, dI)) (ci := 9) (v := .ref (q 1)) (C := RX9) (T := TX9) (N := 3) hx hb hts i_X9 hown hK hP 0 rfl rfl 0 (by decide) (hts _ wf_X9_11) (fun _ h9 => h9) rfl dX9_put_46 ?_
      refine lv_iload_n hx hb dX9_put_49 rfl (lv_at hl 1 rfl) ?_
      refine lv_lload_n hx hb dX9_put_50 rfl (lv_at hl 2 rfl) ?_
      refine lv_l2i (v := a2.toInt32) hx hb dX9_put_51 rfl ?_
      refine lv_i2s (v := a2.toInt32.toInt16.toInt32) hx hb dX9_put_52 rfl ?_
      refine lv_i2l (v := a2.toInt32.toInt16.toInt32.toInt64) hx hb dX9_put_53 rfl ?_
      obtain ⟨hi3, hf⟩ := tc_in hf
      refine va_last hx hb hK hP hD hS 1 2 rfl rfl hi3 dX9_put_54 (fun H locs hP hD hS => ?_)
      have hP := tc_eP (aw9_0_1 ca q S a1 a2.toInt32.toInt16.toInt32.toInt64) hP
      have hD := tc_eD (aw9_0_1 ca q S a1 a2.toInt32.toInt16.toInt32.toInt64) hD
      refine lv_goto (tgt := 77) hx hb dX9_put_55 (by decide) ?_
      obtain rfl := Option.some.inj hf
      exact tc_rv X hP hD hS rfl dX9_put_77 rfl
    · have hf := tc_neg hn1 hf
      by_cases hn2 : (gi S 1) = (2 : Int32)
      · have hf := tc_pos hn2 hf
        refine lv_tableIn (off := 54) (tgt := 58) hx hb dX9_put_4 (tc_sw (P := fun y => ¬ y.toInt < 0) hn2 (by decide)) (tc_sw (P := fun y => ¬ 2 < y.toInt) hn2 (by decide)) (tc_sw (P := fun y => (#[28, 41, 54] : Array Int)[(y.toInt - 0).toNat]? = some 54) hn2 (by decide)) (by decide) ?_
        refine lv_aload_n hx hb dX9_put_58 rfl (lv_at hl 0 rfl) ?_
        refine va_get (D := (dC, dI)) (ci := 9) (v := .ref (q 1)) (C := RX9) (T := TX9) (N := 3) hx hb hts i_X9 hown hK hP 0 rfl rfl 0 (by decide) (hts _ wf_X9_11) (fun _ h9 => h9) rfl dX9_put_59 ?_
        refine lv_iload_n hx hb dX9_put_62 rfl (lv_at hl 1 rfl) ?_
        refine lv_lload_n hx hb dX9_put_63 rfl (lv_at hl 2 rfl) ?_
        refine lv_l2i (v := a2.toInt32) hx hb dX9_put_64 rfl ?_
        refine lv_i2l (v := a2.toInt32.toInt64) hx hb dX9_put_65 rfl ?_
        obtain ⟨hi4, hf⟩ := tc_in hf
        refine va_last hx hb hK hP hD hS 1 2 rfl rfl hi4 dX9_put_66 (fun H locs hP hD hS => ?_)
        have hP := tc_eP (aw9_0_1 ca q S a1 a2.toInt32.toInt64) hP
        have hD := tc_eD (aw9_0_1 ca q S a1 a2.toInt32.toInt64) hD
        refine lv_goto (tgt := 77) hx hb dX9_put_67 (by decide) ?_
        obtain rfl := Option.some.inj hf
        exact tc_rv X hP hD hS rfl dX9_put_77 rfl
      · have hf := tc_neg hn2 hf
        have hout : (gi S 1).toInt < 0 ∨ 2 < (gi S 1).toInt := by
          have e0 := tc_ne hn0
          have e1 := tc_ne hn1
          have e2 := tc_ne hn2
          simp only [show ((0 : Int32)).toInt = 0 from by decide, show ((1 : Int32)).toInt = 1 from by decide, show ((2 : Int32)).toInt = 2 from by decide] at e0 e1 e2
          omega
        refine lv_tableOut (tgt := 70) hx hb dX9_put_4 hout (by decide) ?_
        refine lv_aload_n hx hb dX9_put_70 rfl (lv_at hl 0 rfl) ?_
        refine va_get (D := (dC, dI)) (ci := 9) (v := .ref (q 1)) (C := RX9) (T := TX9) (N := 3) hx hb hts i_X9 hown hK hP 0 rfl rfl 0 (by decide) (hts _ wf_X9_11) (fun _ h9 => h9) rfl dX9_put_71 ?_
        refine lv_iload_n hx hb dX9_put_74 rfl (lv_at hl 1 rfl) ?_
        refine lv_lload_n hx hb dX9_put_75 rfl (lv_at hl 2 rfl) ?_
        obtain ⟨hi1, hf⟩ := tc_in hf
        refine va_last hx hb hK hP hD hS 1 2 rfl rfl hi1 dX9_put_76 (fun H locs hP hD hS => ?_)
        have hP := tc_eP (aw9_0_1 ca q S a1 a2) hP
        have hD := tc_eD (aw9_0_1 ca q S a1 a2) hD
        obtain rfl := Option.some.inj hf
        exact tc_rv X hP hD hS rfl dX9_put_77 rfl
theorem pw10_7_0_0 (ca : Nat → ClassId) (q0 q1 : Nat → Nat) (r0_0 : Value) (S0 S1 : ms_T) (v : Value) : (w10 ca q0 r0_0 S0 ++ w7 ca q1 S1 : va_W).set 0 (q0 0, .inr (10, List.set (r0_0 :: .int (gi S0 1) :: .ref (q0 1) :: .ref (q0 2) :: []) 0 (v))) = w10 ca q0 v S0 ++ w7 ca q1 S1 := rfl
theorem pw10_7_0_1 (ca : Nat → ClassId) (q0 q1 : Nat → Nat) (r0_0 : Value) (S0 S1 : ms_T) (v : Int32) : (w10 ca q0 r0_0 S0 ++ w7 ca q1 S1 : va_W).set 0 (q0 0, .inr (10, List.set (r0_0 :: .int (gi S0 1) :: .ref (q0 1) :: .ref (q0 2) :: []) 1 (.int v))) = w10 ca q0 r0_0 (si S0 1 v) ++ w7 ca q1 S1 := rfl
theorem aw10_7_0_1 (ca : Nat → ClassId) (q0 q1 : Nat → Nat) (r0_0 : Value) (S0 S1 : ms_T) (i v : Int32) : (w10 ca q0 r0_0 S0 ++ w7 ca q1 S1 : va_W).set 1 (q0 1, .inl (ca 1, 32, .inl (upd (ra S0 1) i.toNatClampNeg v))) = w10 ca q0 r0_0 (sa S0 1 i v) ++ w7 ca q1 S1 := rfl
def fX10_findEnds_89  (ST : ms_T) (k18 : ms_T → Int32 → Option (ms_T)) (k49 : ms_T → Int32 → Int32 → Int32 → Option (ms_T)) (SW : ms_T) (v2 : Int32) (v3 : Int32) (v4 : Int32) (v5 : Int32) (t0 : Int32) : Option (ms_T) :=
  if v3 = 0 then
    if inb ((v2 * (4 : Int32)) + v4) 32 = true then
      k49 (sa SW 1 ((v2 * (4 : Int32)) + v4) t0) v2 v3 (v4 + (1 : Int32))
    else none
  else
    if v4 = 0 then
      if inb ((v2 * (4 : Int32)) + v4) 32 = true then
        k49 (sa SW 1 ((v2 * (4 : Int32)) + v4) v5) v2 v3 (v4 + (1 : Int32))
      else none
    else
      if inb ((v2 * (4 : Int32)) + v4) 32 = true then
        k49 (sa SW 1 ((v2 * (4 : Int32)) + v4) t0) v2 v3 (v4 + (1 : Int32))
      else none
def fX10_findEnds_49  (ST : ms_T) (k18 : ms_T → Int32 → Option (ms_T)) : Nat → ms_T → Int32 → Int32 → Int32 → Option (ms_T)
  | 0, _, _, _, _ => none
  | n + 1, SW, v2, v3, v4 =>
    if (4 : Int32) ≤ v4 then
      k18 SW (v2 + (1 : Int32))
    else
      (fX7_heightOf ST v2).bind fun z2 =>
      if v3 = 0 then
        (fX7_landing ST (jmax (0 : Int32) (z2 - v4))).bind fun z3 =>
        fX10_findEnds_89 ST k18 (fX10_findEnds_49 ST k18 n) SW v2 v3 v4 (jmax (0 : Int32) (z2 - v4)) z3
      else
        fX10_findEnds_89 ST k18 (fX10_findEnds_49 ST k18 n) SW v2 v3 v4 (jmax (0 : Int32) (z2 - v4)) (-1 : Int32)
def fX10_findEnds_18  (ST : ms_T)  : Nat → ms_T → Int32 → Option (ms_T)
  | 0, _, _ => none
  | n + 1, SW, v2 =>
    if (gi ST 4) ≤ v2 then
      some (SW)
    else
      if (((gi SW 1) >>> (v2 &&& 31)) &&& (1 : Int32)) = 0 then
        fX10_findEnds_49 ST (fX10_findEnds_18 ST n) FU SW v2 (0 : Int32) (0 : Int32)
      else
        fX10_findEnds_49 ST (fX10_findEnds_18 ST n) FU SW v2 (1 : Int32) (0 : Int32)
def fX10_findEnds  (SW : ms_T) (ST : ms_T)  : Option (ms_T) :=
  (fX7_standing ST).bind fun z1 =>
  fX10_findEnds_18 ST FU (si SW 1 z1) (0 : Int32)
abbrev rmX10_findEnds : Room := { frames := 2, cells := 0, slots := 0, locals := 45 }
theorem okX10_findEnds : tc_ok yX10_findEnds cX10_findEnds 7 none 1 := ⟨wc_X10_findEnds, wn_X10, by decide, by decide, by decide +kernel⟩
set_option maxRecDepth 20000 in
theorem tX10_findEnds_89 {qW : Nat → Nat} {qT : Nat → Nat}  (X : tc_X dC dI ca A RX10 cX10_findEnds 7 none p s m args meth c) (z : ms_T)  (ST : ms_T) (k18 : ms_T → Int32 → Option (ms_T)) (k49 : ms_T → Int32 → Int32 → Int32 → Option (ms_T)) (hk18 : ∀ (SW : ms_T) (v2 : Int32), k18 SW v2 = some z → ∀ (H : Heap) (locs : List Loc) (ls : Array Slot), va_P (dC, dI) classes (w10 ca qW (.ref (qT 0)) SW ++ w7 ca qT ST) H → va_D A (w10 ca qW (.ref (qT 0)) SW ++ w7 ca qT ST) → va_S A s.heap H locs → lv_has ls 7 [(0, .ref (qW 0)), (2, .int (v2))] → W p l e rmX10_findEnds s m args below meth c H locs 0 0 (MQ below (tc_QV dC dI ca A (w10 ca qW (.ref (qT 0)) z ++ w7 ca qT ST)) args s 0 0 A) (F0 m 18 ls [])) (hk49 : ∀ (SW : ms_T) (v2 : Int32) (v3 : Int32) (v4 : Int32), k49 SW v2 v3 v4 = some z → ∀ (H : Heap) (locs : List Loc) (ls : Array Slot), va_P (dC, dI) classes (w10 ca qW (.ref (qT 0)) SW ++ w7 ca qT ST) H → va_D A (w10 ca qW (.ref (qT 0)) SW ++ w7 ca qT ST) → va_S A s.heap H locs → lv_has ls 7 [(0, .ref (qW 0)), (2, .int (v2)), (3, .int (v3)), (4, .int (v4))] → W p l e rmX10_findEnds s m args below meth c H locs 0 0 (MQ below (tc_QV dC dI ca A (w10 ca qW (.ref (qT 0)) z ++ w7 ca qT ST)) args s 0 0 A) (F0 m 49 ls [])) : ∀ (SW : ms_T) (v2 : Int32) (v3 : Int32) (v4 : Int32) (v5 : Int32) (t0 : Int32), fX10_findEnds_89 ST k18 k49 SW v2 v3 v4 v5 t0 = some z → ∀ (H : Heap) (locs : List Loc) (ls : Array Slot), va_P (dC, dI) classes (w10 ca qW (.ref (qT 0)) SW ++ w7 ca qT ST) H → va_D A (w10 ca qW (.ref (qT 0)) SW ++ w7 ca qT ST) → va_S A s.heap H locs → lv_has ls 7 [(0, .ref (qW 0)), (2, .int (v2)), (3, .int (v3)), (4, .int (v4)), (5, .int (v5))] → W p l e rmX10_findEnds s m args below meth c H locs 0 0 (MQ below (tc_QV dC dI ca A (w10 ca qW (.ref (qT 0)) z ++ w7 ca qT ST)) args s 0 0 A) (F0 m 89 ls [.int (t0)]) := by
  obtain ⟨hx, hb, hr, hml, hown, hts, hlk, hK, hA, hG⟩ := id X
  intro SW v2 v3 v4 v5 t0 hf H locs ls hP hD hS hl
  unfold fX10_findEnds_89 at hf
  refine lv_istore (lv' := [(6, .int (t0)), (0, .ref (qW 0)), (2, .int (v2)), (3, .int (v3)), (4, .int (v4)), (5, .int (v5))]) hx hb dX10_findEnds_89 hl (by decide) rfl (fun ls hl => ?_)
  refine lv_aload_n hx hb dX10_findEnds_91 rfl (lv_at hl 1 rfl) ?_
  refine va_get (D := (dC, dI)) (ci := 10) (v := .ref (qW 1)) (C := RX10) (T := TX10) (N := 4) hx hb hts i_X10 hown hK hP 0 rfl rfl 2 (by decide) (hts _ wf_X10_13) (fun _ h9 => h9) rfl dX10_findEnds_92 ?_
  refine lv_iload_n hx hb dX10_findEnds_95 rfl (lv_at hl 2 rfl) ?_
  refine lv_iconst (v := (4 : Int32)) hx hb dX10_findEnds_96 (by decide) ?_
  refine lv_imul hx hb dX10_findEnds_97 ?_
  refine lv_iload hx hb dX10_findEnds_98 (lv_at hl 4 rfl) ?_
  refine lv_iadd hx hb dX10_findEnds_100 ?_
  refine lv_iload_n hx hb dX10_findEnds_101 rfl (lv_at hl 3 rfl) ?_
  refine lv_if_eq (tgt := 115) hx hb dX10_findEnds_102 (by decide) (fun hc => ?_) (fun hc => ?_)
  · have hf := tc_pos hc hf
    refine lv_iload hx hb dX10_findEnds_115 (lv_at hl 0 rfl) ?_
    obtain ⟨hi4, hf⟩ := tc_in hf
    refine va_iast hx hb hK hP hD hS 1 1 rfl rfl hi4 dX10_findEnds_117 (fun H locs hP hD hS => ?_)
    have hP := tc_eP (aw10_7_0_1 ca qW qT (.ref (qT 0)) SW ST ((v2 * (4 : Int32)) + v4) t0) hP
    have hD := tc_eD (aw10_7_0_1 ca qW qT (.ref (qT 0)) SW ST ((v2 * (4 : Int32)) + v4) t0) hD
    refine lv_iinc (v := v4 + (1 : Int32)) (lv' := [(4, .int (v4 + (1 : Int32))), (6, .int (t0)), (0, .ref (qW 0)), (2, .int (v2)), (3, .int (v3)), (5, .int (v5))]) hx hb dX10_findEnds_118 hl (k := 4) rfl rfl (by decide) rfl (fun ls hl => ?_)
    refine lv_goto (tgt := 49) hx hb dX10_findEnds_121 (by decide) ?_
    exact hk49 (sa SW 1 ((v2 * (4 : Int32)) + v4) t0) v2 v3 (v4 + (1 : Int32)) hf _ _ _ hP hD hS (lv_sub hl [2, 3, 4, 0] rfl)
  · have hf := tc_neg hc hf
    refine lv_iload hx hb dX10_findEnds_105 (lv_at hl 4 rfl) ?_
    refine lv_if_ne (tgt := 115) hx hb dX10_findEnds_107 (by decide) (fun hc => ?_) (fun hc => ?_)
    · have hf := tc_neg hc hf
      refine lv_iload hx hb dX10_findEnds_115 (lv_at hl 0 rfl) ?_
      obtain ⟨hi5, hf⟩ := tc_in hf
      refine va_iast hx hb hK hP hD hS 1 1 rfl rfl hi5 dX10_findEnds_117 (fun H locs hP hD hS => ?_)
      have hP := tc_eP (aw10_7_0_1 ca qW qT (.ref (qT 0)) SW ST ((v2 * (4 : Int32)) + v4) t0) hP
      have hD := tc_eD (aw10_7_0_1 ca qW qT (.ref (qT 0)) SW ST ((v2 * (4 : Int32)) + v4) t0) hD
      refine lv_iinc (v := v4 + (1 : Int32)) (lv' := [(4, .int (v4 + (1 : Int32))), (6, .int (t0)), (0, .ref (qW 0)), (2, .int (v2)), (3, .int (v3)), (5, .int (v5))]) hx hb dX10_findEnds_118 hl (k := 4) rfl rfl (by decide) rfl (fun ls hl => ?_)
      refine lv_goto (tgt := 49) hx hb dX10_findEnds_121 (by decide) ?_
      exact hk49 (sa SW 1 ((v2 * (4 : Int32)) + v4) t0) v2 v3 (v4 + (1 : Int32)) hf _ _ _ hP hD hS (lv_sub hl [2, 3, 4, 0] rfl)
    · have hf := tc_pos hc hf
      refine lv_iload hx hb dX10_findEnds_110 (lv_at hl 5 rfl) ?_
      refine lv_goto (tgt := 117) hx hb dX10_findEnds_112 (by decide) ?_
      obtain ⟨hi6, hf⟩ := tc_in hf
      refine va_iast hx hb hK hP hD hS 1 1 rfl rfl hi6 dX10_findEnds_117 (fun H locs hP hD hS => ?_)
      have hP := tc_eP (aw10_7_0_1 ca qW qT (.ref (qT 0)) SW ST ((v2 * (4 : Int32)) + v4) v5) hP
      have hD := tc_eD (aw10_7_0_1 ca qW qT (.ref (qT 0)) SW ST ((v2 * (4 : Int32)) + v4) v5) hD
      refine lv_iinc (v := v4 + (1 : Int32)) (lv' := [(4, .int (v4 + (1 : Int32))), (6, .int (t0)), (0, .ref (qW 0)), (2, .int (v2)), (3, .int (v3)), (5, .int (v5))]) hx hb dX10_findEnds_118 hl (k := 4) rfl rfl (by decide) rfl (fun ls hl => ?_)
      refine lv_goto (tgt := 49) hx hb dX10_findEnds_121 (by decide) ?_
      exact hk49 (sa SW 1 ((v2 * (4 : Int32)) + v4) v5) v2 v3 (v4 + (1 : Int32)) hf _ _ _ hP hD hS (lv_sub hl [2, 3, 4, 0] rfl)
set_option maxRecDepth 20000 in
theorem tX10_findEnds_49 {qW : Nat → Nat} {qT : Nat → Nat}  (X : tc_X dC dI ca A RX10 cX10_findEnds 7 none p s m args meth c) (z : ms_T)  (ST : ms_T) (k18 : ms_T → Int32 → Option (ms_T)) (hk18 : ∀ (SW : ms_T) (v2 : Int32), k18 SW v2 = some z → ∀ (H : Heap) (locs : List Loc) (ls : Array Slot), va_P (dC, dI) classes (w10 ca qW (.ref (qT 0)) SW ++ w7 ca qT ST) H → va_D A (w10 ca qW (.ref (qT 0)) SW ++ w7 ca qT ST) → va_S A s.heap H locs → lv_has ls 7 [(0, .ref (qW 0)), (2, .int (v2))] → W p l e rmX10_findEnds s m args below meth c H locs 0 0 (MQ below (tc_QV dC dI ca A (w10 ca qW (.ref (qT 0)) z ++ w7 ca qT ST)) args s 0 0 A) (F0 m 18 ls [])) : ∀ n : Nat, ∀ (SW : ms_T) (v2 : Int32) (v3 : Int32) (v4 : Int32), fX10_findEnds_49 ST k18 n SW v2 v3 v4 = some z → ∀ (H : Heap) (locs : List Loc) (ls : Array Slot), va_P (dC, dI) classes (w10 ca qW (.ref (qT 0)) SW ++ w7 ca qT ST) H → va_D A (w10 ca qW (.ref (qT 0)) SW ++ w7 ca qT ST) → va_S A s.heap H locs → lv_has ls 7 [(0, .ref (qW 0)), (2, .int (v2)), (3, .int (v3)), (4, .int (v4))] → W p l e rmX10_findEnds s m args below meth c H locs 0 0 (MQ below (tc_QV dC dI ca A (w10 ca qW (.ref (qT 0)) z ++ w7 ca qT ST)) args s 0 0 A) (F0 m 49 ls []) := by
  obtain ⟨hx, hb, hr, hml, hown, hts, hlk, hK, hA, hG⟩ := id X
  intro n
  induction n with
  | zero => intro SW v2 v3 v4 hf; exact absurd (show none = some z from hf) (fun h => by cases h)
  | succ n ih =>
    intro SW v2 v3 v4 hf H locs ls hP hD hS hl
    rw [fX10_findEnds_49] at hf
    refine lv_iload hx hb dX10_findEnds_49 (lv_at hl 3 rfl) ?_
    refine lv_iconst (v := (4 : Int32)) hx hb dX10_findEnds_51 (by decide) ?_
    refine lv_icmp_ge (tgt := 124) hx hb dX10_findEnds_52 (by decide) (fun hc => ?_) (fun hc => ?_)
    · have hf := tc_pos hc hf
      refine lv_iinc (v := v2 + (1 : Int32)) (lv' := [(2, .int (v2 + (1 : Int32))), (0, .ref (qW 0)), (3, .int (v3)), (4, .int (v4))]) hx hb dX10_findEnds_124 hl (k := 1) rfl rfl (by decide) rfl (fun ls hl => ?_)
      refine lv_goto (tgt := 18) hx hb dX10_findEnds_127 (by decide) ?_
      exact hk18 SW (v2 + (1 : Int32)) hf _ _ _ hP hD hS (lv_sub hl [1, 0] rfl)
    · have hf := tc_neg hc hf
      refine lv_iconst (v := (0 : Int32)) hx hb dX10_findEnds_55 (by decide) ?_
      refine lv_aload_n hx hb dX10_findEnds_56 rfl (lv_at hl 0 rfl) ?_
      refine va_get (D := (dC, dI)) (ci := 10) (v := .ref (qT 0)) (C := RX10) (T := TX10) (N := 4) hx hb hts i_X10 hown hK hP 0 rfl rfl 0 (by decide) (hts _ wf_X10_20) (fun _ h9 => h9) rfl dX10_findEnds_57 ?_
      refine lv_iload_n hx hb dX10_findEnds_60 rfl (lv_at hl 1 rfl) ?_
      obtain ⟨z2, hg, hf⟩ := tc_bi hf
      refine tc_iV (As := [.int (v2)]) (rest := [.int ((0 : Int32))]) (b := qT 0) (wc := w7 ca qT ST) (wr := w10 ca qW (.ref (qT 0)) SW) X hP hD hS (mX7_heightOf hg) okX7_heightOf wl_X10_34 wi_X7_heightOf ws_X7_X7_heightOf_X7_heightOf ⟨rfl, rfl, Nat.le_of_ble_eq_true rfl, Nat.le_of_ble_eq_true rfl⟩ 7 0 rfl rfl [3, 4, 5, 6, 7, 8, 9, 10, 11, 12, 13] [0, 1, 2] ⟨rfl, rfl, rfl, rfl, by decide⟩ rfl hl.1 (Nat.le_of_ble_eq_true rfl) dX10_findEnds_61 (fun H locs hP hD hS => ?_)
      have hP := hP.sub (ws' := (w10 ca qW (.ref (qT 0)) SW ++ w7 ca qT ST)) [0, 1, 2, 3, 4, 5, 6, 7, 8, 9, 10, 11, 12, 13] rfl
      have hD := hD.sub (ws' := (w10 ca qW (.ref (qT 0)) SW ++ w7 ca qT ST)) [0, 1, 2, 3, 4, 5, 6, 7, 8, 9, 10, 11, 12, 13] rfl rfl
      refine lv_iload hx hb dX10_findEnds_64 (lv_at hl 3 rfl) ?_
      refine lv_isub hx hb dX10_findEnds_66 ?_
      refine tc_mmax (rest := []) X hl.1 wl_X10_38 (Nat.le_of_ble_eq_true rfl) (Nat.le_of_ble_eq_true rfl) dX10_findEnds_67 ?_
      refine lv_istore (lv' := [(5, .int (jmax (0 : Int32) (z2 - v4))), (0, .ref (qW 0)), (2, .int (v2)), (3, .int (v3)), (4, .int (v4))]) hx hb dX10_findEnds_70 hl (by decide) rfl (fun ls hl => ?_)
      refine lv_iload_n hx hb dX10_findEnds_72 rfl (lv_at hl 3 rfl) ?_
      refine lv_if_eq (tgt := 80) hx hb dX10_findEnds_73 (by decide) (fun hc => ?_) (fun hc => ?_)
      · have hf := tc_pos hc hf
        refine lv_aload_n hx hb dX10_findEnds_80 rfl (lv_at hl 1 rfl) ?_
        refine va_get (D := (dC, dI)) (ci := 10) (v := .ref (qT 0)) (C := RX10) (T := TX10) (N := 4) hx hb hts i_X10 hown hK hP 0 rfl rfl 0 (by decide) (hts _ wf_X10_20) (fun _ h9 => h9) rfl dX10_findEnds_81 ?_
        refine lv_iload hx hb dX10_findEnds_84 (lv_at hl 0 rfl) ?_
        obtain ⟨z3, hg, hf⟩ := tc_bi hf
        refine tc_iV (As := [.int (jmax (0 : Int32) (z2 - v4))]) (rest := []) (b := qT 0) (wc := w7 ca qT ST) (wr := w10 ca qW (.ref (qT 0)) SW) X hP hD hS (mX7_landing hg) okX7_landing wl_X10_44 wi_X7_landing ws_X7_X7_landing_X7_landing ⟨rfl, rfl, Nat.le_of_ble_eq_true rfl, Nat.le_of_ble_eq_true rfl⟩ 7 0 rfl rfl [3, 4, 5, 6, 7, 8, 9, 10, 11, 12, 13] [0, 1, 2] ⟨rfl, rfl, rfl, rfl, by decide⟩ rfl hl.1 (Nat.le_of_ble_eq_true rfl) dX10_findEnds_86 (fun H locs hP hD hS => ?_)
        have hP := hP.sub (ws' := (w10 ca qW (.ref (qT 0)) SW ++ w7 ca qT ST)) [0, 1, 2, 3, 4, 5, 6, 7, 8, 9, 10, 11, 12, 13] rfl
        have hD := hD.sub (ws' := (w10 ca qW (.ref (qT 0)) SW ++ w7 ca qT ST)) [0, 1, 2, 3, 4, 5, 6, 7, 8, 9, 10, 11, 12, 13] rfl rfl
        exact tX10_findEnds_89 X z ST k18 (fX10_findEnds_49 ST k18 n) hk18 ih SW v2 v3 v4 (jmax (0 : Int32) (z2 - v4)) z3 hf _ _ _ hP hD hS (lv_sub hl [1, 2, 3, 4, 0] rfl)
      · have hf := tc_neg hc hf
        refine lv_iconst (v := (-1 : Int32)) hx hb dX10_findEnds_76 (by decide) ?_
        refine lv_goto (tgt := 89) hx hb dX10_findEnds_77 (by decide) ?_
        exact tX10_findEnds_89 X z ST k18 (fX10_findEnds_49 ST k18 n) hk18 ih SW v2 v3 v4 (jmax (0 : Int32) (z2 - v4)) (-1 : Int32) hf _ _ _ hP hD hS (lv_sub hl [1, 2, 3, 4, 0] rfl)
set_option maxRecDepth 20000 in
theorem tX10_findEnds_18 {qW : Nat → Nat} {qT : Nat → Nat}  (X : tc_X dC dI ca A RX10 cX10_findEnds 7 none p s m args meth c) (z : ms_T)  (ST : ms_T)   : ∀ n : Nat, ∀ (SW : ms_T) (v2 : Int32), fX10_findEnds_18 ST n SW v2 = some z → ∀ (H : Heap) (locs : List Loc) (ls : Array Slot), va_P (dC, dI) classes (w10 ca qW (.ref (qT 0)) SW ++ w7 ca qT ST) H → va_D A (w10 ca qW (.ref (qT 0)) SW ++ w7 ca qT ST) → va_S A s.heap H locs → lv_has ls 7 [(0, .ref (qW 0)), (2, .int (v2))] → W p l e rmX10_findEnds s m args below meth c H locs 0 0 (MQ below (tc_QV dC dI ca A (w10 ca qW (.ref (qT 0)) z ++ w7 ca qT ST)) args s 0 0 A) (F0 m 18 ls []) := by
  obtain ⟨hx, hb, hr, hml, hown, hts, hlk, hK, hA, hG⟩ := id X
  intro n
  induction n with
  | zero => intro SW v2 hf; exact absurd (show none = some z from hf) (fun h => by cases h)
  | succ n ih =>
    intro SW v2 hf H locs ls hP hD hS hl
    rw [fX10_findEnds_18] at hf
    refine lv_iload_n hx hb dX10_findEnds_18 rfl (lv_at hl 1 rfl) ?_
    refine lv_aload_n hx hb dX10_findEnds_19 rfl (lv_at hl 0 rfl) ?_
    refine va_get (D := (dC, dI)) (ci := 10) (v := .ref (qT 0)) (C := RX10) (T := TX10) (N := 4) hx hb hts i_X10 hown hK hP 0 rfl rfl 0 (by decide) (hts _ wf_X10_20) (fun _ h9 => h9) rfl dX10_findEnds_20 ?_
    refine va_get (D := (dC, dI)) (ci := 7) (v := .int (gi ST 4)) (C := RX7) (T := TX7) (N := 18) hx hb hts i_X7 hown hK hP 3 rfl rfl 4 (by decide) (hts _ wf_X10_31) (fun _ h9 => h9) rfl dX10_findEnds_23 ?_
    refine lv_icmp_ge (tgt := 130) hx hb dX10_findEnds_26 (by decide) (fun hc => ?_) (fun hc => ?_)
    · have hf := tc_pos hc hf
      obtain rfl := Option.some.inj hf
      exact tc_rv X hP hD hS rfl dX10_findEnds_130 rfl
    · have hf := tc_neg hc hf
      refine lv_aload_n hx hb dX10_findEnds_29 rfl (lv_at hl 0 rfl) ?_
      refine va_get (D := (dC, dI)) (ci := 10) (v := .int (gi SW 1)) (C := RX10) (T := TX10) (N := 4) hx hb hts i_X10 hown hK hP 0 rfl rfl 1 (by decide) (hts _ wf_X10_28) (fun _ h9 => h9) rfl dX10_findEnds_30 ?_
      refine lv_iload_n hx hb dX10_findEnds_33 rfl (lv_at hl 1 rfl) ?_
      refine lv_ishr hx hb dX10_findEnds_34 ?_
      refine lv_iconst (v := (1 : Int32)) hx hb dX10_findEnds_35 (by decide) ?_
      refine lv_iand hx hb dX10_findEnds_36 ?_
      refine lv_if_eq (tgt := 44) hx hb dX10_findEnds_37 (by decide) (fun hc => ?_) (fun hc => ?_)
      · have hf := tc_pos hc hf
        refine lv_iconst (v := (0 : Int32)) hx hb dX10_findEnds_44 (by decide) ?_
        refine lv_istore_n (lv' := [(3, .int ((0 : Int32))), (0, .ref (qW 0)), (2, .int (v2))]) hx hb dX10_findEnds_45 rfl hl (by decide) rfl (fun ls hl => ?_)
        refine lv_iconst (v := (0 : Int32)) hx hb dX10_findEnds_46 (by decide) ?_
        refine lv_istore (lv' := [(4, .int ((0 : Int32))), (3, .int ((0 : Int32))), (0, .ref (qW 0)), (2, .int (v2))]) hx hb dX10_findEnds_47 hl (by decide) rfl (fun ls hl => ?_)
        exact tX10_findEnds_49 X z ST (fX10_findEnds_18 ST n) ih FU SW v2 (0 : Int32) (0 : Int32) hf _ _ _ hP hD hS (lv_sub hl [2, 3, 1, 0] rfl)
      · have hf := tc_neg hc hf
        refine lv_iconst (v := (1 : Int32)) hx hb dX10_findEnds_40 (by decide) ?_
        refine lv_goto (tgt := 45) hx hb dX10_findEnds_41 (by decide) ?_
        refine lv_istore_n (lv' := [(3, .int ((1 : Int32))), (0, .ref (qW 0)), (2, .int (v2))]) hx hb dX10_findEnds_45 rfl hl (by decide) rfl (fun ls hl => ?_)
        refine lv_iconst (v := (0 : Int32)) hx hb dX10_findEnds_46 (by decide) ?_
        refine lv_istore (lv' := [(4, .int ((0 : Int32))), (3, .int ((1 : Int32))), (0, .ref (qW 0)), (2, .int (v2))]) hx hb dX10_findEnds_47 hl (by decide) rfl (fun ls hl => ?_)
        exact tX10_findEnds_49 X z ST (fX10_findEnds_18 ST n) ih FU SW v2 (1 : Int32) (0 : Int32) hf _ _ _ hP hD hS (lv_sub hl [2, 3, 1, 0] rfl)
set_option maxRecDepth 20000 in
theorem mX10_findEnds {qW : Nat → Nat} {qT : Nat → Nat} {rW0 : Value} {SW : ms_T} {ST : ms_T}  {z : ms_T}  (hf : fX10_findEnds SW ST = some z) : tc_MV l dC dI ca yX10_findEnds cX10_findEnds 7 none rmX10_findEnds [.ref (qW 0), .ref (qT 0)] (w10 ca qW (rW0) SW ++ w7 ca qT ST) (w10 ca qW (.ref (qT 0)) z ++ w7 ca qT ST) := by
  refine tc_metV (own := RX10) (by decide) rfl ?_ (Nat.le_of_ble_eq_true rfl)
  intro p e s m below meth c A X hP hD hS ls hl
  obtain ⟨hx, hb, hr, hml, hown, hts, hlk, hK, hA, hG⟩ := id X
  unfold fX10_findEnds at hf
  have hl : lv_has ls 7 [(0, .ref (qW 0)), (1, .ref (qT 0))] := hl
  refine lv_aload_n hx hb dX10_findEnds_0 rfl (lv_at hl 0 rfl) ?_
  refine lv_aload_n hx hb dX10_findEnds_1 rfl (lv_at hl 1 rfl) ?_
  refine va_put (D := (dC, dI)) (ci := 10) (v := .ref (qT 0)) (ty := .object "TalkChutes$Table") (C := RX10) (T := TX10) (N := 4) hx hb hts i_X10 tyX10 tyX10_ok nmX10 hown hK hP hD hS 0 rfl rfl 0 (by decide) (hts _ wf_X10_20) (fun _ h9 => h9) rfl (tyX10_ok 0 (by decide)) rfl rfl (Nat.le_of_ble_eq_true rfl) dX10_findEnds_2 (fun H locs hP hD hS => ?_)
  have hP := tc_eP (pw10_7_0_0 ca qW qT (rW0) SW ST (.ref (qT 0))) hP
  have hD := tc_eD (pw10_7_0_0 ca qW qT (rW0) SW ST (.ref (qT 0))) hD
  refine lv_aload_n hx hb dX10_findEnds_5 rfl (lv_at hl 0 rfl) ?_
  refine lv_aload_n hx hb dX10_findEnds_6 rfl (lv_at hl 0 rfl) ?_
  refine va_get (D := (dC, dI)) (ci := 10) (v := .ref (qT 0)) (C := RX10) (T := TX10) (N := 4) hx hb hts i_X10 hown hK hP 0 rfl rfl 0 (by decide) (hts _ wf_X10_20) (fun _ h9 => h9) rfl dX10_findEnds_7 ?_
  obtain ⟨z1, hg, hf⟩ := tc_bi hf
  refine tc_iV (As := []) (rest := [.ref (qW 0)]) (b := qT 0) (wc := w7 ca qT ST) (wr := w10 ca qW (.ref (qT 0)) SW) X hP hD hS (mX7_standing hg) okX7_standing wl_X10_24 wi_X7_standing ws_X7_X7_standing_X7_standing ⟨rfl, rfl, Nat.le_of_ble_eq_true rfl, Nat.le_of_ble_eq_true rfl⟩ 7 0 rfl rfl [3, 4, 5, 6, 7, 8, 9, 10, 11, 12, 13] [0, 1, 2] ⟨rfl, rfl, rfl, rfl, by decide⟩ rfl hl.1 (Nat.le_of_ble_eq_true rfl) dX10_findEnds_10 (fun H locs hP hD hS => ?_)
  have hP := hP.sub (ws' := (w10 ca qW (.ref (qT 0)) SW ++ w7 ca qT ST)) [0, 1, 2, 3, 4, 5, 6, 7, 8, 9, 10, 11, 12, 13] rfl
  have hD := hD.sub (ws' := (w10 ca qW (.ref (qT 0)) SW ++ w7 ca qT ST)) [0, 1, 2, 3, 4, 5, 6, 7, 8, 9, 10, 11, 12, 13] rfl rfl
  refine va_put (D := (dC, dI)) (ci := 10) (v := .int (z1)) (ty := .int) (C := RX10) (T := TX10) (N := 4) hx hb hts i_X10 tyX10 tyX10_ok nmX10 hown hK hP hD hS 0 rfl rfl 1 (by decide) (hts _ wf_X10_28) (fun _ h9 => h9) rfl (tyX10_ok 1 (by decide)) rfl rfl (Nat.le_of_ble_eq_true rfl) dX10_findEnds_13 (fun H locs hP hD hS => ?_)
  have hP := tc_eP (pw10_7_0_1 ca qW qT (.ref (qT 0)) SW ST z1) hP
  have hD := tc_eD (pw10_7_0_1 ca qW qT (.ref (qT 0)) SW ST z1) hD
  refine lv_iconst (v := (0 : Int32)) hx hb dX10_findEnds_16 (by decide) ?_
  refine lv_istore_n (lv' := [(2, .int ((0 : Int32))), (0, .ref (qW 0)), (1, .ref (qT 0))]) hx hb dX10_findEnds_17 rfl hl (by decide) rfl (fun ls hl => ?_)
  exact tX10_findEnds_18 X z ST FU (si SW 1 z1) (0 : Int32) hf _ _ _ hP hD hS (lv_sub hl [1, 0] rfl)
def fX10_shortestBy_6  (SW : ms_T) (ST : ms_T)  : Nat → Int32 → Int32 → Int32 → Option (Int32)
  | 0, _, _, _ => none
  | n + 1, v1, v2, v3 =>
    if ((gi ST 4) * (4 : Int32)) ≤ v3 then
      some (v2)
    else
      if inb v3 32 = true then
        if (ia SW 1 v3) = (-1 : Int32) then
          fX10_shortestBy_6 SW ST n v1 v2 (v3 + (1 : Int32))
        else
          (fX7_isNear ST (v3 / (4 : Int32)) v1).bind fun z2 =>
          if z2 = 0 then
            fX10_shortestBy_6 SW ST n v1 v2 (v3 + (1 : Int32))
          else
            if inb v3 32 = true then
              if inb (ia SW 1 v3) 10 = true then
                fX10_shortestBy_6 SW ST n v1 (jmin v2 ((ia SW 2 (ia SW 1 v3)) + (1 : Int32))) (v3 + (1 : Int32))
              else none
            else none
      else none
def fX10_shortestBy  (SW : ms_T) (ST : ms_T) (a1 : Int32) : Option (Int32) :=
  fX10_shortestBy_6 SW ST FU a1 (1000 : Int32) (0 : Int32)
abbrev rmX10_shortestBy : Room := { frames := 2, cells := 0, slots := 0, locals := 45 }
theorem okX10_shortestBy : tc_ok yX10_shortestBy cX10_shortestBy 4 (some .int) 1 := ⟨wc_X10_shortestBy, wn_X10, by decide, by decide, by decide +kernel⟩
set_option maxRecDepth 20000 in
theorem tX10_shortestBy_6 {qW : Nat → Nat} {qT : Nat → Nat}  (X : tc_X dC dI ca A RX10 cX10_shortestBy 4 (some .int) p s m args meth c) (z : Int32)  (SW : ms_T) (ST : ms_T)   : ∀ n : Nat, ∀ (v1 : Int32) (v2 : Int32) (v3 : Int32), fX10_shortestBy_6 SW ST n v1 v2 v3 = some z → ∀ (H : Heap) (locs : List Loc) (ls : Array Slot), va_P (dC, dI) classes (w10 ca qW (.ref (qT 0)) SW ++ w7 ca qT ST) H → va_D A (w10 ca qW (.ref (qT 0)) SW ++ w7 ca qT ST) → va_S A s.heap H locs → lv_has ls 4 [(0, .ref (qW 0)), (1, .int (v1)), (2, .int (v2)), (3, .int (v3))] → W p l e rmX10_shortestBy s m args below meth c H locs 0 0 (MQ below (tc_QI dC dI ca A (w10 ca qW (.ref (qT 0)) SW ++ w7 ca qT ST) (z)) args s 0 0 A) (F0 m 6 ls []) := by
  obtain ⟨hx, hb, hr, hml, hown, hts, hlk, hK, hA, hG⟩ := id X
  intro n
  induction n with
  | zero => intro v1 v2 v3 hf; exact absurd (show none = some z from hf) (fun h => by cases h)
  | succ n ih =>
    intro v1 v2 v3 hf H locs ls hP hD hS hl
    rw [fX10_shortestBy_6] at hf
    refine lv_iload_n hx hb dX10_shortestBy_6 rfl (lv_at hl 3 rfl) ?_
    refine lv_aload_n hx hb dX10_shortestBy_7 rfl (lv_at hl 0 rfl) ?_
    refine va_get (D := (dC, dI)) (ci := 10) (v := .ref (qT 0)) (C := RX10) (T := TX10) (N := 4) hx hb hts i_X10 hown hK hP 0 rfl rfl 0 (by decide) (hts _ wf_X10_20) (fun _ h9 => h9) rfl dX10_shortestBy_8 ?_
    refine va_get (D := (dC, dI)) (ci := 7) (v := .int (gi ST 4)) (C := RX7) (T := TX7) (N := 18) hx hb hts i_X7 hown hK hP 3 rfl rfl 4 (by decide) (hts _ wf_X10_31) (fun _ h9 => h9) rfl dX10_shortestBy_11 ?_
    refine lv_iconst (v := (4 : Int32)) hx hb dX10_shortestBy_14 (by decide) ?_
    refine lv_imul hx hb dX10_shortestBy_15 ?_
    refine lv_icmp_ge (tgt := 67) hx hb dX10_shortestBy_16 (by decide) (fun hc => ?_) (fun hc => ?_)
    · have hf := tc_pos hc hf
      refine lv_iload_n hx hb dX10_shortestBy_67 rfl (lv_at hl 2 rfl) ?_
      obtain rfl := Option.some.inj hf
      exact tc_ri X hP hD hS rfl dX10_shortestBy_68 rfl rfl
    · have hf := tc_neg hc hf
      refine lv_aload_n hx hb dX10_shortestBy_19 rfl (lv_at hl 0 rfl) ?_
      refine va_get (D := (dC, dI)) (ci := 10) (v := .ref (qW 1)) (C := RX10) (T := TX10) (N := 4) hx hb hts i_X10 hown hK hP 0 rfl rfl 2 (by decide) (hts _ wf_X10_13) (fun _ h9 => h9) rfl dX10_shortestBy_20 ?_
      refine lv_iload_n hx hb dX10_shortestBy_23 rfl (lv_at hl 3 rfl) ?_
      obtain ⟨hi1, hf⟩ := tc_in hf
      refine va_iald hx hb hK hP 1 1 rfl rfl hi1 dX10_shortestBy_24 ?_
      refine lv_iconst (v := (-1 : Int32)) hx hb dX10_shortestBy_25 (by decide) ?_
      refine lv_icmp_eq (tgt := 61) hx hb dX10_shortestBy_26 (by decide) (fun hc => ?_) (fun hc => ?_)
      · have hf := tc_pos hc hf
        refine lv_iinc (v := v3 + (1 : Int32)) (lv' := [(3, .int (v3 + (1 : Int32))), (0, .ref (qW 0)), (1, .int (v1)), (2, .int (v2))]) hx hb dX10_shortestBy_61 hl (k := 3) rfl rfl (by decide) rfl (fun ls hl => ?_)
        refine lv_goto (tgt := 6) hx hb dX10_shortestBy_64 (by decide) ?_
        exact ih v1 v2 (v3 + (1 : Int32)) hf _ _ _ hP hD hS (lv_sub hl [1, 2, 3, 0] rfl)
      · have hf := tc_neg hc hf
        refine lv_aload_n hx hb dX10_shortestBy_29 rfl (lv_at hl 0 rfl) ?_
        refine va_get (D := (dC, dI)) (ci := 10) (v := .ref (qT 0)) (C := RX10) (T := TX10) (N := 4) hx hb hts i_X10 hown hK hP 0 rfl rfl 0 (by decide) (hts _ wf_X10_20) (fun _ h9 => h9) rfl dX10_shortestBy_30 ?_
        refine lv_iload_n hx hb dX10_shortestBy_33 rfl (lv_at hl 3 rfl) ?_
        refine lv_iconst (v := (4 : Int32)) hx hb dX10_shortestBy_34 (by decide) ?_
        refine lv_idiv hx hb dX10_shortestBy_35 (by decide) ?_
        refine lv_iload_n hx hb dX10_shortestBy_36 rfl (lv_at hl 1 rfl) ?_
        obtain ⟨z2, hg, hf⟩ := tc_bi hf
        refine tc_iV (As := [.int (v3 / (4 : Int32)), .int (v1)]) (rest := []) (b := qT 0) (wc := w7 ca qT ST) (wr := w10 ca qW (.ref (qT 0)) SW) X hP hD hS (mX7_isNear hg) okX7_isNear wl_X10_60 wi_X7_isNear ws_X7_X7_isNear_X7_isNear ⟨rfl, rfl, Nat.le_of_ble_eq_true rfl, Nat.le_of_ble_eq_true rfl⟩ 7 0 rfl rfl [3, 4, 5, 6, 7, 8, 9, 10, 11, 12, 13] [0, 1, 2] ⟨rfl, rfl, rfl, rfl, by decide⟩ rfl hl.1 (Nat.le_of_ble_eq_true rfl) dX10_shortestBy_37 (fun H locs hP hD hS => ?_)
        have hP := hP.sub (ws' := (w10 ca qW (.ref (qT 0)) SW ++ w7 ca qT ST)) [0, 1, 2, 3, 4, 5, 6, 7, 8, 9, 10, 11, 12, 13] rfl
        have hD := hD.sub (ws' := (w10 ca qW (.ref (qT 0)) SW ++ w7 ca qT ST)) [0, 1, 2, 3, 4, 5, 6, 7, 8, 9, 10, 11, 12, 13] rfl rfl
        refine lv_if_eq (tgt := 61) hx hb dX10_shortestBy_40 (by decide) (fun hc => ?_) (fun hc => ?_)
        · have hf := tc_pos hc hf
          refine lv_iinc (v := v3 + (1 : Int32)) (lv' := [(3, .int (v3 + (1 : Int32))), (0, .ref (qW 0)), (1, .int (v1)), (2, .int (v2))]) hx hb dX10_shortestBy_61 hl (k := 3) rfl rfl (by decide) rfl (fun ls hl => ?_)
          refine lv_goto (tgt := 6) hx hb dX10_shortestBy_64 (by decide) ?_
          exact ih v1 v2 (v3 + (1 : Int32)) hf _ _ _ hP hD hS (lv_sub hl [1, 2, 3, 0] rfl)
        · have hf := tc_neg hc hf
          refine lv_iload_n hx hb dX10_shortestBy_43 rfl (lv_at hl 2 rfl) ?_
          refine lv_aload_n hx hb dX10_shortestBy_44 rfl (lv_at hl 0 rfl) ?_
          refine va_get (D := (dC, dI)) (ci := 10) (v := .ref (qW 2)) (C := RX10) (T := TX10) (N := 4) hx hb hts i_X10 hown hK hP 0 rfl rfl 3 (by decide) (hts _ wf_X10_17) (fun _ h9 => h9) rfl dX10_shortestBy_45 ?_
          refine lv_aload_n hx hb dX10_shortestBy_48 rfl (lv_at hl 0 rfl) ?_
          refine va_get (D := (dC, dI)) (ci := 10) (v := .ref (qW 1)) (C := RX10) (T := TX10) (N := 4) hx hb hts i_X10 hown hK hP 0 rfl rfl 2 (by decide) (hts _ wf_X10_13) (fun _ h9 => h9) rfl dX10_shortestBy_49 ?_
          refine lv_iload_n hx hb dX10_shortestBy_52 rfl (lv_at hl 3 rfl) ?_
          obtain ⟨hi3, hf⟩ := tc_in hf
          refine va_iald hx hb hK hP 1 1 rfl rfl hi3 dX10_shortestBy_53 ?_
          obtain ⟨hi4, hf⟩ := tc_in hf
          refine va_iald hx hb hK hP 2 1 rfl rfl hi4 dX10_shortestBy_54 ?_
          refine lv_iconst (v := (1 : Int32)) hx hb dX10_shortestBy_55 (by decide) ?_
          refine lv_iadd hx hb dX10_shortestBy_56 ?_
          refine tc_mmin (rest := []) X hl.1 wl_X10_57 (Nat.le_of_ble_eq_true rfl) (Nat.le_of_ble_eq_true rfl) dX10_shortestBy_57 ?_
          refine lv_istore_n (lv' := [(2, .int (jmin v2 ((ia SW 2 (ia SW 1 v3)) + (1 : Int32)))), (0, .ref (qW 0)), (1, .int (v1)), (3, .int (v3))]) hx hb dX10_shortestBy_60 rfl hl (by decide) rfl (fun ls hl => ?_)
          refine lv_iinc (v := v3 + (1 : Int32)) (lv' := [(3, .int (v3 + (1 : Int32))), (2, .int (jmin v2 ((ia SW 2 (ia SW 1 v3)) + (1 : Int32)))), (0, .ref (qW 0)), (1, .int (v1))]) hx hb dX10_shortestBy_61 hl (k := 3) rfl rfl (by decide) rfl (fun ls hl => ?_)
          refine lv_goto (tgt := 6) hx hb dX10_shortestBy_64 (by decide) ?_
          exact ih v1 (jmin v2 ((ia SW 2 (ia SW 1 v3)) + (1 : Int32))) (v3 + (1 : Int32)) hf _ _ _ hP hD hS (lv_sub hl [2, 3, 1, 0] rfl)
set_option maxRecDepth 20000 in
theorem mX10_shortestBy {qW : Nat → Nat} {qT : Nat → Nat}  {SW : ms_T} {ST : ms_T} {a1 : Int32} {z : Int32}  (hf : fX10_shortestBy SW ST a1 = some z) : tc_MI l dC dI ca yX10_shortestBy cX10_shortestBy 4 (some .int) rmX10_shortestBy [.ref (qW 0), .int (a1)] (w10 ca qW (.ref (qT 0)) SW ++ w7 ca qT ST) (w10 ca qW (.ref (qT 0)) SW ++ w7 ca qT ST) (z) := by
  refine tc_metI (own := RX10) (by decide) rfl ?_ (Nat.le_of_ble_eq_true rfl)
  intro p e s m below meth c A X hP hD hS ls hl
  obtain ⟨hx, hb, hr, hml, hown, hts, hlk, hK, hA, hG⟩ := id X
  unfold fX10_shortestBy at hf
  have hl : lv_has ls 4 [(0, .ref (qW 0)), (1, .int (a1))] := hl
  refine lv_sipush (v := (1000 : Int32)) hx hb dX10_shortestBy_0 (by decide) ?_
  refine lv_istore_n (lv' := [(2, .int ((1000 : Int32))), (0, .ref (qW 0)), (1, .int (a1))]) hx hb dX10_shortestBy_3 rfl hl (by decide) rfl (fun ls hl => ?_)
  refine lv_iconst (v := (0 : Int32)) hx hb dX10_shortestBy_4 (by decide) ?_
  refine lv_istore_n (lv' := [(3, .int ((0 : Int32))), (2, .int ((1000 : Int32))), (0, .ref (qW 0)), (1, .int (a1))]) hx hb dX10_shortestBy_5 rfl hl (by decide) rfl (fun ls hl => ?_)
  exact tX10_shortestBy_6 X z SW ST FU a1 (1000 : Int32) (0 : Int32) hf _ _ _ hP hD hS (lv_sub hl [2, 3, 1, 0] rfl)
theorem aw10_7_0_2 (ca : Nat → ClassId) (q0 q1 : Nat → Nat) (r0_0 : Value) (S0 S1 : ms_T) (i v : Int32) : (w10 ca q0 r0_0 S0 ++ w7 ca q1 S1 : va_W).set 2 (q0 2, .inl (ca 1, 10, .inl (upd (ra S0 2) i.toNatClampNeg v))) = w10 ca q0 r0_0 (sa S0 2 i v) ++ w7 ca q1 S1 := rfl
def fX10_sayingsTo_64  (ST : ms_T) (k49 : ms_T → Int32 → Int32 → Option (Int32 × ms_T)) : Nat → ms_T → Int32 → Int32 → Int32 → Option (Int32 × ms_T)
  | 0, _, _, _, _ => none
  | n + 1, SW, v2, v4, v5 =>
    if (gi ST 1) < v5 then
      k49 SW v2 (v4 + (1 : Int32))
    else
      if inb v5 10 = true then
        (fX10_shortestBy SW ST v5).bind fun z5 =>
        if inb v5 10 = true then
          fX10_sayingsTo_64 ST k49 n (sa SW 2 v5 (jmin (ia SW 2 v5) z5)) v2 v4 (v5 + (1 : Int32))
        else none
      else none
def fX10_sayingsTo_49  (ST : ms_T)  : Nat → ms_T → Int32 → Int32 → Option (Int32 × ms_T)
  | 0, _, _, _ => none
  | n + 1, SW, v2, v4 =>
    if (gi ST 1) ≤ v4 then
      if inb v2 10 = true then
        if (1000 : Int32) ≤ (ia SW 2 v2) then
          some ((-1 : Int32), SW)
        else
          if inb v2 10 = true then
            some (ia SW 2 v2, SW)
          else none
      else none
    else
      fX10_sayingsTo_64 ST (fX10_sayingsTo_49 ST n) FU SW v2 v4 (1 : Int32)
def fX10_sayingsTo_8  (ST : ms_T)  : Nat → ms_T → Int32 → Int32 → Int32 → Option (Int32 × ms_T)
  | 0, _, _, _, _ => none
  | n + 1, SW, v2, v3, v4 =>
    if (gi ST 1) < v4 then
      fX10_sayingsTo_49 ST FU SW v2 (0 : Int32)
    else
      if v4 = v3 then
        if inb v4 10 = true then
          fX10_sayingsTo_8 ST n (sa SW 2 v4 (0 : Int32)) v2 v3 (v4 + (1 : Int32))
        else none
      else
        if inb v4 10 = true then
          fX10_sayingsTo_8 ST n (sa SW 2 v4 (1000 : Int32)) v2 v3 (v4 + (1 : Int32))
        else none
def fX10_sayingsTo  (SW : ms_T) (ST : ms_T) (a2 : Int32) (a3 : Int32) : Option (Int32 × ms_T) :=
  (fX10_findEnds SW ST).bind fun z1 =>
  fX10_sayingsTo_8 ST FU z1 a2 a3 (0 : Int32)
abbrev rmX10_sayingsTo : Room := { frames := 3, cells := 0, slots := 0, locals := 71 }
theorem okX10_sayingsTo : tc_ok yX10_sayingsTo cX10_sayingsTo 6 (some .int) 3 := ⟨wc_X10_sayingsTo, wn_X10, by decide, by decide, by decide +kernel⟩
set_option maxRecDepth 20000 in
theorem tX10_sayingsTo_64 {qW : Nat → Nat} {qT : Nat → Nat}  (X : tc_X dC dI ca A RX10 cX10_sayingsTo 6 (some .int) p s m args meth c) (z : Int32 × ms_T)  (ST : ms_T) (k49 : ms_T → Int32 → Int32 → Option (Int32 × ms_T)) (hk49 : ∀ (SW : ms_T) (v2 : Int32) (v4 : Int32), k49 SW v2 v4 = some z → ∀ (H : Heap) (locs : List Loc) (ls : Array Slot), va_P (dC, dI) classes (w10 ca qW (.ref (qT 0)) SW ++ w7 ca qT ST) H → va_D A (w10 ca qW (.ref (qT 0)) SW ++ w7 ca qT ST) → va_S A s.heap H locs → lv_has ls 6 [(0, .ref (qW 0)), (2, .int (v2)), (4, .int (v4))] → W p l e rmX10_sayingsTo s m args below meth c H locs 0 0 (MQ below (tc_QI dC dI ca A (w10 ca qW (.ref (qT 0)) z.2 ++ w7 ca qT ST) (z.1)) args s 0 0 A) (F0 m 49 ls [])) : ∀ n : Nat, ∀ (SW : ms_T) (v2 : Int32) (v4 : Int32) (v5 : Int32), fX10_sayingsTo_64 ST k49 n SW v2 v4 v5 = some z → ∀ (H : Heap) (locs : List Loc) (ls : Array Slot), va_P (dC, dI) classes (w10 ca qW (.ref (qT 0)) SW ++ w7 ca qT ST) H → va_D A (w10 ca qW (.ref (qT 0)) SW ++ w7 ca qT ST) → va_S A s.heap H locs → lv_has ls 6 [(0, .ref (qW 0)), (2, .int (v2)), (4, .int (v4)), (5, .int (v5))] → W p l e rmX10_sayingsTo s m args below meth c H locs 0 0 (MQ below (tc_QI dC dI ca A (w10 ca qW (.ref (qT 0)) z.2 ++ w7 ca qT ST) (z.1)) args s 0 0 A) (F0 m 64 ls []) := by
  obtain ⟨hx, hb, hr, hml, hown, hts, hlk, hK, hA, hG⟩ := id X
  intro n
  induction n with
  | zero => intro SW v2 v4 v5 hf; exact absurd (show none = some z from hf) (fun h => by cases h)
  | succ n ih =>
    intro SW v2 v4 v5 hf H locs ls hP hD hS hl
    rw [fX10_sayingsTo_64] at hf
    refine lv_iload hx hb dX10_sayingsTo_64 (lv_at hl 3 rfl) ?_
    refine lv_aload_n hx hb dX10_sayingsTo_66 rfl (lv_at hl 0 rfl) ?_
    refine va_get (D := (dC, dI)) (ci := 10) (v := .ref (qT 0)) (C := RX10) (T := TX10) (N := 4) hx hb hts i_X10 hown hK hP 0 rfl rfl 0 (by decide) (hts _ wf_X10_20) (fun _ h9 => h9) rfl dX10_sayingsTo_67 ?_
    refine va_get (D := (dC, dI)) (ci := 7) (v := .int (gi ST 1)) (C := RX7) (T := TX7) (N := 18) hx hb hts i_X7 hown hK hP 3 rfl rfl 1 (by decide) (hts _ wf_X10_51) (fun _ h9 => h9) rfl dX10_sayingsTo_70 ?_
    refine lv_icmp_gt (tgt := 105) hx hb dX10_sayingsTo_73 (by decide) (fun hc => ?_) (fun hc => ?_)
    · have hf := tc_pos hc hf
      refine lv_iinc (v := v4 + (1 : Int32)) (lv' := [(4, .int (v4 + (1 : Int32))), (0, .ref (qW 0)), (2, .int (v2)), (5, .int (v5))]) hx hb dX10_sayingsTo_105 hl (k := 2) rfl rfl (by decide) rfl (fun ls hl => ?_)
      refine lv_goto (tgt := 49) hx hb dX10_sayingsTo_108 (by decide) ?_
      exact hk49 SW v2 (v4 + (1 : Int32)) hf _ _ _ hP hD hS (lv_sub hl [1, 2, 0] rfl)
    · have hf := tc_neg hc hf
      refine lv_aload_n hx hb dX10_sayingsTo_76 rfl (lv_at hl 0 rfl) ?_
      refine va_get (D := (dC, dI)) (ci := 10) (v := .ref (qW 2)) (C := RX10) (T := TX10) (N := 4) hx hb hts i_X10 hown hK hP 0 rfl rfl 3 (by decide) (hts _ wf_X10_17) (fun _ h9 => h9) rfl dX10_sayingsTo_77 ?_
      refine lv_iload hx hb dX10_sayingsTo_80 (lv_at hl 3 rfl) ?_
      refine lv_aload_n hx hb dX10_sayingsTo_82 rfl (lv_at hl 0 rfl) ?_
      refine va_get (D := (dC, dI)) (ci := 10) (v := .ref (qW 2)) (C := RX10) (T := TX10) (N := 4) hx hb hts i_X10 hown hK hP 0 rfl rfl 3 (by decide) (hts _ wf_X10_17) (fun _ h9 => h9) rfl dX10_sayingsTo_83 ?_
      refine lv_iload hx hb dX10_sayingsTo_86 (lv_at hl 3 rfl) ?_
      obtain ⟨hi4, hf⟩ := tc_in hf
      refine va_iald hx hb hK hP 2 1 rfl rfl hi4 dX10_sayingsTo_88 ?_
      refine lv_aload_n hx hb dX10_sayingsTo_89 rfl (lv_at hl 0 rfl) ?_
      refine lv_iload hx hb dX10_sayingsTo_90 (lv_at hl 3 rfl) ?_
      obtain ⟨z5, hg, hf⟩ := tc_bi hf
      refine tc_iVs (As := [.int (v5)]) (rest := [.int (ia SW 2 v5), .int (v5), .ref (qW 2)]) (b := qW 0) X hP hD hS (mX10_shortestBy hg) okX10_shortestBy wl_X10_54 wi_X10_shortestBy ws_X10_X10_shortestBy_X10_shortestBy ⟨rfl, rfl, Nat.le_of_ble_eq_true rfl, Nat.le_of_ble_eq_true rfl⟩ 10 0 rfl rfl rfl hl.1 (Nat.le_of_ble_eq_true rfl) dX10_sayingsTo_92 (fun H locs hP hD hS => ?_)
      refine tc_mmin (rest := [.int (v5), .ref (qW 2)]) X hl.1 wl_X10_57 (Nat.le_of_ble_eq_true rfl) (Nat.le_of_ble_eq_true rfl) dX10_sayingsTo_95 ?_
      obtain ⟨hi6, hf⟩ := tc_in hf
      refine va_iast hx hb hK hP hD hS 2 1 rfl rfl hi6 dX10_sayingsTo_98 (fun H locs hP hD hS => ?_)
      have hP := tc_eP (aw10_7_0_2 ca qW qT (.ref (qT 0)) SW ST v5 (jmin (ia SW 2 v5) z5)) hP
      have hD := tc_eD (aw10_7_0_2 ca qW qT (.ref (qT 0)) SW ST v5 (jmin (ia SW 2 v5) z5)) hD
      refine lv_iinc (v := v5 + (1 : Int32)) (lv' := [(5, .int (v5 + (1 : Int32))), (0, .ref (qW 0)), (2, .int (v2)), (4, .int (v4))]) hx hb dX10_sayingsTo_99 hl (k := 3) rfl rfl (by decide) rfl (fun ls hl => ?_)
      refine lv_goto (tgt := 64) hx hb dX10_sayingsTo_102 (by decide) ?_
      exact ih (sa SW 2 v5 (jmin (ia SW 2 v5) z5)) v2 v4 (v5 + (1 : Int32)) hf _ _ _ hP hD hS (lv_sub hl [1, 2, 3, 0] rfl)
set_option maxRecDepth 20000 in
theorem tX10_sayingsTo_49 {qW : Nat → Nat} {qT : Nat → Nat}  (X : tc_X dC dI ca A RX10 cX10_sayingsTo 6 (some .int) p s m args meth c) (z : Int32 × ms_T)  (ST : ms_T)   : ∀ n : Nat, ∀ (SW : ms_T) (v2 : Int32) (v4 : Int32), fX10_sayingsTo_49 ST n SW v2 v4 = some z → ∀ (H : Heap) (locs : List Loc) (ls : Array Slot), va_P (dC, dI) classes (w10 ca qW (.ref (qT 0)) SW ++ w7 ca qT ST) H → va_D A (w10 ca qW (.ref (qT 0)) SW ++ w7 ca qT ST) → va_S A s.heap H locs → lv_has ls 6 [(0, .ref (qW 0)), (2, .int (v2)), (4, .int (v4))] → W p l e rmX10_sayingsTo s m args below meth c H locs 0 0 (MQ below (tc_QI dC dI ca A (w10 ca qW (.ref (qT 0)) z.2 ++ w7 ca qT ST) (z.1)) args s 0 0 A) (F0 m 49 ls []) := by
  obtain ⟨hx, hb, hr, hml, hown, hts, hlk, hK, hA, hG⟩ := id X
  intro n
  induction n with
  | zero => intro SW v2 v4 hf; exact absurd (show none = some z from hf) (fun h => by cases h)
  | succ n ih =>
    intro SW v2 v4 hf H locs ls hP hD hS hl
    rw [fX10_sayingsTo_49] at hf
    refine lv_iload hx hb dX10_sayingsTo_49 (lv_at hl 2 rfl) ?_
    refine lv_aload_n hx hb dX10_sayingsTo_51 rfl (lv_at hl 0 rfl) ?_
    refine va_get (D := (dC, dI)) (ci := 10) (v := .ref (qT 0)) (C := RX10) (T := TX10) (N := 4) hx hb hts i_X10 hown hK hP 0 rfl rfl 0 (by decide) (hts _ wf_X10_20) (fun _ h9 => h9) rfl dX10_sayingsTo_52 ?_
    refine va_get (D := (dC, dI)) (ci := 7) (v := .int (gi ST 1)) (C := RX7) (T := TX7) (N := 18) hx hb hts i_X7 hown hK hP 3 rfl rfl 1 (by decide) (hts _ wf_X10_51) (fun _ h9 => h9) rfl dX10_sayingsTo_55 ?_
    refine lv_icmp_ge (tgt := 111) hx hb dX10_sayingsTo_58 (by decide) (fun hc => ?_) (fun hc => ?_)
    · have hf := tc_pos hc hf
      refine lv_aload_n hx hb dX10_sayingsTo_111 rfl (lv_at hl 0 rfl) ?_
      refine va_get (D := (dC, dI)) (ci := 10) (v := .ref (qW 2)) (C := RX10) (T := TX10) (N := 4) hx hb hts i_X10 hown hK hP 0 rfl rfl 3 (by decide) (hts _ wf_X10_17) (fun _ h9 => h9) rfl dX10_sayingsTo_112 ?_
      refine lv_iload_n hx hb dX10_sayingsTo_115 rfl (lv_at hl 1 rfl) ?_
      obtain ⟨hi2, hf⟩ := tc_in hf
      refine va_iald hx hb hK hP 2 1 rfl rfl hi2 dX10_sayingsTo_116 ?_
      refine lv_sipush (v := (1000 : Int32)) hx hb dX10_sayingsTo_117 (by decide) ?_
      refine lv_icmp_ge (tgt := 132) hx hb dX10_sayingsTo_120 (by decide) (fun hc => ?_) (fun hc => ?_)
      · have hf := tc_pos hc hf
        refine lv_iconst (v := (-1 : Int32)) hx hb dX10_sayingsTo_132 (by decide) ?_
        obtain rfl := Option.some.inj hf
        exact tc_ri X hP hD hS rfl dX10_sayingsTo_133 rfl rfl
      · have hf := tc_neg hc hf
        refine lv_aload_n hx hb dX10_sayingsTo_123 rfl (lv_at hl 0 rfl) ?_
        refine va_get (D := (dC, dI)) (ci := 10) (v := .ref (qW 2)) (C := RX10) (T := TX10) (N := 4) hx hb hts i_X10 hown hK hP 0 rfl rfl 3 (by decide) (hts _ wf_X10_17) (fun _ h9 => h9) rfl dX10_sayingsTo_124 ?_
        refine lv_iload_n hx hb dX10_sayingsTo_127 rfl (lv_at hl 1 rfl) ?_
        obtain ⟨hi3, hf⟩ := tc_in hf
        refine va_iald hx hb hK hP 2 1 rfl rfl hi3 dX10_sayingsTo_128 ?_
        refine lv_goto (tgt := 133) hx hb dX10_sayingsTo_129 (by decide) ?_
        obtain rfl := Option.some.inj hf
        exact tc_ri X hP hD hS rfl dX10_sayingsTo_133 rfl rfl
    · have hf := tc_neg hc hf
      refine lv_iconst (v := (1 : Int32)) hx hb dX10_sayingsTo_61 (by decide) ?_
      refine lv_istore (lv' := [(5, .int ((1 : Int32))), (0, .ref (qW 0)), (2, .int (v2)), (4, .int (v4))]) hx hb dX10_sayingsTo_62 hl (by decide) rfl (fun ls hl => ?_)
      exact tX10_sayingsTo_64 X z ST (fX10_sayingsTo_49 ST n) ih FU SW v2 v4 (1 : Int32) hf _ _ _ hP hD hS (lv_sub hl [1, 2, 3, 0] rfl)
set_option maxRecDepth 20000 in
theorem tX10_sayingsTo_8 {qW : Nat → Nat} {qT : Nat → Nat}  (X : tc_X dC dI ca A RX10 cX10_sayingsTo 6 (some .int) p s m args meth c) (z : Int32 × ms_T)  (ST : ms_T)   : ∀ n : Nat, ∀ (SW : ms_T) (v2 : Int32) (v3 : Int32) (v4 : Int32), fX10_sayingsTo_8 ST n SW v2 v3 v4 = some z → ∀ (H : Heap) (locs : List Loc) (ls : Array Slot), va_P (dC, dI) classes (w10 ca qW (.ref (qT 0)) SW ++ w7 ca qT ST) H → va_D A (w10 ca qW (.ref (qT 0)) SW ++ w7 ca qT ST) → va_S A s.heap H locs → lv_has ls 6 [(0, .ref (qW 0)), (2, .int (v2)), (3, .int (v3)), (4, .int (v4))] → W p l e rmX10_sayingsTo s m args below meth c H locs 0 0 (MQ below (tc_QI dC dI ca A (w10 ca qW (.ref (qT 0)) z.2 ++ w7 ca qT ST) (z.1)) args s 0 0 A) (F0 m 8 ls []) := by
  obtain ⟨hx, hb, hr, hml, hown, hts, hlk, hK, hA, hG⟩ := id X
  intro n
  induction n with
  | zero => intro SW v2 v3 v4 hf; exact absurd (show none = some z from hf) (fun h => by cases h)
  | succ n ih =>
    intro SW v2 v3 v4 hf H locs ls hP hD hS hl
    rw [fX10_sayingsTo_8] at hf
    refine lv_iload hx hb dX10_sayingsTo_8 (lv_at hl 3 rfl) ?_
    refine lv_aload_n hx hb dX10_sayingsTo_10 rfl (lv_at hl 0 rfl) ?_
    refine va_get (D := (dC, dI)) (ci := 10) (v := .ref (qT 0)) (C := RX10) (T := TX10) (N := 4) hx hb hts i_X10 hown hK hP 0 rfl rfl 0 (by decide) (hts _ wf_X10_20) (fun _ h9 => h9) rfl dX10_sayingsTo_11 ?_
    refine va_get (D := (dC, dI)) (ci := 7) (v := .int (gi ST 1)) (C := RX7) (T := TX7) (N := 18) hx hb hts i_X7 hown hK hP 3 rfl rfl 1 (by decide) (hts _ wf_X10_51) (fun _ h9 => h9) rfl dX10_sayingsTo_14 ?_
    refine lv_icmp_gt (tgt := 46) hx hb dX10_sayingsTo_17 (by decide) (fun hc => ?_) (fun hc => ?_)
    · have hf := tc_pos hc hf
      refine lv_iconst (v := (0 : Int32)) hx hb dX10_sayingsTo_46 (by decide) ?_
      refine lv_istore (lv' := [(4, .int ((0 : Int32))), (0, .ref (qW 0)), (2, .int (v2)), (3, .int (v3))]) hx hb dX10_sayingsTo_47 hl (by decide) rfl (fun ls hl => ?_)
      exact tX10_sayingsTo_49 X z ST FU SW v2 (0 : Int32) hf _ _ _ hP hD hS (lv_sub hl [1, 2, 0] rfl)
    · have hf := tc_neg hc hf
      refine lv_aload_n hx hb dX10_sayingsTo_20 rfl (lv_at hl 0 rfl) ?_
      refine va_get (D := (dC, dI)) (ci := 10) (v := .ref (qW 2)) (C := RX10) (T := TX10) (N := 4) hx hb hts i_X10 hown hK hP 0 rfl rfl 3 (by decide) (hts _ wf_X10_17) (fun _ h9 => h9) rfl dX10_sayingsTo_21 ?_
      refine lv_iload hx hb dX10_sayingsTo_24 (lv_at hl 3 rfl) ?_
      refine lv_iload hx hb dX10_sayingsTo_26 (lv_at hl 3 rfl) ?_
      refine lv_iload_n hx hb dX10_sayingsTo_28 rfl (lv_at hl 2 rfl) ?_
      refine lv_icmp_ne (tgt := 36) hx hb dX10_sayingsTo_29 (by decide) (fun hc => ?_) (fun hc => ?_)
      · have hf := tc_neg hc hf
        refine lv_sipush (v := (1000 : Int32)) hx hb dX10_sayingsTo_36 (by decide) ?_
        obtain ⟨hi7, hf⟩ := tc_in hf
        refine va_iast hx hb hK hP hD hS 2 1 rfl rfl hi7 dX10_sayingsTo_39 (fun H locs hP hD hS => ?_)
        have hP := tc_eP (aw10_7_0_2 ca qW qT (.ref (qT 0)) SW ST v4 (1000 : Int32)) hP
        have hD := tc_eD (aw10_7_0_2 ca qW qT (.ref (qT 0)) SW ST v4 (1000 : Int32)) hD
        refine lv_iinc (v := v4 + (1 : Int32)) (lv' := [(4, .int (v4 + (1 : Int32))), (0, .ref (qW 0)), (2, .int (v2)), (3, .int (v3))]) hx hb dX10_sayingsTo_40 hl (k := 3) rfl rfl (by decide) rfl (fun ls hl => ?_)
        refine lv_goto (tgt := 8) hx hb dX10_sayingsTo_43 (by decide) ?_
        exact ih (sa SW 2 v4 (1000 : Int32)) v2 v3 (v4 + (1 : Int32)) hf _ _ _ hP hD hS (lv_sub hl [1, 2, 3, 0] rfl)
      · have hf := tc_pos hc hf
        refine lv_iconst (v := (0 : Int32)) hx hb dX10_sayingsTo_32 (by decide) ?_
        refine lv_goto (tgt := 39) hx hb dX10_sayingsTo_33 (by decide) ?_
        obtain ⟨hi8, hf⟩ := tc_in hf
        refine va_iast hx hb hK hP hD hS 2 1 rfl rfl hi8 dX10_sayingsTo_39 (fun H locs hP hD hS => ?_)
        have hP := tc_eP (aw10_7_0_2 ca qW qT (.ref (qT 0)) SW ST v4 (0 : Int32)) hP
        have hD := tc_eD (aw10_7_0_2 ca qW qT (.ref (qT 0)) SW ST v4 (0 : Int32)) hD
        refine lv_iinc (v := v4 + (1 : Int32)) (lv' := [(4, .int (v4 + (1 : Int32))), (0, .ref (qW 0)), (2, .int (v2)), (3, .int (v3))]) hx hb dX10_sayingsTo_40 hl (k := 3) rfl rfl (by decide) rfl (fun ls hl => ?_)
        refine lv_goto (tgt := 8) hx hb dX10_sayingsTo_43 (by decide) ?_
        exact ih (sa SW 2 v4 (0 : Int32)) v2 v3 (v4 + (1 : Int32)) hf _ _ _ hP hD hS (lv_sub hl [1, 2, 3, 0] rfl)
set_option maxRecDepth 20000 in
theorem mX10_sayingsTo {qW : Nat → Nat} {qT : Nat → Nat} {rW0 : Value} {SW : ms_T} {ST : ms_T} {a2 : Int32} {a3 : Int32} {z : Int32 × ms_T}  (hf : fX10_sayingsTo SW ST a2 a3 = some z) : tc_MI l dC dI ca yX10_sayingsTo cX10_sayingsTo 6 (some .int) rmX10_sayingsTo [.ref (qW 0), .ref (qT 0), .int (a2), .int (a3)] (w10 ca qW (rW0) SW ++ w7 ca qT ST) (w10 ca qW (.ref (qT 0)) z.2 ++ w7 ca qT ST) (z.1) := by
  refine tc_metI (own := RX10) (by decide) rfl ?_ (Nat.le_of_ble_eq_true rfl)
  intro p e s m below meth c A X hP hD hS ls hl
  obtain ⟨hx, hb, hr, hml, hown, hts, hlk, hK, hA, hG⟩ := id X
  unfold fX10_sayingsTo at hf
  have hl : lv_has ls 6 [(0, .ref (qW 0)), (1, .ref (qT 0)), (2, .int (a2)), (3, .int (a3))] := hl
  refine lv_aload_n hx hb dX10_sayingsTo_0 rfl (lv_at hl 0 rfl) ?_
  refine lv_aload_n hx hb dX10_sayingsTo_1 rfl (lv_at hl 1 rfl) ?_
  obtain ⟨z1, hg, hf⟩ := tc_bi hf
  refine tc_vVs (As := [.ref (qT 0)]) (rest := []) (b := qW 0) X hP hD hS (mX10_findEnds hg) okX10_findEnds wl_X10_47 wi_X10_findEnds ws_X10_X10_findEnds_X10_findEnds ⟨rfl, rfl, Nat.le_of_ble_eq_true rfl, Nat.le_of_ble_eq_true rfl⟩ 10 0 rfl rfl rfl hl.1 (Nat.le_of_ble_eq_true rfl) dX10_sayingsTo_2 (fun H locs hP hD hS => ?_)
  refine lv_iconst (v := (0 : Int32)) hx hb dX10_sayingsTo_5 (by decide) ?_
  refine lv_istore (lv' := [(4, .int ((0 : Int32))), (0, .ref (qW 0)), (1, .ref (qT 0)), (2, .int (a2)), (3, .int (a3))]) hx hb dX10_sayingsTo_6 hl (by decide) rfl (fun ls hl => ?_)
  exact tX10_sayingsTo_8 X z ST FU z1 a2 a3 (0 : Int32) hf _ _ _ hP hD hS (lv_sub hl [1, 3, 4, 0] rfl)
def fX10_nextSaying_44  (SW : ms_T) (ST : ms_T) (k2 : Int32 → Int32 → Option (Int32)) (v1 : Int32) (v2 : Int32) (t0 : Int32) : Option (Int32) :=
  if t0 = 0 then
    k2 v1 (v2 + (1 : Int32))
  else
    if inb v2 32 = true then
      if inb (ia SW 1 v2) 10 = true then
        if inb v1 10 = true then
          if (ia SW 2 (ia SW 1 v2)) = ((ia SW 2 v1) - (1 : Int32)) then
            some (v2)
          else
            k2 v1 (v2 + (1 : Int32))
        else none
      else none
    else none
def fX10_nextSaying_2  (SW : ms_T) (ST : ms_T)  : Nat → Int32 → Int32 → Option (Int32)
  | 0, _, _ => none
  | n + 1, v1, v2 =>
    if ((gi ST 4) * (4 : Int32)) ≤ v2 then
      some ((-1 : Int32))
    else
      if inb v2 32 = true then
        if (ia SW 1 v2) = (-1 : Int32) then
          fX10_nextSaying_44 SW ST (fX10_nextSaying_2 SW ST n) v1 v2 (0 : Int32)
        else
          (fX7_isNear ST (v2 / (4 : Int32)) v1).bind fun z5 =>
          if z5 = 0 then
            fX10_nextSaying_44 SW ST (fX10_nextSaying_2 SW ST n) v1 v2 (0 : Int32)
          else
            fX10_nextSaying_44 SW ST (fX10_nextSaying_2 SW ST n) v1 v2 (1 : Int32)
      else none
def fX10_nextSaying  (SW : ms_T) (ST : ms_T) (a1 : Int32) : Option (Int32) :=
  fX10_nextSaying_2 SW ST FU a1 (0 : Int32)
abbrev rmX10_nextSaying : Room := { frames := 2, cells := 0, slots := 0, locals := 45 }
theorem okX10_nextSaying : tc_ok yX10_nextSaying cX10_nextSaying 4 (some .int) 1 := ⟨wc_X10_nextSaying, wn_X10, by decide, by decide, by decide +kernel⟩
set_option maxRecDepth 20000 in
theorem tX10_nextSaying_44 {qW : Nat → Nat} {qT : Nat → Nat}  (X : tc_X dC dI ca A RX10 cX10_nextSaying 4 (some .int) p s m args meth c) (z : Int32)  (SW : ms_T) (ST : ms_T) (k2 : Int32 → Int32 → Option (Int32)) (hk2 : ∀ (v1 : Int32) (v2 : Int32), k2 v1 v2 = some z → ∀ (H : Heap) (locs : List Loc) (ls : Array Slot), va_P (dC, dI) classes (w10 ca qW (.ref (qT 0)) SW ++ w7 ca qT ST) H → va_D A (w10 ca qW (.ref (qT 0)) SW ++ w7 ca qT ST) → va_S A s.heap H locs → lv_has ls 4 [(0, .ref (qW 0)), (1, .int (v1)), (2, .int (v2))] → W p l e rmX10_nextSaying s m args below meth c H locs 0 0 (MQ below (tc_QI dC dI ca A (w10 ca qW (.ref (qT 0)) SW ++ w7 ca qT ST) (z)) args s 0 0 A) (F0 m 2 ls [])) : ∀ (v1 : Int32) (v2 : Int32) (t0 : Int32), fX10_nextSaying_44 SW ST k2 v1 v2 t0 = some z → ∀ (H : Heap) (locs : List Loc) (ls : Array Slot), va_P (dC, dI) classes (w10 ca qW (.ref (qT 0)) SW ++ w7 ca qT ST) H → va_D A (w10 ca qW (.ref (qT 0)) SW ++ w7 ca qT ST) → va_S A s.heap H locs → lv_has ls 4 [(0, .ref (qW 0)), (1, .int (v1)), (2, .int (v2))] → W p l e rmX10_nextSaying s m args below meth c H locs 0 0 (MQ below (tc_QI dC dI ca A (w10 ca qW (.ref (qT 0)) SW ++ w7 ca qT ST) (z)) args s 0 0 A) (F0 m 44 ls [.int (t0)]) := by
  obtain ⟨hx, hb, hr, hml, hown, hts, hlk, hK, hA, hG⟩ := id X
  intro v1 v2 t0 hf H locs ls hP hD hS hl
  unfold fX10_nextSaying_44 at hf
  refine lv_istore_n (lv' := [(3, .int (t0)), (0, .ref (qW 0)), (1, .int (v1)), (2, .int (v2))]) hx hb dX10_nextSaying_44 rfl hl (by decide) rfl (fun ls hl => ?_)
  refine lv_iload_n hx hb dX10_nextSaying_45 rfl (lv_at hl 0 rfl) ?_
  refine lv_if_eq (tgt := 73) hx hb dX10_nextSaying_46 (by decide) (fun hc => ?_) (fun hc => ?_)
  · have hf := tc_pos hc hf
    refine lv_iinc (v := v2 + (1 : Int32)) (lv' := [(2, .int (v2 + (1 : Int32))), (3, .int (t0)), (0, .ref (qW 0)), (1, .int (v1))]) hx hb dX10_nextSaying_73 hl (k := 3) rfl rfl (by decide) rfl (fun ls hl => ?_)
    refine lv_goto (tgt := 2) hx hb dX10_nextSaying_76 (by decide) ?_
    exact hk2 v1 (v2 + (1 : Int32)) hf _ _ _ hP hD hS (lv_sub hl [2, 3, 0] rfl)
  · have hf := tc_neg hc hf
    refine lv_aload_n hx hb dX10_nextSaying_49 rfl (lv_at hl 1 rfl) ?_
    refine va_get (D := (dC, dI)) (ci := 10) (v := .ref (qW 2)) (C := RX10) (T := TX10) (N := 4) hx hb hts i_X10 hown hK hP 0 rfl rfl 3 (by decide) (hts _ wf_X10_17) (fun _ h9 => h9) rfl dX10_nextSaying_50 ?_
    refine lv_aload_n hx hb dX10_nextSaying_53 rfl (lv_at hl 1 rfl) ?_
    refine va_get (D := (dC, dI)) (ci := 10) (v := .ref (qW 1)) (C := RX10) (T := TX10) (N := 4) hx hb hts i_X10 hown hK hP 0 rfl rfl 2 (by decide) (hts _ wf_X10_13) (fun _ h9 => h9) rfl dX10_nextSaying_54 ?_
    refine lv_iload_n hx hb dX10_nextSaying_57 rfl (lv_at hl 3 rfl) ?_
    obtain ⟨hi2, hf⟩ := tc_in hf
    refine va_iald hx hb hK hP 1 1 rfl rfl hi2 dX10_nextSaying_58 ?_
    obtain ⟨hi3, hf⟩ := tc_in hf
    refine va_iald hx hb hK hP 2 1 rfl rfl hi3 dX10_nextSaying_59 ?_
    refine lv_aload_n hx hb dX10_nextSaying_60 rfl (lv_at hl 1 rfl) ?_
    refine va_get (D := (dC, dI)) (ci := 10) (v := .ref (qW 2)) (C := RX10) (T := TX10) (N := 4) hx hb hts i_X10 hown hK hP 0 rfl rfl 3 (by decide) (hts _ wf_X10_17) (fun _ h9 => h9) rfl dX10_nextSaying_61 ?_
    refine lv_iload_n hx hb dX10_nextSaying_64 rfl (lv_at hl 2 rfl) ?_
    obtain ⟨hi4, hf⟩ := tc_in hf
    refine va_iald hx hb hK hP 2 1 rfl rfl hi4 dX10_nextSaying_65 ?_
    refine lv_iconst (v := (1 : Int32)) hx hb dX10_nextSaying_66 (by decide) ?_
    refine lv_isub hx hb dX10_nextSaying_67 ?_
    refine lv_icmp_ne (tgt := 73) hx hb dX10_nextSaying_68 (by decide) (fun hc => ?_) (fun hc => ?_)
    · have hf := tc_neg hc hf
      refine lv_iinc (v := v2 + (1 : Int32)) (lv' := [(2, .int (v2 + (1 : Int32))), (3, .int (t0)), (0, .ref (qW 0)), (1, .int (v1))]) hx hb dX10_nextSaying_73 hl (k := 3) rfl rfl (by decide) rfl (fun ls hl => ?_)
      refine lv_goto (tgt := 2) hx hb dX10_nextSaying_76 (by decide) ?_
      exact hk2 v1 (v2 + (1 : Int32)) hf _ _ _ hP hD hS (lv_sub hl [2, 3, 0] rfl)
    · have hf := tc_pos hc hf
      refine lv_iload_n hx hb dX10_nextSaying_71 rfl (lv_at hl 3 rfl) ?_
      obtain rfl := Option.some.inj hf
      exact tc_ri X hP hD hS rfl dX10_nextSaying_72 rfl rfl
set_option maxRecDepth 20000 in
theorem tX10_nextSaying_2 {qW : Nat → Nat} {qT : Nat → Nat}  (X : tc_X dC dI ca A RX10 cX10_nextSaying 4 (some .int) p s m args meth c) (z : Int32)  (SW : ms_T) (ST : ms_T)   : ∀ n : Nat, ∀ (v1 : Int32) (v2 : Int32), fX10_nextSaying_2 SW ST n v1 v2 = some z → ∀ (H : Heap) (locs : List Loc) (ls : Array Slot), va_P (dC, dI) classes (w10 ca qW (.ref (qT 0)) SW ++ w7 ca qT ST) H → va_D A (w10 ca qW (.ref (qT 0)) SW ++ w7 ca qT ST) → va_S A s.heap H locs → lv_has ls 4 [(0, .ref (qW 0)), (1, .int (v1)), (2, .int (v2))] → W p l e rmX10_nextSaying s m args below meth c H locs 0 0 (MQ below (tc_QI dC dI ca A (w10 ca qW (.ref (qT 0)) SW ++ w7 ca qT ST) (z)) args s 0 0 A) (F0 m 2 ls []) := by
  obtain ⟨hx, hb, hr, hml, hown, hts, hlk, hK, hA, hG⟩ := id X
  intro n
  induction n with
  | zero => intro v1 v2 hf; exact absurd (show none = some z from hf) (fun h => by cases h)
  | succ n ih =>
    intro v1 v2 hf H locs ls hP hD hS hl
    rw [fX10_nextSaying_2] at hf
    refine lv_iload_n hx hb dX10_nextSaying_2 rfl (lv_at hl 2 rfl) ?_
    refine lv_aload_n hx hb dX10_nextSaying_3 rfl (lv_at hl 0 rfl) ?_
    refine va_get (D := (dC, dI)) (ci := 10) (v := .ref (qT 0)) (C := RX10) (T := TX10) (N := 4) hx hb hts i_X10 hown hK hP 0 rfl rfl 0 (by decide) (hts _ wf_X10_20) (fun _ h9 => h9) rfl dX10_nextSaying_4 ?_
    refine va_get (D := (dC, dI)) (ci := 7) (v := .int (gi ST 4)) (C := RX7) (T := TX7) (N := 18) hx hb hts i_X7 hown hK hP 3 rfl rfl 4 (by decide) (hts _ wf_X10_31) (fun _ h9 => h9) rfl dX10_nextSaying_7 ?_
    refine lv_iconst (v := (4 : Int32)) hx hb dX10_nextSaying_10 (by decide) ?_
    refine lv_imul hx hb dX10_nextSaying_11 ?_
    refine lv_icmp_ge (tgt := 79) hx hb dX10_nextSaying_12 (by decide) (fun hc => ?_) (fun hc => ?_)
    · have hf := tc_pos hc hf
      refine lv_iconst (v := (-1 : Int32)) hx hb dX10_nextSaying_79 (by decide) ?_
      obtain rfl := Option.some.inj hf
      exact tc_ri X hP hD hS rfl dX10_nextSaying_80 rfl rfl
    · have hf := tc_neg hc hf
      refine lv_aload_n hx hb dX10_nextSaying_15 rfl (lv_at hl 0 rfl) ?_
      refine va_get (D := (dC, dI)) (ci := 10) (v := .ref (qW 1)) (C := RX10) (T := TX10) (N := 4) hx hb hts i_X10 hown hK hP 0 rfl rfl 2 (by decide) (hts _ wf_X10_13) (fun _ h9 => h9) rfl dX10_nextSaying_16 ?_
      refine lv_iload_n hx hb dX10_nextSaying_19 rfl (lv_at hl 2 rfl) ?_
      obtain ⟨hi1, hf⟩ := tc_in hf
      refine va_iald hx hb hK hP 1 1 rfl rfl hi1 dX10_nextSaying_20 ?_
      refine lv_iconst (v := (-1 : Int32)) hx hb dX10_nextSaying_21 (by decide) ?_
      refine lv_icmp_eq (tgt := 43) hx hb dX10_nextSaying_22 (by decide) (fun hc => ?_) (fun hc => ?_)
      · have hf := tc_pos hc hf
        refine lv_iconst (v := (0 : Int32)) hx hb dX10_nextSaying_43 (by decide) ?_
        exact tX10_nextSaying_44 X z SW ST (fX10_nextSaying_2 SW ST n) ih v1 v2 (0 : Int32) hf _ _ _ hP hD hS (lv_sub hl [0, 1, 2] rfl)
      · have hf := tc_neg hc hf
        refine lv_aload_n hx hb dX10_nextSaying_25 rfl (lv_at hl 0 rfl) ?_
        refine va_get (D := (dC, dI)) (ci := 10) (v := .ref (qT 0)) (C := RX10) (T := TX10) (N := 4) hx hb hts i_X10 hown hK hP 0 rfl rfl 0 (by decide) (hts _ wf_X10_20) (fun _ h9 => h9) rfl dX10_nextSaying_26 ?_
        refine lv_iload_n hx hb dX10_nextSaying_29 rfl (lv_at hl 2 rfl) ?_
        refine lv_iconst (v := (4 : Int32)) hx hb dX10_nextSaying_30 (by decide) ?_
        refine lv_idiv hx hb dX10_nextSaying_31 (by decide) ?_
        refine lv_iload_n hx hb dX10_nextSaying_32 rfl (lv_at hl 1 rfl) ?_
        obtain ⟨z5, hg, hf⟩ := tc_bi hf
        refine tc_iV (As := [.int (v2 / (4 : Int32)), .int (v1)]) (rest := []) (b := qT 0) (wc := w7 ca qT ST) (wr := w10 ca qW (.ref (qT 0)) SW) X hP hD hS (mX7_isNear hg) okX7_isNear wl_X10_60 wi_X7_isNear ws_X7_X7_isNear_X7_isNear ⟨rfl, rfl, Nat.le_of_ble_eq_true rfl, Nat.le_of_ble_eq_true rfl⟩ 7 0 rfl rfl [3, 4, 5, 6, 7, 8, 9, 10, 11, 12, 13] [0, 1, 2] ⟨rfl, rfl, rfl, rfl, by decide⟩ rfl hl.1 (Nat.le_of_ble_eq_true rfl) dX10_nextSaying_33 (fun H locs hP hD hS => ?_)
        have hP := hP.sub (ws' := (w10 ca qW (.ref (qT 0)) SW ++ w7 ca qT ST)) [0, 1, 2, 3, 4, 5, 6, 7, 8, 9, 10, 11, 12, 13] rfl
        have hD := hD.sub (ws' := (w10 ca qW (.ref (qT 0)) SW ++ w7 ca qT ST)) [0, 1, 2, 3, 4, 5, 6, 7, 8, 9, 10, 11, 12, 13] rfl rfl
        refine lv_if_eq (tgt := 43) hx hb dX10_nextSaying_36 (by decide) (fun hc => ?_) (fun hc => ?_)
        · have hf := tc_pos hc hf
          refine lv_iconst (v := (0 : Int32)) hx hb dX10_nextSaying_43 (by decide) ?_
          exact tX10_nextSaying_44 X z SW ST (fX10_nextSaying_2 SW ST n) ih v1 v2 (0 : Int32) hf _ _ _ hP hD hS (lv_sub hl [0, 1, 2] rfl)
        · have hf := tc_neg hc hf
          refine lv_iconst (v := (1 : Int32)) hx hb dX10_nextSaying_39 (by decide) ?_
          refine lv_goto (tgt := 44) hx hb dX10_nextSaying_40 (by decide) ?_
          exact tX10_nextSaying_44 X z SW ST (fX10_nextSaying_2 SW ST n) ih v1 v2 (1 : Int32) hf _ _ _ hP hD hS (lv_sub hl [0, 1, 2] rfl)
set_option maxRecDepth 20000 in
theorem mX10_nextSaying {qW : Nat → Nat} {qT : Nat → Nat}  {SW : ms_T} {ST : ms_T} {a1 : Int32} {z : Int32}  (hf : fX10_nextSaying SW ST a1 = some z) : tc_MI l dC dI ca yX10_nextSaying cX10_nextSaying 4 (some .int) rmX10_nextSaying [.ref (qW 0), .int (a1)] (w10 ca qW (.ref (qT 0)) SW ++ w7 ca qT ST) (w10 ca qW (.ref (qT 0)) SW ++ w7 ca qT ST) (z) := by
  refine tc_metI (own := RX10) (by decide) rfl ?_ (Nat.le_of_ble_eq_true rfl)
  intro p e s m below meth c A X hP hD hS ls hl
  obtain ⟨hx, hb, hr, hml, hown, hts, hlk, hK, hA, hG⟩ := id X
  unfold fX10_nextSaying at hf
  have hl : lv_has ls 4 [(0, .ref (qW 0)), (1, .int (a1))] := hl
  refine lv_iconst (v := (0 : Int32)) hx hb dX10_nextSaying_0 (by decide) ?_
  refine lv_istore_n (lv' := [(2, .int ((0 : Int32))), (0, .ref (qW 0)), (1, .int (a1))]) hx hb dX10_nextSaying_1 rfl hl (by decide) rfl (fun ls hl => ?_)
  exact tX10_nextSaying_2 X z SW ST FU a1 (0 : Int32) hf _ _ _ hP hD hS (lv_sub hl [1, 2, 0] rfl)
def fX10_tellSaying_52  (SW : ms_T) (ST : ms_T)  (v4 : Int32) : Option (Int32) :=
  if v4 = (-1 : Int32) then
    some ((-1 : Int32))
  else
    if inb v4 32 = true then
      some (ia SW 1 v4)
    else none
def fX10_tellSaying_41  (SW : ms_T) (ST : ms_T)  (v3 : Int32) (v4 : Int32) : Option (Int32) :=
  if v4 = (-1 : Int32) then
    fX10_tellSaying_52 SW ST v4
  else
    if v3 = (2 : Int32) then
      fX10_tellSaying_52 SW ST v4
    else
      if v3 = 0 then
        some (v4 / (4 : Int32))
      else
        some (v4 - v4 / (4 : Int32) * (4 : Int32))
def fX10_tellSaying_10  (SW : ms_T) (ST : ms_T)  : Nat → Int32 → Int32 → Int32 → Int32 → Option (Int32)
  | 0, _, _, _, _ => none
  | n + 1, v2, v3, v4, v5 =>
    if v2 ≤ v5 then
      fX10_tellSaying_41 SW ST v3 v4
    else
      if v4 = (-1 : Int32) then
        fX10_tellSaying_41 SW ST v3 v4
      else
        if inb v4 32 = true then
          (fX10_nextSaying SW ST (ia SW 1 v4)).bind fun z4 =>
          fX10_tellSaying_10 SW ST n v2 v3 z4 (v5 + (1 : Int32))
        else none
def fX10_tellSaying  (SW : ms_T) (ST : ms_T) (a1 : Int32) (a2 : Int32) (a3 : Int32) : Option (Int32) :=
  (fX10_nextSaying SW ST a1).bind fun z1 =>
  fX10_tellSaying_10 SW ST FU a2 a3 z1 (0 : Int32)
abbrev rmX10_tellSaying : Room := { frames := 3, cells := 0, slots := 0, locals := 68 }
theorem okX10_tellSaying : tc_ok yX10_tellSaying cX10_tellSaying 6 (some .int) 3 := ⟨wc_X10_tellSaying, wn_X10, by decide, by decide, by decide +kernel⟩
set_option maxRecDepth 20000 in
theorem tX10_tellSaying_52 {qW : Nat → Nat} {qT : Nat → Nat}  (X : tc_X dC dI ca A RX10 cX10_tellSaying 6 (some .int) p s m args meth c) (z : Int32)  (SW : ms_T) (ST : ms_T)   : ∀ (v4 : Int32), fX10_tellSaying_52 SW ST v4 = some z → ∀ (H : Heap) (locs : List Loc) (ls : Array Slot), va_P (dC, dI) classes (w10 ca qW (.ref (qT 0)) SW ++ w7 ca qT ST) H → va_D A (w10 ca qW (.ref (qT 0)) SW ++ w7 ca qT ST) → va_S A s.heap H locs → lv_has ls 6 [(0, .ref (qW 0)), (4, .int (v4))] → W p l e rmX10_tellSaying s m args below meth c H locs 0 0 (MQ below (tc_QI dC dI ca A (w10 ca qW (.ref (qT 0)) SW ++ w7 ca qT ST) (z)) args s 0 0 A) (F0 m 52 ls []) := by
  obtain ⟨hx, hb, hr, hml, hown, hts, hlk, hK, hA, hG⟩ := id X
  intro v4 hf H locs ls hP hD hS hl
  unfold fX10_tellSaying_52 at hf
  refine lv_iload hx hb dX10_tellSaying_52 (lv_at hl 1 rfl) ?_
  refine lv_iconst (v := (-1 : Int32)) hx hb dX10_tellSaying_54 (by decide) ?_
  refine lv_icmp_ne (tgt := 62) hx hb dX10_tellSaying_55 (by decide) (fun hc => ?_) (fun hc => ?_)
  · have hf := tc_neg hc hf
    refine lv_aload_n hx hb dX10_tellSaying_62 rfl (lv_at hl 0 rfl) ?_
    refine va_get (D := (dC, dI)) (ci := 10) (v := .ref (qW 1)) (C := RX10) (T := TX10) (N := 4) hx hb hts i_X10 hown hK hP 0 rfl rfl 2 (by decide) (hts _ wf_X10_13) (fun _ h9 => h9) rfl dX10_tellSaying_63 ?_
    refine lv_iload hx hb dX10_tellSaying_66 (lv_at hl 1 rfl) ?_
    obtain ⟨hi2, hf⟩ := tc_in hf
    refine va_iald hx hb hK hP 1 1 rfl rfl hi2 dX10_tellSaying_68 ?_
    obtain rfl := Option.some.inj hf
    exact tc_ri X hP hD hS rfl dX10_tellSaying_69 rfl rfl
  · have hf := tc_pos hc hf
    refine lv_iconst (v := (-1 : Int32)) hx hb dX10_tellSaying_58 (by decide) ?_
    refine lv_goto (tgt := 69) hx hb dX10_tellSaying_59 (by decide) ?_
    obtain rfl := Option.some.inj hf
    exact tc_ri X hP hD hS rfl dX10_tellSaying_69 rfl rfl
set_option maxRecDepth 20000 in
theorem tX10_tellSaying_41 {qW : Nat → Nat} {qT : Nat → Nat}  (X : tc_X dC dI ca A RX10 cX10_tellSaying 6 (some .int) p s m args meth c) (z : Int32)  (SW : ms_T) (ST : ms_T)   : ∀ (v3 : Int32) (v4 : Int32), fX10_tellSaying_41 SW ST v3 v4 = some z → ∀ (H : Heap) (locs : List Loc) (ls : Array Slot), va_P (dC, dI) classes (w10 ca qW (.ref (qT 0)) SW ++ w7 ca qT ST) H → va_D A (w10 ca qW (.ref (qT 0)) SW ++ w7 ca qT ST) → va_S A s.heap H locs → lv_has ls 6 [(0, .ref (qW 0)), (3, .int (v3)), (4, .int (v4))] → W p l e rmX10_tellSaying s m args below meth c H locs 0 0 (MQ below (tc_QI dC dI ca A (w10 ca qW (.ref (qT 0)) SW ++ w7 ca qT ST) (z)) args s 0 0 A) (F0 m 41 ls []) := by
  obtain ⟨hx, hb, hr, hml, hown, hts, hlk, hK, hA, hG⟩ := id X
  intro v3 v4 hf H locs ls hP hD hS hl
  unfold fX10_tellSaying_41 at hf
  refine lv_iload hx hb dX10_tellSaying_41 (lv_at hl 2 rfl) ?_
  refine lv_iconst (v := (-1 : Int32)) hx hb dX10_tellSaying_43 (by decide) ?_
  refine lv_icmp_eq (tgt := 52) hx hb dX10_tellSaying_44 (by decide) (fun hc => ?_) (fun hc => ?_)
  · have hf := tc_pos hc hf
    exact tX10_tellSaying_52 X z SW ST v4 hf _ _ _ hP hD hS (lv_sub hl [0, 2] rfl)
  · have hf := tc_neg hc hf
    refine lv_iload_n hx hb dX10_tellSaying_47 rfl (lv_at hl 1 rfl) ?_
    refine lv_iconst (v := (2 : Int32)) hx hb dX10_tellSaying_48 (by decide) ?_
    refine lv_icmp_ne (tgt := 70) hx hb dX10_tellSaying_49 (by decide) (fun hc => ?_) (fun hc => ?_)
    · have hf := tc_neg hc hf
      refine lv_iload_n hx hb dX10_tellSaying_70 rfl (lv_at hl 1 rfl) ?_
      refine lv_if_ne (tgt := 81) hx hb dX10_tellSaying_71 (by decide) (fun hc => ?_) (fun hc => ?_)
      · have hf := tc_neg hc hf
        refine lv_iload hx hb dX10_tellSaying_81 (lv_at hl 2 rfl) ?_
        refine lv_iconst (v := (4 : Int32)) hx hb dX10_tellSaying_83 (by decide) ?_
        refine lv_irem hx hb dX10_tellSaying_84 (by decide) ?_
        obtain rfl := Option.some.inj hf
        exact tc_ri X hP hD hS rfl dX10_tellSaying_85 rfl rfl
      · have hf := tc_pos hc hf
        refine lv_iload hx hb dX10_tellSaying_74 (lv_at hl 2 rfl) ?_
        refine lv_iconst (v := (4 : Int32)) hx hb dX10_tellSaying_76 (by decide) ?_
        refine lv_idiv hx hb dX10_tellSaying_77 (by decide) ?_
        refine lv_goto (tgt := 85) hx hb dX10_tellSaying_78 (by decide) ?_
        obtain rfl := Option.some.inj hf
        exact tc_ri X hP hD hS rfl dX10_tellSaying_85 rfl rfl
    · have hf := tc_pos hc hf
      exact tX10_tellSaying_52 X z SW ST v4 hf _ _ _ hP hD hS (lv_sub hl [0, 2] rfl)
set_option maxRecDepth 20000 in
theorem tX10_tellSaying_10 {qW : Nat → Nat} {qT : Nat → Nat}  (X : tc_X dC dI ca A RX10 cX10_tellSaying 6 (some .int) p s m args meth c) (z : Int32)  (SW : ms_T) (ST : ms_T)   : ∀ n : Nat, ∀ (v2 : Int32) (v3 : Int32) (v4 : Int32) (v5 : Int32), fX10_tellSaying_10 SW ST n v2 v3 v4 v5 = some z → ∀ (H : Heap) (locs : List Loc) (ls : Array Slot), va_P (dC, dI) classes (w10 ca qW (.ref (qT 0)) SW ++ w7 ca qT ST) H → va_D A (w10 ca qW (.ref (qT 0)) SW ++ w7 ca qT ST) → va_S A s.heap H locs → lv_has ls 6 [(0, .ref (qW 0)), (2, .int (v2)), (3, .int (v3)), (4, .int (v4)), (5, .int (v5))] → W p l e rmX10_tellSaying s m args below meth c H locs 0 0 (MQ below (tc_QI dC dI ca A (w10 ca qW (.ref (qT 0)) SW ++ w7 ca qT ST) (z)) args s 0 0 A) (F0 m 10 ls []) := by
  obtain ⟨hx, hb, hr, hml, hown, hts, hlk, hK, hA, hG⟩ := id X
  intro n
  induction n with
  | zero => intro v2 v3 v4 v5 hf; exact absurd (show none = some z from hf) (fun h => by cases h)
  | succ n ih =>
    intro v2 v3 v4 v5 hf H locs ls hP hD hS hl
    rw [fX10_tellSaying_10] at hf
    refine lv_iload hx hb dX10_tellSaying_10 (lv_at hl 4 rfl) ?_
    refine lv_iload_n hx hb dX10_tellSaying_12 rfl (lv_at hl 1 rfl) ?_
    refine lv_icmp_ge (tgt := 41) hx hb dX10_tellSaying_13 (by decide) (fun hc => ?_) (fun hc => ?_)
    · have hf := tc_pos hc hf
      exact tX10_tellSaying_41 X z SW ST v3 v4 hf _ _ _ hP hD hS (lv_sub hl [0, 2, 3] rfl)
    · have hf := tc_neg hc hf
      refine lv_iload hx hb dX10_tellSaying_16 (lv_at hl 3 rfl) ?_
      refine lv_iconst (v := (-1 : Int32)) hx hb dX10_tellSaying_18 (by decide) ?_
      refine lv_icmp_eq (tgt := 41) hx hb dX10_tellSaying_19 (by decide) (fun hc => ?_) (fun hc => ?_)
      · have hf := tc_pos hc hf
        exact tX10_tellSaying_41 X z SW ST v3 v4 hf _ _ _ hP hD hS (lv_sub hl [0, 2, 3] rfl)
      · have hf := tc_neg hc hf
        refine lv_aload_n hx hb dX10_tellSaying_22 rfl (lv_at hl 0 rfl) ?_
        refine lv_aload_n hx hb dX10_tellSaying_23 rfl (lv_at hl 0 rfl) ?_
        refine va_get (D := (dC, dI)) (ci := 10) (v := .ref (qW 1)) (C := RX10) (T := TX10) (N := 4) hx hb hts i_X10 hown hK hP 0 rfl rfl 2 (by decide) (hts _ wf_X10_13) (fun _ h9 => h9) rfl dX10_tellSaying_24 ?_
        refine lv_iload hx hb dX10_tellSaying_27 (lv_at hl 3 rfl) ?_
        obtain ⟨hi3, hf⟩ := tc_in hf
        refine va_iald hx hb hK hP 1 1 rfl rfl hi3 dX10_tellSaying_29 ?_
        obtain ⟨z4, hg, hf⟩ := tc_bi hf
        refine tc_iVs (As := [.int (ia SW 1 v4)]) (rest := []) (b := qW 0) X hP hD hS (mX10_nextSaying hg) okX10_nextSaying wl_X10_64 wi_X10_nextSaying ws_X10_X10_nextSaying_X10_nextSaying ⟨rfl, rfl, Nat.le_of_ble_eq_true rfl, Nat.le_of_ble_eq_true rfl⟩ 10 0 rfl rfl rfl hl.1 (Nat.le_of_ble_eq_true rfl) dX10_tellSaying_30 (fun H locs hP hD hS => ?_)
        refine lv_istore (lv' := [(4, .int (z4)), (0, .ref (qW 0)), (2, .int (v2)), (3, .int (v3)), (5, .int (v5))]) hx hb dX10_tellSaying_33 hl (by decide) rfl (fun ls hl => ?_)
        refine lv_iinc (v := v5 + (1 : Int32)) (lv' := [(5, .int (v5 + (1 : Int32))), (4, .int (z4)), (0, .ref (qW 0)), (2, .int (v2)), (3, .int (v3))]) hx hb dX10_tellSaying_35 hl (k := 4) rfl rfl (by decide) rfl (fun ls hl => ?_)
        refine lv_goto (tgt := 10) hx hb dX10_tellSaying_38 (by decide) ?_
        exact ih v2 v3 z4 (v5 + (1 : Int32)) hf _ _ _ hP hD hS (lv_sub hl [2, 3, 4, 1, 0] rfl)
set_option maxRecDepth 20000 in
theorem mX10_tellSaying {qW : Nat → Nat} {qT : Nat → Nat}  {SW : ms_T} {ST : ms_T} {a1 : Int32} {a2 : Int32} {a3 : Int32} {z : Int32}  (hf : fX10_tellSaying SW ST a1 a2 a3 = some z) : tc_MI l dC dI ca yX10_tellSaying cX10_tellSaying 6 (some .int) rmX10_tellSaying [.ref (qW 0), .int (a1), .int (a2), .int (a3)] (w10 ca qW (.ref (qT 0)) SW ++ w7 ca qT ST) (w10 ca qW (.ref (qT 0)) SW ++ w7 ca qT ST) (z) := by
  refine tc_metI (own := RX10) (by decide) rfl ?_ (Nat.le_of_ble_eq_true rfl)
  intro p e s m below meth c A X hP hD hS ls hl
  obtain ⟨hx, hb, hr, hml, hown, hts, hlk, hK, hA, hG⟩ := id X
  unfold fX10_tellSaying at hf
  have hl : lv_has ls 6 [(0, .ref (qW 0)), (1, .int (a1)), (2, .int (a2)), (3, .int (a3))] := hl
  refine lv_aload_n hx hb dX10_tellSaying_0 rfl (lv_at hl 0 rfl) ?_
  refine lv_iload_n hx hb dX10_tellSaying_1 rfl (lv_at hl 1 rfl) ?_
  obtain ⟨z1, hg, hf⟩ := tc_bi hf
  refine tc_iVs (As := [.int (a1)]) (rest := []) (b := qW 0) X hP hD hS (mX10_nextSaying hg) okX10_nextSaying wl_X10_64 wi_X10_nextSaying ws_X10_X10_nextSaying_X10_nextSaying ⟨rfl, rfl, Nat.le_of_ble_eq_true rfl, Nat.le_of_ble_eq_true rfl⟩ 10 0 rfl rfl rfl hl.1 (Nat.le_of_ble_eq_true rfl) dX10_tellSaying_2 (fun H locs hP hD hS => ?_)
  refine lv_istore (lv' := [(4, .int (z1)), (0, .ref (qW 0)), (1, .int (a1)), (2, .int (a2)), (3, .int (a3))]) hx hb dX10_tellSaying_5 hl (by decide) rfl (fun ls hl => ?_)
  refine lv_iconst (v := (0 : Int32)) hx hb dX10_tellSaying_7 (by decide) ?_
  refine lv_istore (lv' := [(5, .int ((0 : Int32))), (4, .int (z1)), (0, .ref (qW 0)), (1, .int (a1)), (2, .int (a2)), (3, .int (a3))]) hx hb dX10_tellSaying_8 hl (by decide) rfl (fun ls hl => ?_)
  exact tX10_tellSaying_10 X z SW ST FU a2 a3 z1 (0 : Int32) hf _ _ _ hP hD hS (lv_sub hl [2, 4, 5, 1, 0] rfl)
def fX10_couplesOf_27  (S : ms_T) (k5 : Int32 → Int32 → Int32 → Int32 → Option (Int32)) (v1 : Int32) (v2 : Int32) (v3 : Int32) (v4 : Int32) (t0 : Int32) : Option (Int32) :=
  if t0 = 0 then
    k5 v1 v2 v3 (v4 + (1 : Int32))
  else
    if inb ((v2 * (4 : Int32)) + v4) 32 = true then
      if (ia S 1 ((v2 * (4 : Int32)) + v4)) = v1 then
        k5 v1 v2 (v3 + (1 : Int32)) (v4 + (1 : Int32))
      else
        k5 v1 v2 v3 (v4 + (1 : Int32))
    else none
def fX10_couplesOf_5  (S : ms_T)  : Nat → Int32 → Int32 → Int32 → Int32 → Option (Int32)
  | 0, _, _, _, _ => none
  | n + 1, v1, v2, v3, v4 =>
    if (4 : Int32) ≤ v4 then
      some (v3)
    else
      if (((gi S 1) >>> (v2 &&& 31)) &&& (1 : Int32)) = 0 then
        fX10_couplesOf_27 S (fX10_couplesOf_5 S n) v1 v2 v3 v4 (1 : Int32)
      else
        fX10_couplesOf_27 S (fX10_couplesOf_5 S n) v1 v2 v3 v4 (0 : Int32)
def fX10_couplesOf  (S : ms_T) (a1 : Int32) (a2 : Int32) : Option (Int32) :=
  fX10_couplesOf_5 S FU a1 a2 (0 : Int32) (0 : Int32)
abbrev rmX10_couplesOf : Room := { frames := 0, cells := 0, slots := 0, locals := 0 }
theorem okX10_couplesOf : tc_ok yX10_couplesOf cX10_couplesOf 6 (some .int) 2 := ⟨wc_X10_couplesOf, wn_X10, by decide, by decide, by decide +kernel⟩
set_option maxRecDepth 20000 in
theorem tX10_couplesOf_27 {q : Nat → Nat} {rW0 : Value} (X : tc_X dC dI ca A RX10 cX10_couplesOf 6 (some .int) p s m args meth c) (z : Int32)  (S : ms_T) (k5 : Int32 → Int32 → Int32 → Int32 → Option (Int32)) (hk5 : ∀ (v1 : Int32) (v2 : Int32) (v3 : Int32) (v4 : Int32), k5 v1 v2 v3 v4 = some z → ∀ (H : Heap) (locs : List Loc) (ls : Array Slot), va_P (dC, dI) classes (w10 ca q (rW0) S) H → va_D A (w10 ca q (rW0) S) → va_S A s.heap H locs → lv_has ls 6 [(0, .ref (q 0)), (1, .int (v1)), (2, .int (v2)), (3, .int (v3)), (4, .int (v4))] → W p l e rmX10_couplesOf s m args below meth c H locs 0 0 (MQ below (tc_QI dC dI ca A (w10 ca q (rW0) S) (z)) args s 0 0 A) (F0 m 5 ls [])) : ∀ (v1 : Int32) (v2 : Int32) (v3 : Int32) (v4 : Int32) (t0 : Int32), fX10_couplesOf_27 S k5 v1 v2 v3 v4 t0 = some z → ∀ (H : Heap) (locs : List Loc) (ls : Array Slot), va_P (dC, dI) classes (w10 ca q (rW0) S) H → va_D A (w10 ca q (rW0) S) → va_S A s.heap H locs → lv_has ls 6 [(0, .ref (q 0)), (1, .int (v1)), (2, .int (v2)), (3, .int (v3)), (4, .int (v4))] → W p l e rmX10_couplesOf s m args below meth c H locs 0 0 (MQ below (tc_QI dC dI ca A (w10 ca q (rW0) S) (z)) args s 0 0 A) (F0 m 27 ls [.int (t0)]) := by
  obtain ⟨hx, hb, hr, hml, hown, hts, hlk, hK, hA, hG⟩ := id X
  intro v1 v2 v3 v4 t0 hf H locs ls hP hD hS hl
  unfold fX10_couplesOf_27 at hf
  refine lv_istore (lv' := [(5, .int (t0)), (0, .ref (q 0)), (1, .int (v1)), (2, .int (v2)), (3, .int (v3)), (4, .int (v4))]) hx hb dX10_couplesOf_27 hl (by decide) rfl (fun ls hl => ?_)
  refine lv_iload hx hb dX10_couplesOf_29 (lv_at hl 0 rfl) ?_
  refine lv_if_eq (tgt := 52) hx hb dX10_couplesOf_31 (by decide) (fun hc => ?_) (fun hc => ?_)
  · have hf := tc_pos hc hf
    refine lv_iinc (v := v4 + (1 : Int32)) (lv' := [(4, .int (v4 + (1 : Int32))), (5, .int (t0)), (0, .ref (q 0)), (1, .int (v1)), (2, .int (v2)), (3, .int (v3))]) hx hb dX10_couplesOf_52 hl (k := 5) rfl rfl (by decide) rfl (fun ls hl => ?_)
    refine lv_goto (tgt := 5) hx hb dX10_couplesOf_55 (by decide) ?_
    exact hk5 v1 v2 v3 (v4 + (1 : Int32)) hf _ _ _ hP hD hS (lv_sub hl [2, 3, 4, 5, 0] rfl)
  · have hf := tc_neg hc hf
    refine lv_aload_n hx hb dX10_couplesOf_34 rfl (lv_at hl 1 rfl) ?_
    refine va_get (D := (dC, dI)) (ci := 10) (v := .ref (q 1)) (C := RX10) (T := TX10) (N := 4) hx hb hts i_X10 hown hK hP 0 rfl rfl 2 (by decide) (hts _ wf_X10_13) (fun _ h9 => h9) rfl dX10_couplesOf_35 ?_
    refine lv_iload_n hx hb dX10_couplesOf_38 rfl (lv_at hl 3 rfl) ?_
    refine lv_iconst (v := (4 : Int32)) hx hb dX10_couplesOf_39 (by decide) ?_
    refine lv_imul hx hb dX10_couplesOf_40 ?_
    refine lv_iload hx hb dX10_couplesOf_41 (lv_at hl 5 rfl) ?_
    refine lv_iadd hx hb dX10_couplesOf_43 ?_
    obtain ⟨hi1, hf⟩ := tc_in hf
    refine va_iald hx hb hK hP 1 1 rfl rfl hi1 dX10_couplesOf_44 ?_
    refine lv_iload_n hx hb dX10_couplesOf_45 rfl (lv_at hl 2 rfl) ?_
    refine lv_icmp_ne (tgt := 52) hx hb dX10_couplesOf_46 (by decide) (fun hc => ?_) (fun hc => ?_)
    · have hf := tc_neg hc hf
      refine lv_iinc (v := v4 + (1 : Int32)) (lv' := [(4, .int (v4 + (1 : Int32))), (5, .int (t0)), (0, .ref (q 0)), (1, .int (v1)), (2, .int (v2)), (3, .int (v3))]) hx hb dX10_couplesOf_52 hl (k := 5) rfl rfl (by decide) rfl (fun ls hl => ?_)
      refine lv_goto (tgt := 5) hx hb dX10_couplesOf_55 (by decide) ?_
      exact hk5 v1 v2 v3 (v4 + (1 : Int32)) hf _ _ _ hP hD hS (lv_sub hl [2, 3, 4, 5, 0] rfl)
    · have hf := tc_pos hc hf
      refine lv_iinc (v := v3 + (1 : Int32)) (lv' := [(3, .int (v3 + (1 : Int32))), (5, .int (t0)), (0, .ref (q 0)), (1, .int (v1)), (2, .int (v2)), (4, .int (v4))]) hx hb dX10_couplesOf_49 hl (k := 4) rfl rfl (by decide) rfl (fun ls hl => ?_)
      refine lv_iinc (v := v4 + (1 : Int32)) (lv' := [(4, .int (v4 + (1 : Int32))), (3, .int (v3 + (1 : Int32))), (5, .int (t0)), (0, .ref (q 0)), (1, .int (v1)), (2, .int (v2))]) hx hb dX10_couplesOf_52 hl (k := 5) rfl rfl (by decide) rfl (fun ls hl => ?_)
      refine lv_goto (tgt := 5) hx hb dX10_couplesOf_55 (by decide) ?_
      exact hk5 v1 v2 (v3 + (1 : Int32)) (v4 + (1 : Int32)) hf _ _ _ hP hD hS (lv_sub hl [3, 4, 5, 1, 0] rfl)
set_option maxRecDepth 20000 in
theorem tX10_couplesOf_5 {q : Nat → Nat} {rW0 : Value} (X : tc_X dC dI ca A RX10 cX10_couplesOf 6 (some .int) p s m args meth c) (z : Int32)  (S : ms_T)   : ∀ n : Nat, ∀ (v1 : Int32) (v2 : Int32) (v3 : Int32) (v4 : Int32), fX10_couplesOf_5 S n v1 v2 v3 v4 = some z → ∀ (H : Heap) (locs : List Loc) (ls : Array Slot), va_P (dC, dI) classes (w10 ca q (rW0) S) H → va_D A (w10 ca q (rW0) S) → va_S A s.heap H locs → lv_has ls 6 [(0, .ref (q 0)), (1, .int (v1)), (2, .int (v2)), (3, .int (v3)), (4, .int (v4))] → W p l e rmX10_couplesOf s m args below meth c H locs 0 0 (MQ below (tc_QI dC dI ca A (w10 ca q (rW0) S) (z)) args s 0 0 A) (F0 m 5 ls []) := by
  obtain ⟨hx, hb, hr, hml, hown, hts, hlk, hK, hA, hG⟩ := id X
  intro n
  induction n with
  | zero => intro v1 v2 v3 v4 hf; exact absurd (show none = some z from hf) (fun h => by cases h)
  | succ n ih =>
    intro v1 v2 v3 v4 hf H locs ls hP hD hS hl
    rw [fX10_couplesOf_5] at hf
    refine lv_iload hx hb dX10_couplesOf_5 (lv_at hl 4 rfl) ?_
    refine lv_iconst (v := (4 : Int32)) hx hb dX10_couplesOf_7 (by decide) ?_
    refine lv_icmp_ge (tgt := 58) hx hb dX10_couplesOf_8 (by decide) (fun hc => ?_) (fun hc => ?_)
    · have hf := tc_pos hc hf
      refine lv_iload_n hx hb dX10_couplesOf_58 rfl (lv_at hl 3 rfl) ?_
      obtain rfl := Option.some.inj hf
      exact tc_ri X hP hD hS rfl dX10_couplesOf_59 rfl rfl
    · have hf := tc_neg hc hf
      refine lv_aload_n hx hb dX10_couplesOf_11 rfl (lv_at hl 0 rfl) ?_
      refine va_get (D := (dC, dI)) (ci := 10) (v := .int (gi S 1)) (C := RX10) (T := TX10) (N := 4) hx hb hts i_X10 hown hK hP 0 rfl rfl 1 (by decide) (hts _ wf_X10_28) (fun _ h9 => h9) rfl dX10_couplesOf_12 ?_
      refine lv_iload_n hx hb dX10_couplesOf_15 rfl (lv_at hl 2 rfl) ?_
      refine lv_ishr hx hb dX10_couplesOf_16 ?_
      refine lv_iconst (v := (1 : Int32)) hx hb dX10_couplesOf_17 (by decide) ?_
      refine lv_iand hx hb dX10_couplesOf_18 ?_
      refine lv_if_ne (tgt := 26) hx hb dX10_couplesOf_19 (by decide) (fun hc => ?_) (fun hc => ?_)
      · have hf := tc_neg hc hf
        refine lv_iconst (v := (0 : Int32)) hx hb dX10_couplesOf_26 (by decide) ?_
        exact tX10_couplesOf_27 X z S (fX10_couplesOf_5 S n) ih v1 v2 v3 v4 (0 : Int32) hf _ _ _ hP hD hS (lv_sub hl [0, 1, 2, 3, 4] rfl)
      · have hf := tc_pos hc hf
        refine lv_iconst (v := (1 : Int32)) hx hb dX10_couplesOf_22 (by decide) ?_
        refine lv_goto (tgt := 27) hx hb dX10_couplesOf_23 (by decide) ?_
        exact tX10_couplesOf_27 X z S (fX10_couplesOf_5 S n) ih v1 v2 v3 v4 (1 : Int32) hf _ _ _ hP hD hS (lv_sub hl [0, 1, 2, 3, 4] rfl)
set_option maxRecDepth 20000 in
theorem mX10_couplesOf {q : Nat → Nat} {rW0 : Value} {S : ms_T} {a1 : Int32} {a2 : Int32} {z : Int32}  (hf : fX10_couplesOf S a1 a2 = some z) : tc_MI l dC dI ca yX10_couplesOf cX10_couplesOf 6 (some .int) rmX10_couplesOf [.ref (q 0), .int (a1), .int (a2)] (w10 ca q (rW0) S) (w10 ca q (rW0) S) (z) := by
  refine tc_metI (own := RX10) (by decide) rfl ?_ (Nat.le_of_ble_eq_true rfl)
  intro p e s m below meth c A X hP hD hS ls hl
  obtain ⟨hx, hb, hr, hml, hown, hts, hlk, hK, hA, hG⟩ := id X
  unfold fX10_couplesOf at hf
  have hl : lv_has ls 6 [(0, .ref (q 0)), (1, .int (a1)), (2, .int (a2))] := hl
  refine lv_iconst (v := (0 : Int32)) hx hb dX10_couplesOf_0 (by decide) ?_
  refine lv_istore_n (lv' := [(3, .int ((0 : Int32))), (0, .ref (q 0)), (1, .int (a1)), (2, .int (a2))]) hx hb dX10_couplesOf_1 rfl hl (by decide) rfl (fun ls hl => ?_)
  refine lv_iconst (v := (0 : Int32)) hx hb dX10_couplesOf_2 (by decide) ?_
  refine lv_istore (lv' := [(4, .int ((0 : Int32))), (3, .int ((0 : Int32))), (0, .ref (q 0)), (1, .int (a1)), (2, .int (a2))]) hx hb dX10_couplesOf_3 hl (by decide) rfl (fun ls hl => ?_)
  exact tX10_couplesOf_5 X z S FU a1 a2 (0 : Int32) (0 : Int32) hf _ _ _ hP hD hS (lv_sub hl [2, 3, 4, 1, 0] rfl)
def fX10_couples_4  (SW : ms_T) (ST : ms_T)  : Nat → Int32 → Int32 → Int32 → Option (Int32)
  | 0, _, _, _ => none
  | n + 1, v1, v2, v3 =>
    if (gi ST 4) ≤ v3 then
      some (v2)
    else
      (fX10_couplesOf SW v1 v3).bind fun z1 =>
      fX10_couples_4 SW ST n v1 (v2 + z1) (v3 + (1 : Int32))
def fX10_couples  (SW : ms_T) (ST : ms_T) (a1 : Int32) : Option (Int32) :=
  fX10_couples_4 SW ST FU a1 (0 : Int32) (0 : Int32)
abbrev rmX10_couples : Room := { frames := 1, cells := 0, slots := 0, locals := 25 }
theorem okX10_couples : tc_ok yX10_couples cX10_couples 4 (some .int) 1 := ⟨wc_X10_couples, wn_X10, by decide, by decide, by decide +kernel⟩
set_option maxRecDepth 20000 in
theorem tX10_couples_4 {qW : Nat → Nat} {qT : Nat → Nat}  (X : tc_X dC dI ca A RX10 cX10_couples 4 (some .int) p s m args meth c) (z : Int32)  (SW : ms_T) (ST : ms_T)   : ∀ n : Nat, ∀ (v1 : Int32) (v2 : Int32) (v3 : Int32), fX10_couples_4 SW ST n v1 v2 v3 = some z → ∀ (H : Heap) (locs : List Loc) (ls : Array Slot), va_P (dC, dI) classes (w10 ca qW (.ref (qT 0)) SW ++ w7 ca qT ST) H → va_D A (w10 ca qW (.ref (qT 0)) SW ++ w7 ca qT ST) → va_S A s.heap H locs → lv_has ls 4 [(0, .ref (qW 0)), (1, .int (v1)), (2, .int (v2)), (3, .int (v3))] → W p l e rmX10_couples s m args below meth c H locs 0 0 (MQ below (tc_QI dC dI ca A (w10 ca qW (.ref (qT 0)) SW ++ w7 ca qT ST) (z)) args s 0 0 A) (F0 m 4 ls []) := by
  obtain ⟨hx, hb, hr, hml, hown, hts, hlk, hK, hA, hG⟩ := id X
  intro n
  induction n with
  | zero => intro v1 v2 v3 hf; exact absurd (show none = some z from hf) (fun h => by cases h)
  | succ n ih =>
    intro v1 v2 v3 hf H locs ls hP hD hS hl
    rw [fX10_couples_4] at hf
    refine lv_iload_n hx hb dX10_couples_4 rfl (lv_at hl 3 rfl) ?_
    refine lv_aload_n hx hb dX10_couples_5 rfl (lv_at hl 0 rfl) ?_
    refine va_get (D := (dC, dI)) (ci := 10) (v := .ref (qT 0)) (C := RX10) (T := TX10) (N := 4) hx hb hts i_X10 hown hK hP 0 rfl rfl 0 (by decide) (hts _ wf_X10_20) (fun _ h9 => h9) rfl dX10_couples_6 ?_
    refine va_get (D := (dC, dI)) (ci := 7) (v := .int (gi ST 4)) (C := RX7) (T := TX7) (N := 18) hx hb hts i_X7 hown hK hP 3 rfl rfl 4 (by decide) (hts _ wf_X10_31) (fun _ h9 => h9) rfl dX10_couples_9 ?_
    refine lv_icmp_ge (tgt := 30) hx hb dX10_couples_12 (by decide) (fun hc => ?_) (fun hc => ?_)
    · have hf := tc_pos hc hf
      refine lv_iload_n hx hb dX10_couples_30 rfl (lv_at hl 2 rfl) ?_
      obtain rfl := Option.some.inj hf
      exact tc_ri X hP hD hS rfl dX10_couples_31 rfl rfl
    · have hf := tc_neg hc hf
      refine lv_iload_n hx hb dX10_couples_15 rfl (lv_at hl 2 rfl) ?_
      refine lv_aload_n hx hb dX10_couples_16 rfl (lv_at hl 0 rfl) ?_
      refine lv_iload_n hx hb dX10_couples_17 rfl (lv_at hl 1 rfl) ?_
      refine lv_iload_n hx hb dX10_couples_18 rfl (lv_at hl 3 rfl) ?_
      obtain ⟨z1, hg, hf⟩ := tc_bi hf
      refine tc_iV (As := [.int (v1), .int (v3)]) (rest := [.int (v2)]) (b := qW 0) (wc := w10 ca qW (.ref (qT 0)) SW) (wr := w7 ca qT ST) X hP hD hS (mX10_couplesOf hg) okX10_couplesOf wl_X10_67 wi_X10_couplesOf ws_X10_X10_couplesOf_X10_couplesOf ⟨rfl, rfl, Nat.le_of_ble_eq_true rfl, Nat.le_of_ble_eq_true rfl⟩ 10 0 rfl rfl [0, 1, 2] [3, 4, 5, 6, 7, 8, 9, 10, 11, 12, 13] ⟨rfl, rfl, rfl, rfl, by decide⟩ rfl hl.1 (Nat.le_of_ble_eq_true rfl) dX10_couples_19 (fun H locs hP hD hS => ?_)
      have hP := hP.sub (ws' := (w10 ca qW (.ref (qT 0)) SW ++ w7 ca qT ST)) [11, 12, 13, 0, 1, 2, 3, 4, 5, 6, 7, 8, 9, 10] rfl
      have hD := hD.sub (ws' := (w10 ca qW (.ref (qT 0)) SW ++ w7 ca qT ST)) [11, 12, 13, 0, 1, 2, 3, 4, 5, 6, 7, 8, 9, 10] rfl rfl
      refine lv_iadd hx hb dX10_couples_22 ?_
      refine lv_istore_n (lv' := [(2, .int (v2 + z1)), (0, .ref (qW 0)), (1, .int (v1)), (3, .int (v3))]) hx hb dX10_couples_23 rfl hl (by decide) rfl (fun ls hl => ?_)
      refine lv_iinc (v := v3 + (1 : Int32)) (lv' := [(3, .int (v3 + (1 : Int32))), (2, .int (v2 + z1)), (0, .ref (qW 0)), (1, .int (v1))]) hx hb dX10_couples_24 hl (k := 3) rfl rfl (by decide) rfl (fun ls hl => ?_)
      refine lv_goto (tgt := 4) hx hb dX10_couples_27 (by decide) ?_
      exact ih v1 (v2 + z1) (v3 + (1 : Int32)) hf _ _ _ hP hD hS (lv_sub hl [2, 3, 1, 0] rfl)
set_option maxRecDepth 20000 in
theorem mX10_couples {qW : Nat → Nat} {qT : Nat → Nat}  {SW : ms_T} {ST : ms_T} {a1 : Int32} {z : Int32}  (hf : fX10_couples SW ST a1 = some z) : tc_MI l dC dI ca yX10_couples cX10_couples 4 (some .int) rmX10_couples [.ref (qW 0), .int (a1)] (w10 ca qW (.ref (qT 0)) SW ++ w7 ca qT ST) (w10 ca qW (.ref (qT 0)) SW ++ w7 ca qT ST) (z) := by
  refine tc_metI (own := RX10) (by decide) rfl ?_ (Nat.le_of_ble_eq_true rfl)
  intro p e s m below meth c A X hP hD hS ls hl
  obtain ⟨hx, hb, hr, hml, hown, hts, hlk, hK, hA, hG⟩ := id X
  unfold fX10_couples at hf
  have hl : lv_has ls 4 [(0, .ref (qW 0)), (1, .int (a1))] := hl
  refine lv_iconst (v := (0 : Int32)) hx hb dX10_couples_0 (by decide) ?_
  refine lv_istore_n (lv' := [(2, .int ((0 : Int32))), (0, .ref (qW 0)), (1, .int (a1))]) hx hb dX10_couples_1 rfl hl (by decide) rfl (fun ls hl => ?_)
  refine lv_iconst (v := (0 : Int32)) hx hb dX10_couples_2 (by decide) ?_
  refine lv_istore_n (lv' := [(3, .int ((0 : Int32))), (2, .int ((0 : Int32))), (0, .ref (qW 0)), (1, .int (a1))]) hx hb dX10_couples_3 rfl hl (by decide) rfl (fun ls hl => ?_)
  exact tX10_couples_4 X z SW ST FU a1 (0 : Int32) (0 : Int32) hf _ _ _ hP hD hS (lv_sub hl [2, 3, 1, 0] rfl)
def fX10_beginGame  (SW : ms_T) (ST : ms_T)  : Option (ms_T) :=
  (fX7_standing ST).bind fun z1 =>
  some (si SW 1 z1)
abbrev rmX10_beginGame : Room := { frames := 2, cells := 0, slots := 0, locals := 45 }
theorem okX10_beginGame : tc_ok yX10_beginGame cX10_beginGame 2 none 1 := ⟨wc_X10_beginGame, wn_X10, by decide, by decide, by decide +kernel⟩
set_option maxRecDepth 20000 in
theorem mX10_beginGame {qW : Nat → Nat} {qT : Nat → Nat} {rW0 : Value} {SW : ms_T} {ST : ms_T}  {z : ms_T}  (hf : fX10_beginGame SW ST = some z) : tc_MV l dC dI ca yX10_beginGame cX10_beginGame 2 none rmX10_beginGame [.ref (qW 0), .ref (qT 0)] (w10 ca qW (rW0) SW ++ w7 ca qT ST) (w10 ca qW (.ref (qT 0)) z ++ w7 ca qT ST) := by
  refine tc_metV (own := RX10) (by decide) rfl ?_ (Nat.le_of_ble_eq_true rfl)
  intro p e s m below meth c A X hP hD hS ls hl
  obtain ⟨hx, hb, hr, hml, hown, hts, hlk, hK, hA, hG⟩ := id X
  unfold fX10_beginGame at hf
  have hl : lv_has ls 2 [(0, .ref (qW 0)), (1, .ref (qT 0))] := hl
  refine lv_aload_n hx hb dX10_beginGame_0 rfl (lv_at hl 0 rfl) ?_
  refine lv_aload_n hx hb dX10_beginGame_1 rfl (lv_at hl 1 rfl) ?_
  refine va_put (D := (dC, dI)) (ci := 10) (v := .ref (qT 0)) (ty := .object "TalkChutes$Table") (C := RX10) (T := TX10) (N := 4) hx hb hts i_X10 tyX10 tyX10_ok nmX10 hown hK hP hD hS 0 rfl rfl 0 (by decide) (hts _ wf_X10_20) (fun _ h9 => h9) rfl (tyX10_ok 0 (by decide)) rfl rfl (Nat.le_of_ble_eq_true rfl) dX10_beginGame_2 (fun H locs hP hD hS => ?_)
  have hP := tc_eP (pw10_7_0_0 ca qW qT (rW0) SW ST (.ref (qT 0))) hP
  have hD := tc_eD (pw10_7_0_0 ca qW qT (rW0) SW ST (.ref (qT 0))) hD
  refine lv_aload_n hx hb dX10_beginGame_5 rfl (lv_at hl 0 rfl) ?_
  refine lv_aload_n hx hb dX10_beginGame_6 rfl (lv_at hl 0 rfl) ?_
  refine va_get (D := (dC, dI)) (ci := 10) (v := .ref (qT 0)) (C := RX10) (T := TX10) (N := 4) hx hb hts i_X10 hown hK hP 0 rfl rfl 0 (by decide) (hts _ wf_X10_20) (fun _ h9 => h9) rfl dX10_beginGame_7 ?_
  obtain ⟨z1, hg, hf⟩ := tc_bi hf
  refine tc_iV (As := []) (rest := [.ref (qW 0)]) (b := qT 0) (wc := w7 ca qT ST) (wr := w10 ca qW (.ref (qT 0)) SW) X hP hD hS (mX7_standing hg) okX7_standing wl_X10_24 wi_X7_standing ws_X7_X7_standing_X7_standing ⟨rfl, rfl, Nat.le_of_ble_eq_true rfl, Nat.le_of_ble_eq_true rfl⟩ 7 0 rfl rfl [3, 4, 5, 6, 7, 8, 9, 10, 11, 12, 13] [0, 1, 2] ⟨rfl, rfl, rfl, rfl, by decide⟩ rfl hl.1 (Nat.le_of_ble_eq_true rfl) dX10_beginGame_10 (fun H locs hP hD hS => ?_)
  have hP := hP.sub (ws' := (w10 ca qW (.ref (qT 0)) SW ++ w7 ca qT ST)) [0, 1, 2, 3, 4, 5, 6, 7, 8, 9, 10, 11, 12, 13] rfl
  have hD := hD.sub (ws' := (w10 ca qW (.ref (qT 0)) SW ++ w7 ca qT ST)) [0, 1, 2, 3, 4, 5, 6, 7, 8, 9, 10, 11, 12, 13] rfl rfl
  refine va_put (D := (dC, dI)) (ci := 10) (v := .int (z1)) (ty := .int) (C := RX10) (T := TX10) (N := 4) hx hb hts i_X10 tyX10 tyX10_ok nmX10 hown hK hP hD hS 0 rfl rfl 1 (by decide) (hts _ wf_X10_28) (fun _ h9 => h9) rfl (tyX10_ok 1 (by decide)) rfl rfl (Nat.le_of_ble_eq_true rfl) dX10_beginGame_13 (fun H locs hP hD hS => ?_)
  have hP := tc_eP (pw10_7_0_1 ca qW qT (.ref (qT 0)) SW ST z1) hP
  have hD := tc_eD (pw10_7_0_1 ca qW qT (.ref (qT 0)) SW ST z1) hD
  obtain rfl := Option.some.inj hf
  exact tc_rv X hP hD hS rfl dX10_beginGame_16 rfl
def fX10_mostWorthFrom_12 (rc : ms_T → ms_T → Int32 → Int32 → Option (Int32 × ms_T × ms_T))   : Nat → ms_T → ms_T → Int32 → Int32 → Int32 → Int32 → Option (Int32 × ms_T × ms_T)
  | 0, _, _, _, _, _, _ => none
  | n + 1, SW, ST, v1, v2, v3, v4 =>
    if (gi ST 4) ≤ v4 then
      some (v3, SW, ST)
    else
      if v2 ≤ 0 then
        some (v3, SW, ST)
      else
        if (((gi SW 1) >>> (v4 &&& 31)) &&& (1 : Int32)) = 0 then
          fX10_mostWorthFrom_12 rc n SW ST v1 v2 v3 (v4 + (1 : Int32))
        else
          (fX7_isNear ST v4 v1).bind fun z2 =>
          if z2 = 0 then
            fX10_mostWorthFrom_12 rc n SW ST v1 v2 v3 (v4 + (1 : Int32))
          else
            (fX7_heightOf ST v4).bind fun z3 =>
            (rc SW ST z3 (v2 - (1 : Int32))).bind fun z4 =>
            fX10_mostWorthFrom_12 rc n z4.2.1 z4.2.2 v1 v2 (jmax v3 z4.1) (v4 + (1 : Int32))
def fX10_mostWorthFrom_0 (rc : ms_T → ms_T → Int32 → Int32 → Option (Int32 × ms_T × ms_T)) (SW : ms_T) (ST : ms_T) (a1 : Int32) (a2 : Int32) : Option (Int32 × ms_T × ms_T) :=
  (fX7_worthAt ST a1).bind fun z1 =>
  fX10_mostWorthFrom_12 rc FU SW ST a1 a2 z1 (0 : Int32)
def fX10_mostWorthFrom : Nat → ms_T → ms_T → Int32 → Int32 → Option (Int32 × ms_T × ms_T)
  | 0, _, _, _, _ => none
  | d + 1, SW, ST, a1, a2 => fX10_mostWorthFrom_0 (fX10_mostWorthFrom d) SW ST a1 a2
abbrev rmX10_mostWorthFrom (d : Nat) : Room := { frames := 2 + d, cells := 0, slots := 0, locals := 45 + d * 24 }
theorem okX10_mostWorthFrom : tc_ok yX10_mostWorthFrom cX10_mostWorthFrom 5 (some .int) 2 := ⟨wc_X10_mostWorthFrom, wn_X10, by decide, by decide, by decide +kernel⟩
set_option maxRecDepth 20000 in
theorem tX10_mostWorthFrom_12 {d : Nat} {qW : Nat → Nat} {qT : Nat → Nat}  (X : tc_X dC dI ca A RX10 cX10_mostWorthFrom 5 (some .int) p s m args meth c) (z : Int32 × ms_T × ms_T) (rc : ms_T → ms_T → Int32 → Int32 → Option (Int32 × ms_T × ms_T)) (hrc : ∀ {SW ST : ms_T} {a1 : Int32} {a2 : Int32} {z : Int32 × ms_T × ms_T}, rc SW ST a1 a2 = some z → tc_MI l dC dI ca yX10_mostWorthFrom cX10_mostWorthFrom 5 (some .int) (rmX10_mostWorthFrom d) [.ref (qW 0), .int (a1), .int (a2)] (w10 ca qW (.ref (qT 0)) SW ++ w7 ca qT ST) (w10 ca qW (.ref (qT 0)) z.2.1 ++ w7 ca qT z.2.2) (z.1))    : ∀ n : Nat, ∀ (SW : ms_T) (ST : ms_T) (v1 : Int32) (v2 : Int32) (v3 : Int32) (v4 : Int32), fX10_mostWorthFrom_12 rc n SW ST v1 v2 v3 v4 = some z → ∀ (H : Heap) (locs : List Loc) (ls : Array Slot), va_P (dC, dI) classes (w10 ca qW (.ref (qT 0)) SW ++ w7 ca qT ST) H → va_D A (w10 ca qW (.ref (qT 0)) SW ++ w7 ca qT ST) → va_S A s.heap H locs → lv_has ls 5 [(0, .ref (qW 0)), (1, .int (v1)), (2, .int (v2)), (3, .int (v3)), (4, .int (v4))] → W p l e (rmX10_mostWorthFrom (d + 1)) s m args below meth c H locs 0 0 (MQ below (tc_QI dC dI ca A (w10 ca qW (.ref (qT 0)) z.2.1 ++ w7 ca qT z.2.2) (z.1)) args s 0 0 A) (F0 m 12 ls []) := by
  obtain ⟨hx, hb, hr, hml, hown, hts, hlk, hK, hA, hG⟩ := id X
  intro n
  induction n with
  | zero => intro SW ST v1 v2 v3 v4 hf; exact absurd (show none = some z from hf) (fun h => by cases h)
  | succ n ih =>
    intro SW ST v1 v2 v3 v4 hf H locs ls hP hD hS hl
    rw [fX10_mostWorthFrom_12] at hf
    refine lv_iload hx hb dX10_mostWorthFrom_12 (lv_at hl 4 rfl) ?_
    refine lv_aload_n hx hb dX10_mostWorthFrom_14 rfl (lv_at hl 0 rfl) ?_
    refine va_get (D := (dC, dI)) (ci := 10) (v := .ref (qT 0)) (C := RX10) (T := TX10) (N := 4) hx hb hts i_X10 hown hK hP 0 rfl rfl 0 (by decide) (hts _ wf_X10_20) (fun _ h9 => h9) rfl dX10_mostWorthFrom_15 ?_
    refine va_get (D := (dC, dI)) (ci := 7) (v := .int (gi ST 4)) (C := RX7) (T := TX7) (N := 18) hx hb hts i_X7 hown hK hP 3 rfl rfl 4 (by decide) (hts _ wf_X10_31) (fun _ h9 => h9) rfl dX10_mostWorthFrom_18 ?_
    refine lv_icmp_ge (tgt := 80) hx hb dX10_mostWorthFrom_21 (by decide) (fun hc => ?_) (fun hc => ?_)
    · have hf := tc_pos hc hf
      refine lv_iload_n hx hb dX10_mostWorthFrom_80 rfl (lv_at hl 3 rfl) ?_
      obtain rfl := Option.some.inj hf
      exact tc_ri X hP hD hS rfl dX10_mostWorthFrom_81 rfl rfl
    · have hf := tc_neg hc hf
      refine lv_iload_n hx hb dX10_mostWorthFrom_24 rfl (lv_at hl 2 rfl) ?_
      refine lv_if_le (tgt := 80) hx hb dX10_mostWorthFrom_25 (by decide) (fun hc => ?_) (fun hc => ?_)
      · have hf := tc_pos hc hf
        refine lv_iload_n hx hb dX10_mostWorthFrom_80 rfl (lv_at hl 3 rfl) ?_
        obtain rfl := Option.some.inj hf
        exact tc_ri X hP hD hS rfl dX10_mostWorthFrom_81 rfl rfl
      · have hf := tc_neg hc hf
        refine lv_aload_n hx hb dX10_mostWorthFrom_28 rfl (lv_at hl 0 rfl) ?_
        refine va_get (D := (dC, dI)) (ci := 10) (v := .int (gi SW 1)) (C := RX10) (T := TX10) (N := 4) hx hb hts i_X10 hown hK hP 0 rfl rfl 1 (by decide) (hts _ wf_X10_28) (fun _ h9 => h9) rfl dX10_mostWorthFrom_29 ?_
        refine lv_iload hx hb dX10_mostWorthFrom_32 (lv_at hl 4 rfl) ?_
        refine lv_ishr hx hb dX10_mostWorthFrom_34 ?_
        refine lv_iconst (v := (1 : Int32)) hx hb dX10_mostWorthFrom_35 (by decide) ?_
        refine lv_iand hx hb dX10_mostWorthFrom_36 ?_
        refine lv_if_eq (tgt := 74) hx hb dX10_mostWorthFrom_37 (by decide) (fun hc => ?_) (fun hc => ?_)
        · have hf := tc_pos hc hf
          refine lv_iinc (v := v4 + (1 : Int32)) (lv' := [(4, .int (v4 + (1 : Int32))), (0, .ref (qW 0)), (1, .int (v1)), (2, .int (v2)), (3, .int (v3))]) hx hb dX10_mostWorthFrom_74 hl (k := 4) rfl rfl (by decide) rfl (fun ls hl => ?_)
          refine lv_goto (tgt := 12) hx hb dX10_mostWorthFrom_77 (by decide) ?_
          exact ih SW ST v1 v2 v3 (v4 + (1 : Int32)) hf _ _ _ hP hD hS (lv_sub hl [1, 2, 3, 4, 0] rfl)
        · have hf := tc_neg hc hf
          refine lv_aload_n hx hb dX10_mostWorthFrom_40 rfl (lv_at hl 0 rfl) ?_
          refine va_get (D := (dC, dI)) (ci := 10) (v := .ref (qT 0)) (C := RX10) (T := TX10) (N := 4) hx hb hts i_X10 hown hK hP 0 rfl rfl 0 (by decide) (hts _ wf_X10_20) (fun _ h9 => h9) rfl dX10_mostWorthFrom_41 ?_
          refine lv_iload hx hb dX10_mostWorthFrom_44 (lv_at hl 4 rfl) ?_
          refine lv_iload_n hx hb dX10_mostWorthFrom_46 rfl (lv_at hl 1 rfl) ?_
          obtain ⟨z2, hg, hf⟩ := tc_bi hf
          refine tc_iV (As := [.int (v4), .int (v1)]) (rest := []) (b := qT 0) (wc := w7 ca qT ST) (wr := w10 ca qW (.ref (qT 0)) SW) X hP hD hS (mX7_isNear hg) okX7_isNear wl_X10_60 wi_X7_isNear ws_X7_X7_isNear_X7_isNear ⟨rfl, rfl, (by show 1 + 1 ≤ 2 + (d + 1); omega), (by show 8 + (3 + 11) + 23 ≤ 45 + (d + 1) * 24; omega)⟩ 7 0 rfl rfl [3, 4, 5, 6, 7, 8, 9, 10, 11, 12, 13] [0, 1, 2] ⟨rfl, rfl, rfl, rfl, by decide⟩ rfl hl.1 (Nat.le_of_ble_eq_true rfl) dX10_mostWorthFrom_47 (fun H locs hP hD hS => ?_)
          have hP := hP.sub (ws' := (w10 ca qW (.ref (qT 0)) SW ++ w7 ca qT ST)) [0, 1, 2, 3, 4, 5, 6, 7, 8, 9, 10, 11, 12, 13] rfl
          have hD := hD.sub (ws' := (w10 ca qW (.ref (qT 0)) SW ++ w7 ca qT ST)) [0, 1, 2, 3, 4, 5, 6, 7, 8, 9, 10, 11, 12, 13] rfl rfl
          refine lv_if_eq (tgt := 74) hx hb dX10_mostWorthFrom_50 (by decide) (fun hc => ?_) (fun hc => ?_)
          · have hf := tc_pos hc hf
            refine lv_iinc (v := v4 + (1 : Int32)) (lv' := [(4, .int (v4 + (1 : Int32))), (0, .ref (qW 0)), (1, .int (v1)), (2, .int (v2)), (3, .int (v3))]) hx hb dX10_mostWorthFrom_74 hl (k := 4) rfl rfl (by decide) rfl (fun ls hl => ?_)
            refine lv_goto (tgt := 12) hx hb dX10_mostWorthFrom_77 (by decide) ?_
            exact ih SW ST v1 v2 v3 (v4 + (1 : Int32)) hf _ _ _ hP hD hS (lv_sub hl [1, 2, 3, 4, 0] rfl)
          · have hf := tc_neg hc hf
            refine lv_iload_n hx hb dX10_mostWorthFrom_53 rfl (lv_at hl 3 rfl) ?_
            refine lv_aload_n hx hb dX10_mostWorthFrom_54 rfl (lv_at hl 0 rfl) ?_
            refine lv_aload_n hx hb dX10_mostWorthFrom_55 rfl (lv_at hl 0 rfl) ?_
            refine va_get (D := (dC, dI)) (ci := 10) (v := .ref (qT 0)) (C := RX10) (T := TX10) (N := 4) hx hb hts i_X10 hown hK hP 0 rfl rfl 0 (by decide) (hts _ wf_X10_20) (fun _ h9 => h9) rfl dX10_mostWorthFrom_56 ?_
            refine lv_iload hx hb dX10_mostWorthFrom_59 (lv_at hl 4 rfl) ?_
            obtain ⟨z3, hg, hf⟩ := tc_bi hf
            refine tc_iV (As := [.int (v4)]) (rest := [.ref (qW 0), .int (v3)]) (b := qT 0) (wc := w7 ca qT ST) (wr := w10 ca qW (.ref (qT 0)) SW) X hP hD hS (mX7_heightOf hg) okX7_heightOf wl_X10_34 wi_X7_heightOf ws_X7_X7_heightOf_X7_heightOf ⟨rfl, rfl, (by show 0 + 1 ≤ 2 + (d + 1); omega), (by show 8 + (2 + 11) + 0 ≤ 45 + (d + 1) * 24; omega)⟩ 7 0 rfl rfl [3, 4, 5, 6, 7, 8, 9, 10, 11, 12, 13] [0, 1, 2] ⟨rfl, rfl, rfl, rfl, by decide⟩ rfl hl.1 (Nat.le_of_ble_eq_true rfl) dX10_mostWorthFrom_61 (fun H locs hP hD hS => ?_)
            have hP := hP.sub (ws' := (w10 ca qW (.ref (qT 0)) SW ++ w7 ca qT ST)) [0, 1, 2, 3, 4, 5, 6, 7, 8, 9, 10, 11, 12, 13] rfl
            have hD := hD.sub (ws' := (w10 ca qW (.ref (qT 0)) SW ++ w7 ca qT ST)) [0, 1, 2, 3, 4, 5, 6, 7, 8, 9, 10, 11, 12, 13] rfl rfl
            refine lv_iload_n hx hb dX10_mostWorthFrom_64 rfl (lv_at hl 2 rfl) ?_
            refine lv_iconst (v := (1 : Int32)) hx hb dX10_mostWorthFrom_65 (by decide) ?_
            refine lv_isub hx hb dX10_mostWorthFrom_66 ?_
            obtain ⟨z4, hg, hf⟩ := tc_bi hf
            refine tc_iVs (As := [.int (z3), .int (v2 - (1 : Int32))]) (rest := [.int (v3)]) (b := qW 0) X hP hD hS (hrc hg) okX10_mostWorthFrom wl_X10_76 wi_X10_mostWorthFrom ws_X10_X10_mostWorthFrom_X10_mostWorthFrom ⟨rfl, rfl, (by show (2 + d) + 1 ≤ 2 + (d + 1); omega), (by show 8 + (5 + 11) + (45 + d * 24) ≤ 45 + (d + 1) * 24; omega)⟩ 10 0 rfl rfl rfl hl.1 (Nat.le_of_ble_eq_true rfl) dX10_mostWorthFrom_67 (fun H locs hP hD hS => ?_)
            refine tc_mmax (rest := []) X hl.1 wl_X10_38 (by show 1 ≤ 2 + (d + 1); omega) (by show 0 + 13 ≤ 45 + (d + 1) * 24; omega) dX10_mostWorthFrom_70 ?_
            refine lv_istore_n (lv' := [(3, .int (jmax v3 z4.1)), (0, .ref (qW 0)), (1, .int (v1)), (2, .int (v2)), (4, .int (v4))]) hx hb dX10_mostWorthFrom_73 rfl hl (by decide) rfl (fun ls hl => ?_)
            refine lv_iinc (v := v4 + (1 : Int32)) (lv' := [(4, .int (v4 + (1 : Int32))), (3, .int (jmax v3 z4.1)), (0, .ref (qW 0)), (1, .int (v1)), (2, .int (v2))]) hx hb dX10_mostWorthFrom_74 hl (k := 4) rfl rfl (by decide) rfl (fun ls hl => ?_)
            refine lv_goto (tgt := 12) hx hb dX10_mostWorthFrom_77 (by decide) ?_
            exact ih z4.2.1 z4.2.2 v1 v2 (jmax v3 z4.1) (v4 + (1 : Int32)) hf _ _ _ hP hD hS (lv_sub hl [2, 3, 4, 1, 0] rfl)
set_option maxRecDepth 20000 in
theorem mX10_mostWorthFrom_0 {d : Nat} {qW : Nat → Nat} {qT : Nat → Nat}  {SW : ms_T} {ST : ms_T} {a1 : Int32} {a2 : Int32} {z : Int32 × ms_T × ms_T} {rc : ms_T → ms_T → Int32 → Int32 → Option (Int32 × ms_T × ms_T)} (hrc : ∀ {SW ST : ms_T} {a1 : Int32} {a2 : Int32} {z : Int32 × ms_T × ms_T}, rc SW ST a1 a2 = some z → tc_MI l dC dI ca yX10_mostWorthFrom cX10_mostWorthFrom 5 (some .int) (rmX10_mostWorthFrom d) [.ref (qW 0), .int (a1), .int (a2)] (w10 ca qW (.ref (qT 0)) SW ++ w7 ca qT ST) (w10 ca qW (.ref (qT 0)) z.2.1 ++ w7 ca qT z.2.2) (z.1)) (hf : fX10_mostWorthFrom_0 rc SW ST a1 a2 = some z) : tc_MI l dC dI ca yX10_mostWorthFrom cX10_mostWorthFrom 5 (some .int) (rmX10_mostWorthFrom (d + 1)) [.ref (qW 0), .int (a1), .int (a2)] (w10 ca qW (.ref (qT 0)) SW ++ w7 ca qT ST) (w10 ca qW (.ref (qT 0)) z.2.1 ++ w7 ca qT z.2.2) (z.1) := by
  refine tc_metI (own := RX10) (by decide) rfl ?_ (Nat.le_of_ble_eq_true rfl)
  intro p e s m below meth c A X hP hD hS ls hl
  obtain ⟨hx, hb, hr, hml, hown, hts, hlk, hK, hA, hG⟩ := id X
  unfold fX10_mostWorthFrom_0 at hf
  have hl : lv_has ls 5 [(0, .ref (qW 0)), (1, .int (a1)), (2, .int (a2))] := hl
  refine lv_aload_n hx hb dX10_mostWorthFrom_0 rfl (lv_at hl 0 rfl) ?_
  refine va_get (D := (dC, dI)) (ci := 10) (v := .ref (qT 0)) (C := RX10) (T := TX10) (N := 4) hx hb hts i_X10 hown hK hP 0 rfl rfl 0 (by decide) (hts _ wf_X10_20) (fun _ h9 => h9) rfl dX10_mostWorthFrom_1 ?_
  refine lv_iload_n hx hb dX10_mostWorthFrom_4 rfl (lv_at hl 1 rfl) ?_
  obtain ⟨z1, hg, hf⟩ := tc_bi hf
  refine tc_iV (As := [.int (a1)]) (rest := []) (b := qT 0) (wc := w7 ca qT ST) (wr := w10 ca qW (.ref (qT 0)) SW) X hP hD hS (mX7_worthAt hg) okX7_worthAt wl_X10_79 wi_X7_worthAt ws_X7_X7_worthAt_X7_worthAt ⟨rfl, rfl, (by show 0 + 1 ≤ 2 + (d + 1); omega), (by show 8 + (2 + 11) + 0 ≤ 45 + (d + 1) * 24; omega)⟩ 7 0 rfl rfl [3, 4, 5, 6, 7, 8, 9, 10, 11, 12, 13] [0, 1, 2] ⟨rfl, rfl, rfl, rfl, by decide⟩ rfl hl.1 (Nat.le_of_ble_eq_true rfl) dX10_mostWorthFrom_5 (fun H locs hP hD hS => ?_)
  have hP := hP.sub (ws' := (w10 ca qW (.ref (qT 0)) SW ++ w7 ca qT ST)) [0, 1, 2, 3, 4, 5, 6, 7, 8, 9, 10, 11, 12, 13] rfl
  have hD := hD.sub (ws' := (w10 ca qW (.ref (qT 0)) SW ++ w7 ca qT ST)) [0, 1, 2, 3, 4, 5, 6, 7, 8, 9, 10, 11, 12, 13] rfl rfl
  refine lv_istore_n (lv' := [(3, .int (z1)), (0, .ref (qW 0)), (1, .int (a1)), (2, .int (a2))]) hx hb dX10_mostWorthFrom_8 rfl hl (by decide) rfl (fun ls hl => ?_)
  refine lv_iconst (v := (0 : Int32)) hx hb dX10_mostWorthFrom_9 (by decide) ?_
  refine lv_istore (lv' := [(4, .int ((0 : Int32))), (3, .int (z1)), (0, .ref (qW 0)), (1, .int (a1)), (2, .int (a2))]) hx hb dX10_mostWorthFrom_10 hl (by decide) rfl (fun ls hl => ?_)
  exact tX10_mostWorthFrom_12 X z rc hrc FU SW ST a1 a2 z1 (0 : Int32) hf _ _ _ hP hD hS (lv_sub hl [2, 3, 4, 1, 0] rfl)
theorem mX10_mostWorthFrom (d : Nat) {qW : Nat → Nat} {qT : Nat → Nat}  : ∀ {SW ST : ms_T} {a1 : Int32} {a2 : Int32} {z : Int32 × ms_T × ms_T}, fX10_mostWorthFrom d SW ST a1 a2 = some z → tc_MI l dC dI ca yX10_mostWorthFrom cX10_mostWorthFrom 5 (some .int) (rmX10_mostWorthFrom d) [.ref (qW 0), .int (a1), .int (a2)] (w10 ca qW (.ref (qT 0)) SW ++ w7 ca qT ST) (w10 ca qW (.ref (qT 0)) z.2.1 ++ w7 ca qT z.2.2) (z.1) := by
  induction d with
  | zero => intro SW ST a1 a2 z hf; exact absurd (show none = some z from hf) (fun h => by cases h)
  | succ d ih => intro SW ST a1 a2 z hf; exact mX10_mostWorthFrom_0 ih hf
def fX10_mostWorth_26    (SW : ms_T) (ST : ms_T) (v2 : Int32) (v3 : Int32) (t0 : Int32) : Option (Int32 × ms_T × ms_T) :=
  if t0 = 0 then
    (fX7_worthAt ST v3).bind fun z3 =>
    some (z3, SW, ST)
  else
    (fX10_mostWorthFrom 4 SW ST v3 v2).bind fun z4 =>
    some (z4.1, z4.2.1, z4.2.2)
def fX10_mostWorth  (SW : ms_T) (ST : ms_T) (a1 : Int32) (a2 : Int32) : Option (Int32 × ms_T × ms_T) :=
  if inb a1 6 = true then
    (fX7_sayable ST a1).bind fun z2 =>
    if z2 = 0 then
      fX10_mostWorth_26 SW ST a2 (ia ST 6 a1) (0 : Int32)
    else
      fX10_mostWorth_26 SW ST a2 (ia ST 6 a1) (1 : Int32)
  else none
abbrev rmX10_mostWorth : Room := { frames := 7, cells := 0, slots := 0, locals := 165 }
theorem okX10_mostWorth : tc_ok yX10_mostWorth cX10_mostWorth 5 (some .int) 2 := ⟨wc_X10_mostWorth, wn_X10, by decide, by decide, by decide +kernel⟩
set_option maxRecDepth 20000 in
theorem tX10_mostWorth_26 {qW : Nat → Nat} {qT : Nat → Nat}  (X : tc_X dC dI ca A RX10 cX10_mostWorth 5 (some .int) p s m args meth c) (z : Int32 × ms_T × ms_T)     : ∀ (SW : ms_T) (ST : ms_T) (v2 : Int32) (v3 : Int32) (t0 : Int32), fX10_mostWorth_26 SW ST v2 v3 t0 = some z → ∀ (H : Heap) (locs : List Loc) (ls : Array Slot), va_P (dC, dI) classes (w10 ca qW (.ref (qT 0)) SW ++ w7 ca qT ST) H → va_D A (w10 ca qW (.ref (qT 0)) SW ++ w7 ca qT ST) → va_S A s.heap H locs → lv_has ls 5 [(0, .ref (qW 0)), (2, .int (v2)), (3, .int (v3))] → W p l e rmX10_mostWorth s m args below meth c H locs 0 0 (MQ below (tc_QI dC dI ca A (w10 ca qW (.ref (qT 0)) z.2.1 ++ w7 ca qT z.2.2) (z.1)) args s 0 0 A) (F0 m 26 ls [.int (t0)]) := by
  obtain ⟨hx, hb, hr, hml, hown, hts, hlk, hK, hA, hG⟩ := id X
  intro SW ST v2 v3 t0 hf H locs ls hP hD hS hl
  unfold fX10_mostWorth_26 at hf
  refine lv_istore (lv' := [(4, .int (t0)), (0, .ref (qW 0)), (2, .int (v2)), (3, .int (v3))]) hx hb dX10_mostWorth_26 hl (by decide) rfl (fun ls hl => ?_)
  refine lv_iload hx hb dX10_mostWorth_28 (lv_at hl 0 rfl) ?_
  refine lv_if_eq (tgt := 42) hx hb dX10_mostWorth_30 (by decide) (fun hc => ?_) (fun hc => ?_)
  · have hf := tc_pos hc hf
    refine lv_aload_n hx hb dX10_mostWorth_42 rfl (lv_at hl 1 rfl) ?_
    refine va_get (D := (dC, dI)) (ci := 10) (v := .ref (qT 0)) (C := RX10) (T := TX10) (N := 4) hx hb hts i_X10 hown hK hP 0 rfl rfl 0 (by decide) (hts _ wf_X10_20) (fun _ h9 => h9) rfl dX10_mostWorth_43 ?_
    refine lv_iload_n hx hb dX10_mostWorth_46 rfl (lv_at hl 3 rfl) ?_
    obtain ⟨z3, hg, hf⟩ := tc_bi hf
    refine tc_iV (As := [.int (v3)]) (rest := []) (b := qT 0) (wc := w7 ca qT ST) (wr := w10 ca qW (.ref (qT 0)) SW) X hP hD hS (mX7_worthAt hg) okX7_worthAt wl_X10_79 wi_X7_worthAt ws_X7_X7_worthAt_X7_worthAt ⟨rfl, rfl, Nat.le_of_ble_eq_true rfl, Nat.le_of_ble_eq_true rfl⟩ 7 0 rfl rfl [3, 4, 5, 6, 7, 8, 9, 10, 11, 12, 13] [0, 1, 2] ⟨rfl, rfl, rfl, rfl, by decide⟩ rfl hl.1 (Nat.le_of_ble_eq_true rfl) dX10_mostWorth_47 (fun H locs hP hD hS => ?_)
    have hP := hP.sub (ws' := (w10 ca qW (.ref (qT 0)) SW ++ w7 ca qT ST)) [0, 1, 2, 3, 4, 5, 6, 7, 8, 9, 10, 11, 12, 13] rfl
    have hD := hD.sub (ws' := (w10 ca qW (.ref (qT 0)) SW ++ w7 ca qT ST)) [0, 1, 2, 3, 4, 5, 6, 7, 8, 9, 10, 11, 12, 13] rfl rfl
    obtain rfl := Option.some.inj hf
    exact tc_ri X hP hD hS rfl dX10_mostWorth_50 rfl rfl
  · have hf := tc_neg hc hf
    refine lv_aload_n hx hb dX10_mostWorth_33 rfl (lv_at hl 1 rfl) ?_
    refine lv_iload_n hx hb dX10_mostWorth_34 rfl (lv_at hl 3 rfl) ?_
    refine lv_iload_n hx hb dX10_mostWorth_35 rfl (lv_at hl 2 rfl) ?_
    obtain ⟨z4, hg, hf⟩ := tc_bi hf
    refine tc_iVs (As := [.int (v3), .int (v2)]) (rest := []) (b := qW 0) X hP hD hS (mX10_mostWorthFrom 4 hg) okX10_mostWorthFrom wl_X10_76 wi_X10_mostWorthFrom ws_X10_X10_mostWorthFrom_X10_mostWorthFrom ⟨rfl, rfl, Nat.le_of_ble_eq_true rfl, Nat.le_of_ble_eq_true rfl⟩ 10 0 rfl rfl rfl hl.1 (Nat.le_of_ble_eq_true rfl) dX10_mostWorth_36 (fun H locs hP hD hS => ?_)
    refine lv_goto (tgt := 50) hx hb dX10_mostWorth_39 (by decide) ?_
    obtain rfl := Option.some.inj hf
    exact tc_ri X hP hD hS rfl dX10_mostWorth_50 rfl rfl
set_option maxRecDepth 20000 in
theorem mX10_mostWorth {qW : Nat → Nat} {qT : Nat → Nat}  {SW : ms_T} {ST : ms_T} {a1 : Int32} {a2 : Int32} {z : Int32 × ms_T × ms_T}  (hf : fX10_mostWorth SW ST a1 a2 = some z) : tc_MI l dC dI ca yX10_mostWorth cX10_mostWorth 5 (some .int) rmX10_mostWorth [.ref (qW 0), .int (a1), .int (a2)] (w10 ca qW (.ref (qT 0)) SW ++ w7 ca qT ST) (w10 ca qW (.ref (qT 0)) z.2.1 ++ w7 ca qT z.2.2) (z.1) := by
  refine tc_metI (own := RX10) (by decide) rfl ?_ (Nat.le_of_ble_eq_true rfl)
  intro p e s m below meth c A X hP hD hS ls hl
  obtain ⟨hx, hb, hr, hml, hown, hts, hlk, hK, hA, hG⟩ := id X
  unfold fX10_mostWorth at hf
  have hl : lv_has ls 5 [(0, .ref (qW 0)), (1, .int (a1)), (2, .int (a2))] := hl
  refine lv_aload_n hx hb dX10_mostWorth_0 rfl (lv_at hl 0 rfl) ?_
  refine va_get (D := (dC, dI)) (ci := 10) (v := .ref (qT 0)) (C := RX10) (T := TX10) (N := 4) hx hb hts i_X10 hown hK hP 0 rfl rfl 0 (by decide) (hts _ wf_X10_20) (fun _ h9 => h9) rfl dX10_mostWorth_1 ?_
  refine va_get (D := (dC, dI)) (ci := 7) (v := .ref (qT 6)) (C := RX7) (T := TX7) (N := 18) hx hb hts i_X7 hown hK hP 3 rfl rfl 10 (by decide) (hts _ wf_X10_70) (fun _ h9 => h9) rfl dX10_mostWorth_4 ?_
  refine lv_iload_n hx hb dX10_mostWorth_7 rfl (lv_at hl 1 rfl) ?_
  obtain ⟨hi1, hf⟩ := tc_in hf
  refine va_iald hx hb hK hP 9 1 rfl rfl hi1 dX10_mostWorth_8 ?_
  refine lv_istore_n (lv' := [(3, .int (ia ST 6 a1)), (0, .ref (qW 0)), (1, .int (a1)), (2, .int (a2))]) hx hb dX10_mostWorth_9 rfl hl (by decide) rfl (fun ls hl => ?_)
  refine lv_aload_n hx hb dX10_mostWorth_10 rfl (lv_at hl 1 rfl) ?_
  refine va_get (D := (dC, dI)) (ci := 10) (v := .ref (qT 0)) (C := RX10) (T := TX10) (N := 4) hx hb hts i_X10 hown hK hP 0 rfl rfl 0 (by decide) (hts _ wf_X10_20) (fun _ h9 => h9) rfl dX10_mostWorth_11 ?_
  refine lv_iload_n hx hb dX10_mostWorth_14 rfl (lv_at hl 2 rfl) ?_
  obtain ⟨z2, hg, hf⟩ := tc_bi hf
  refine tc_iV (As := [.int (a1)]) (rest := []) (b := qT 0) (wc := w7 ca qT ST) (wr := w10 ca qW (.ref (qT 0)) SW) X hP hD hS (mX7_sayable hg) okX7_sayable wl_X10_73 wi_X7_sayable ws_X7_X7_sayable_X7_sayable ⟨rfl, rfl, Nat.le_of_ble_eq_true rfl, Nat.le_of_ble_eq_true rfl⟩ 7 0 rfl rfl [3, 4, 5, 6, 7, 8, 9, 10, 11, 12, 13] [0, 1, 2] ⟨rfl, rfl, rfl, rfl, by decide⟩ rfl hl.1 (Nat.le_of_ble_eq_true rfl) dX10_mostWorth_15 (fun H locs hP hD hS => ?_)
  have hP := hP.sub (ws' := (w10 ca qW (.ref (qT 0)) SW ++ w7 ca qT ST)) [0, 1, 2, 3, 4, 5, 6, 7, 8, 9, 10, 11, 12, 13] rfl
  have hD := hD.sub (ws' := (w10 ca qW (.ref (qT 0)) SW ++ w7 ca qT ST)) [0, 1, 2, 3, 4, 5, 6, 7, 8, 9, 10, 11, 12, 13] rfl rfl
  refine lv_if_eq (tgt := 25) hx hb dX10_mostWorth_18 (by decide) (fun hc => ?_) (fun hc => ?_)
  · have hf := tc_pos hc hf
    refine lv_iconst (v := (0 : Int32)) hx hb dX10_mostWorth_25 (by decide) ?_
    exact tX10_mostWorth_26 X z SW ST a2 (ia ST 6 a1) (0 : Int32) hf _ _ _ hP hD hS (lv_sub hl [1, 3, 0] rfl)
  · have hf := tc_neg hc hf
    refine lv_iconst (v := (1 : Int32)) hx hb dX10_mostWorth_21 (by decide) ?_
    refine lv_goto (tgt := 26) hx hb dX10_mostWorth_22 (by decide) ?_
    exact tX10_mostWorth_26 X z SW ST a2 (ia ST 6 a1) (1 : Int32) hf _ _ _ hP hD hS (lv_sub hl [1, 3, 0] rfl)
def fX10_firstMove_52   (k25 : ms_T → ms_T → Int32 → Int32 → Int32 → Int32 → Option (Int32 × ms_T × ms_T)) (SW : ms_T) (ST : ms_T) (v2 : Int32) (v3 : Int32) (v4 : Int32) (v5 : Int32) (t0 : Int32) : Option (Int32 × ms_T × ms_T) :=
  if t0 = 0 then
    k25 SW ST v2 v3 v4 (v5 + (1 : Int32))
  else
    (fX7_heightOf ST v5).bind fun z3 =>
    (fX10_mostWorthFrom 4 SW ST z3 (v2 - (1 : Int32))).bind fun z4 =>
    if z4.1 = v3 then
      some (v5, z4.2.1, z4.2.2)
    else
      k25 z4.2.1 z4.2.2 v2 v3 v4 (v5 + (1 : Int32))
def fX10_firstMove_25    : Nat → ms_T → ms_T → Int32 → Int32 → Int32 → Int32 → Option (Int32 × ms_T × ms_T)
  | 0, _, _, _, _, _, _ => none
  | n + 1, SW, ST, v2, v3, v4, v5 =>
    if (gi ST 4) ≤ v5 then
      some ((-1 : Int32), SW, ST)
    else
      if ((v4 >>> (v5 &&& 31)) &&& (1 : Int32)) = 0 then
        fX10_firstMove_52 (fX10_firstMove_25 n) SW ST v2 v3 v4 v5 (0 : Int32)
      else
        fX10_firstMove_52 (fX10_firstMove_25 n) SW ST v2 v3 v4 v5 (1 : Int32)
def fX10_firstMove  (SW : ms_T) (ST : ms_T) (a1 : Int32) (a2 : Int32) : Option (Int32 × ms_T × ms_T) :=
  (fX10_mostWorth SW ST a1 a2).bind fun z1 =>
  (fX7_sayable z1.2.2 a1).bind fun z2 =>
  fX10_firstMove_25 FU z1.2.1 z1.2.2 a2 z1.1 (z2 &&& (gi z1.2.1 1)) (0 : Int32)
abbrev rmX10_firstMove : Room := { frames := 8, cells := 0, slots := 0, locals := 189 }
theorem okX10_firstMove : tc_ok yX10_firstMove cX10_firstMove 7 (some .int) 2 := ⟨wc_X10_firstMove, wn_X10, by decide, by decide, by decide +kernel⟩
set_option maxRecDepth 20000 in
theorem tX10_firstMove_52 {qW : Nat → Nat} {qT : Nat → Nat}  (X : tc_X dC dI ca A RX10 cX10_firstMove 7 (some .int) p s m args meth c) (z : Int32 × ms_T × ms_T)   (k25 : ms_T → ms_T → Int32 → Int32 → Int32 → Int32 → Option (Int32 × ms_T × ms_T)) (hk25 : ∀ (SW : ms_T) (ST : ms_T) (v2 : Int32) (v3 : Int32) (v4 : Int32) (v5 : Int32), k25 SW ST v2 v3 v4 v5 = some z → ∀ (H : Heap) (locs : List Loc) (ls : Array Slot), va_P (dC, dI) classes (w10 ca qW (.ref (qT 0)) SW ++ w7 ca qT ST) H → va_D A (w10 ca qW (.ref (qT 0)) SW ++ w7 ca qT ST) → va_S A s.heap H locs → lv_has ls 7 [(0, .ref (qW 0)), (2, .int (v2)), (3, .int (v3)), (4, .int (v4)), (5, .int (v5))] → W p l e rmX10_firstMove s m args below meth c H locs 0 0 (MQ below (tc_QI dC dI ca A (w10 ca qW (.ref (qT 0)) z.2.1 ++ w7 ca qT z.2.2) (z.1)) args s 0 0 A) (F0 m 25 ls [])) : ∀ (SW : ms_T) (ST : ms_T) (v2 : Int32) (v3 : Int32) (v4 : Int32) (v5 : Int32) (t0 : Int32), fX10_firstMove_52 k25 SW ST v2 v3 v4 v5 t0 = some z → ∀ (H : Heap) (locs : List Loc) (ls : Array Slot), va_P (dC, dI) classes (w10 ca qW (.ref (qT 0)) SW ++ w7 ca qT ST) H → va_D A (w10 ca qW (.ref (qT 0)) SW ++ w7 ca qT ST) → va_S A s.heap H locs → lv_has ls 7 [(0, .ref (qW 0)), (2, .int (v2)), (3, .int (v3)), (4, .int (v4)), (5, .int (v5))] → W p l e rmX10_firstMove s m args below meth c H locs 0 0 (MQ below (tc_QI dC dI ca A (w10 ca qW (.ref (qT 0)) z.2.1 ++ w7 ca qT z.2.2) (z.1)) args s 0 0 A) (F0 m 52 ls [.int (t0)]) := by
  obtain ⟨hx, hb, hr, hml, hown, hts, hlk, hK, hA, hG⟩ := id X
  intro SW ST v2 v3 v4 v5 t0 hf H locs ls hP hD hS hl
  unfold fX10_firstMove_52 at hf
  refine lv_istore (lv' := [(6, .int (t0)), (0, .ref (qW 0)), (2, .int (v2)), (3, .int (v3)), (4, .int (v4)), (5, .int (v5))]) hx hb dX10_firstMove_52 hl (by decide) rfl (fun ls hl => ?_)
  refine lv_iload hx hb dX10_firstMove_54 (lv_at hl 0 rfl) ?_
  refine lv_if_eq (tgt := 82) hx hb dX10_firstMove_56 (by decide) (fun hc => ?_) (fun hc => ?_)
  · have hf := tc_pos hc hf
    refine lv_iinc (v := v5 + (1 : Int32)) (lv' := [(5, .int (v5 + (1 : Int32))), (6, .int (t0)), (0, .ref (qW 0)), (2, .int (v2)), (3, .int (v3)), (4, .int (v4))]) hx hb dX10_firstMove_82 hl (k := 5) rfl rfl (by decide) rfl (fun ls hl => ?_)
    refine lv_goto (tgt := 25) hx hb dX10_firstMove_85 (by decide) ?_
    exact hk25 SW ST v2 v3 v4 (v5 + (1 : Int32)) hf _ _ _ hP hD hS (lv_sub hl [2, 3, 4, 5, 0] rfl)
  · have hf := tc_neg hc hf
    refine lv_aload_n hx hb dX10_firstMove_59 rfl (lv_at hl 1 rfl) ?_
    refine lv_aload_n hx hb dX10_firstMove_60 rfl (lv_at hl 1 rfl) ?_
    refine va_get (D := (dC, dI)) (ci := 10) (v := .ref (qT 0)) (C := RX10) (T := TX10) (N := 4) hx hb hts i_X10 hown hK hP 0 rfl rfl 0 (by decide) (hts _ wf_X10_20) (fun _ h9 => h9) rfl dX10_firstMove_61 ?_
    refine lv_iload hx hb dX10_firstMove_64 (lv_at hl 5 rfl) ?_
    obtain ⟨z3, hg, hf⟩ := tc_bi hf
    refine tc_iV (As := [.int (v5)]) (rest := [.ref (qW 0)]) (b := qT 0) (wc := w7 ca qT ST) (wr := w10 ca qW (.ref (qT 0)) SW) X hP hD hS (mX7_heightOf hg) okX7_heightOf wl_X10_34 wi_X7_heightOf ws_X7_X7_heightOf_X7_heightOf ⟨rfl, rfl, Nat.le_of_ble_eq_true rfl, Nat.le_of_ble_eq_true rfl⟩ 7 0 rfl rfl [3, 4, 5, 6, 7, 8, 9, 10, 11, 12, 13] [0, 1, 2] ⟨rfl, rfl, rfl, rfl, by decide⟩ rfl hl.1 (Nat.le_of_ble_eq_true rfl) dX10_firstMove_66 (fun H locs hP hD hS => ?_)
    have hP := hP.sub (ws' := (w10 ca qW (.ref (qT 0)) SW ++ w7 ca qT ST)) [0, 1, 2, 3, 4, 5, 6, 7, 8, 9, 10, 11, 12, 13] rfl
    have hD := hD.sub (ws' := (w10 ca qW (.ref (qT 0)) SW ++ w7 ca qT ST)) [0, 1, 2, 3, 4, 5, 6, 7, 8, 9, 10, 11, 12, 13] rfl rfl
    refine lv_iload_n hx hb dX10_firstMove_69 rfl (lv_at hl 2 rfl) ?_
    refine lv_iconst (v := (1 : Int32)) hx hb dX10_firstMove_70 (by decide) ?_
    refine lv_isub hx hb dX10_firstMove_71 ?_
    obtain ⟨z4, hg, hf⟩ := tc_bi hf
    refine tc_iVs (As := [.int (z3), .int (v2 - (1 : Int32))]) (rest := []) (b := qW 0) X hP hD hS (mX10_mostWorthFrom 4 hg) okX10_mostWorthFrom wl_X10_76 wi_X10_mostWorthFrom ws_X10_X10_mostWorthFrom_X10_mostWorthFrom ⟨rfl, rfl, Nat.le_of_ble_eq_true rfl, Nat.le_of_ble_eq_true rfl⟩ 10 0 rfl rfl rfl hl.1 (Nat.le_of_ble_eq_true rfl) dX10_firstMove_72 (fun H locs hP hD hS => ?_)
    refine lv_iload_n hx hb dX10_firstMove_75 rfl (lv_at hl 3 rfl) ?_
    refine lv_icmp_ne (tgt := 82) hx hb dX10_firstMove_76 (by decide) (fun hc => ?_) (fun hc => ?_)
    · have hf := tc_neg hc hf
      refine lv_iinc (v := v5 + (1 : Int32)) (lv' := [(5, .int (v5 + (1 : Int32))), (6, .int (t0)), (0, .ref (qW 0)), (2, .int (v2)), (3, .int (v3)), (4, .int (v4))]) hx hb dX10_firstMove_82 hl (k := 5) rfl rfl (by decide) rfl (fun ls hl => ?_)
      refine lv_goto (tgt := 25) hx hb dX10_firstMove_85 (by decide) ?_
      exact hk25 z4.2.1 z4.2.2 v2 v3 v4 (v5 + (1 : Int32)) hf _ _ _ hP hD hS (lv_sub hl [2, 3, 4, 5, 0] rfl)
    · have hf := tc_pos hc hf
      refine lv_iload hx hb dX10_firstMove_79 (lv_at hl 5 rfl) ?_
      obtain rfl := Option.some.inj hf
      exact tc_ri X hP hD hS rfl dX10_firstMove_81 rfl rfl
set_option maxRecDepth 20000 in
theorem tX10_firstMove_25 {qW : Nat → Nat} {qT : Nat → Nat}  (X : tc_X dC dI ca A RX10 cX10_firstMove 7 (some .int) p s m args meth c) (z : Int32 × ms_T × ms_T)     : ∀ n : Nat, ∀ (SW : ms_T) (ST : ms_T) (v2 : Int32) (v3 : Int32) (v4 : Int32) (v5 : Int32), fX10_firstMove_25 n SW ST v2 v3 v4 v5 = some z → ∀ (H : Heap) (locs : List Loc) (ls : Array Slot), va_P (dC, dI) classes (w10 ca qW (.ref (qT 0)) SW ++ w7 ca qT ST) H → va_D A (w10 ca qW (.ref (qT 0)) SW ++ w7 ca qT ST) → va_S A s.heap H locs → lv_has ls 7 [(0, .ref (qW 0)), (2, .int (v2)), (3, .int (v3)), (4, .int (v4)), (5, .int (v5))] → W p l e rmX10_firstMove s m args below meth c H locs 0 0 (MQ below (tc_QI dC dI ca A (w10 ca qW (.ref (qT 0)) z.2.1 ++ w7 ca qT z.2.2) (z.1)) args s 0 0 A) (F0 m 25 ls []) := by
  obtain ⟨hx, hb, hr, hml, hown, hts, hlk, hK, hA, hG⟩ := id X
  intro n
  induction n with
  | zero => intro SW ST v2 v3 v4 v5 hf; exact absurd (show none = some z from hf) (fun h => by cases h)
  | succ n ih =>
    intro SW ST v2 v3 v4 v5 hf H locs ls hP hD hS hl
    rw [fX10_firstMove_25] at hf
    refine lv_iload hx hb dX10_firstMove_25 (lv_at hl 4 rfl) ?_
    refine lv_aload_n hx hb dX10_firstMove_27 rfl (lv_at hl 0 rfl) ?_
    refine va_get (D := (dC, dI)) (ci := 10) (v := .ref (qT 0)) (C := RX10) (T := TX10) (N := 4) hx hb hts i_X10 hown hK hP 0 rfl rfl 0 (by decide) (hts _ wf_X10_20) (fun _ h9 => h9) rfl dX10_firstMove_28 ?_
    refine va_get (D := (dC, dI)) (ci := 7) (v := .int (gi ST 4)) (C := RX7) (T := TX7) (N := 18) hx hb hts i_X7 hown hK hP 3 rfl rfl 4 (by decide) (hts _ wf_X10_31) (fun _ h9 => h9) rfl dX10_firstMove_31 ?_
    refine lv_icmp_ge (tgt := 88) hx hb dX10_firstMove_34 (by decide) (fun hc => ?_) (fun hc => ?_)
    · have hf := tc_pos hc hf
      refine lv_iconst (v := (-1 : Int32)) hx hb dX10_firstMove_88 (by decide) ?_
      obtain rfl := Option.some.inj hf
      exact tc_ri X hP hD hS rfl dX10_firstMove_89 rfl rfl
    · have hf := tc_neg hc hf
      refine lv_iload hx hb dX10_firstMove_37 (lv_at hl 3 rfl) ?_
      refine lv_iload hx hb dX10_firstMove_39 (lv_at hl 4 rfl) ?_
      refine lv_ishr hx hb dX10_firstMove_41 ?_
      refine lv_iconst (v := (1 : Int32)) hx hb dX10_firstMove_42 (by decide) ?_
      refine lv_iand hx hb dX10_firstMove_43 ?_
      refine lv_if_eq (tgt := 51) hx hb dX10_firstMove_44 (by decide) (fun hc => ?_) (fun hc => ?_)
      · have hf := tc_pos hc hf
        refine lv_iconst (v := (0 : Int32)) hx hb dX10_firstMove_51 (by decide) ?_
        exact tX10_firstMove_52 X z (fX10_firstMove_25 n) ih SW ST v2 v3 v4 v5 (0 : Int32) hf _ _ _ hP hD hS (lv_sub hl [0, 1, 2, 3, 4] rfl)
      · have hf := tc_neg hc hf
        refine lv_iconst (v := (1 : Int32)) hx hb dX10_firstMove_47 (by decide) ?_
        refine lv_goto (tgt := 52) hx hb dX10_firstMove_48 (by decide) ?_
        exact tX10_firstMove_52 X z (fX10_firstMove_25 n) ih SW ST v2 v3 v4 v5 (1 : Int32) hf _ _ _ hP hD hS (lv_sub hl [0, 1, 2, 3, 4] rfl)
set_option maxRecDepth 20000 in
theorem mX10_firstMove {qW : Nat → Nat} {qT : Nat → Nat}  {SW : ms_T} {ST : ms_T} {a1 : Int32} {a2 : Int32} {z : Int32 × ms_T × ms_T}  (hf : fX10_firstMove SW ST a1 a2 = some z) : tc_MI l dC dI ca yX10_firstMove cX10_firstMove 7 (some .int) rmX10_firstMove [.ref (qW 0), .int (a1), .int (a2)] (w10 ca qW (.ref (qT 0)) SW ++ w7 ca qT ST) (w10 ca qW (.ref (qT 0)) z.2.1 ++ w7 ca qT z.2.2) (z.1) := by
  refine tc_metI (own := RX10) (by decide) rfl ?_ (Nat.le_of_ble_eq_true rfl)
  intro p e s m below meth c A X hP hD hS ls hl
  obtain ⟨hx, hb, hr, hml, hown, hts, hlk, hK, hA, hG⟩ := id X
  unfold fX10_firstMove at hf
  have hl : lv_has ls 7 [(0, .ref (qW 0)), (1, .int (a1)), (2, .int (a2))] := hl
  refine lv_aload_n hx hb dX10_firstMove_0 rfl (lv_at hl 0 rfl) ?_
  refine lv_iload_n hx hb dX10_firstMove_1 rfl (lv_at hl 1 rfl) ?_
  refine lv_iload_n hx hb dX10_firstMove_2 rfl (lv_at hl 2 rfl) ?_
  obtain ⟨z1, hg, hf⟩ := tc_bi hf
  refine tc_iVs (As := [.int (a1), .int (a2)]) (rest := []) (b := qW 0) X hP hD hS (mX10_mostWorth hg) okX10_mostWorth wl_X10_82 wi_X10_mostWorth ws_X10_X10_mostWorth_X10_mostWorth ⟨rfl, rfl, Nat.le_of_ble_eq_true rfl, Nat.le_of_ble_eq_true rfl⟩ 10 0 rfl rfl rfl hl.1 (Nat.le_of_ble_eq_true rfl) dX10_firstMove_3 (fun H locs hP hD hS => ?_)
  refine lv_istore_n (lv' := [(3, .int (z1.1)), (0, .ref (qW 0)), (1, .int (a1)), (2, .int (a2))]) hx hb dX10_firstMove_6 rfl hl (by decide) rfl (fun ls hl => ?_)
  refine lv_aload_n hx hb dX10_firstMove_7 rfl (lv_at hl 1 rfl) ?_
  refine va_get (D := (dC, dI)) (ci := 10) (v := .ref (qT 0)) (C := RX10) (T := TX10) (N := 4) hx hb hts i_X10 hown hK hP 0 rfl rfl 0 (by decide) (hts _ wf_X10_20) (fun _ h9 => h9) rfl dX10_firstMove_8 ?_
  refine lv_iload_n hx hb dX10_firstMove_11 rfl (lv_at hl 2 rfl) ?_
  obtain ⟨z2, hg, hf⟩ := tc_bi hf
  refine tc_iV (As := [.int (a1)]) (rest := []) (b := qT 0) (wc := w7 ca qT z1.2.2) (wr := w10 ca qW (.ref (qT 0)) z1.2.1) X hP hD hS (mX7_sayable hg) okX7_sayable wl_X10_73 wi_X7_sayable ws_X7_X7_sayable_X7_sayable ⟨rfl, rfl, Nat.le_of_ble_eq_true rfl, Nat.le_of_ble_eq_true rfl⟩ 7 0 rfl rfl [3, 4, 5, 6, 7, 8, 9, 10, 11, 12, 13] [0, 1, 2] ⟨rfl, rfl, rfl, rfl, by decide⟩ rfl hl.1 (Nat.le_of_ble_eq_true rfl) dX10_firstMove_12 (fun H locs hP hD hS => ?_)
  have hP := hP.sub (ws' := (w10 ca qW (.ref (qT 0)) z1.2.1 ++ w7 ca qT z1.2.2)) [0, 1, 2, 3, 4, 5, 6, 7, 8, 9, 10, 11, 12, 13] rfl
  have hD := hD.sub (ws' := (w10 ca qW (.ref (qT 0)) z1.2.1 ++ w7 ca qT z1.2.2)) [0, 1, 2, 3, 4, 5, 6, 7, 8, 9, 10, 11, 12, 13] rfl rfl
  refine lv_aload_n hx hb dX10_firstMove_15 rfl (lv_at hl 1 rfl) ?_
  refine va_get (D := (dC, dI)) (ci := 10) (v := .int (gi z1.2.1 1)) (C := RX10) (T := TX10) (N := 4) hx hb hts i_X10 hown hK hP 0 rfl rfl 1 (by decide) (hts _ wf_X10_28) (fun _ h9 => h9) rfl dX10_firstMove_16 ?_
  refine lv_iand hx hb dX10_firstMove_19 ?_
  refine lv_istore (lv' := [(4, .int (z2 &&& (gi z1.2.1 1))), (3, .int (z1.1)), (0, .ref (qW 0)), (1, .int (a1)), (2, .int (a2))]) hx hb dX10_firstMove_20 hl (by decide) rfl (fun ls hl => ?_)
  refine lv_iconst (v := (0 : Int32)) hx hb dX10_firstMove_22 (by decide) ?_
  refine lv_istore (lv' := [(5, .int ((0 : Int32))), (4, .int (z2 &&& (gi z1.2.1 1))), (3, .int (z1.1)), (0, .ref (qW 0)), (1, .int (a1)), (2, .int (a2))]) hx hb dX10_firstMove_23 hl (by decide) rfl (fun ls hl => ?_)
  exact tX10_firstMove_25 X z FU z1.2.1 z1.2.2 a2 z1.1 (z2 &&& (gi z1.2.1 1)) (0 : Int32) hf _ _ _ hP hD hS (lv_sub hl [3, 5, 2, 1, 0] rfl)
def fX11_status  (S : ms_T)  : Option (Int32) :=
  some (gi S 0)
abbrev rmX11_status : Room := { frames := 0, cells := 0, slots := 0, locals := 0 }
theorem okX11_status : tc_ok yX11_status cX11_status 1 (some .int) 0 := ⟨wc_X11_status, wn_X11, by decide, by decide, by decide +kernel⟩
set_option maxRecDepth 20000 in
theorem mX11_status {q : Nat → Nat} {rC3 : Value} {rC4 : Value} {rC6 : Value} {rC7 : Value} {rC10 : Value} {rC11 : Value} {rC12 : Value} {rC14 : Value} {rC15 : Value} {rC17 : Value} {rC18 : Value} {rC19 : Value} {S : ms_T}  {z : Int32}  (hf : fX11_status S = some z) : tc_MI l dC dI ca yX11_status cX11_status 1 (some .int) rmX11_status [.ref (q 0)] (w11 ca q (rC3) (rC4) (rC6) (rC7) (rC10) (rC11) (rC12) (rC14) (rC15) (rC17) (rC18) (rC19) S) (w11 ca q (rC3) (rC4) (rC6) (rC7) (rC10) (rC11) (rC12) (rC14) (rC15) (rC17) (rC18) (rC19) S) (z) := by
  refine tc_metI (own := RX11) (by decide) rfl ?_ (Nat.le_of_ble_eq_true rfl)
  intro p e s m below meth c A X hP hD hS ls hl
  obtain ⟨hx, hb, hr, hml, hown, hts, hlk, hK, hA, hG⟩ := id X
  unfold fX11_status at hf
  have hl : lv_has ls 1 [(0, .ref (q 0))] := hl
  refine lv_aload_n hx hb dX11_status_0 rfl (lv_at hl 0 rfl) ?_
  refine va_get (D := (dC, dI)) (ci := 11) (v := .int (gi S 0)) (C := RX11) (T := TX11) (N := 20) hx hb hts i_X11 hown hK hP 0 rfl rfl 0 (by decide) (hts _ wf_X11_92) (fun _ h9 => h9) rfl dX11_status_1 ?_
  obtain rfl := Option.some.inj hf
  exact tc_ri X hP hD hS rfl dX11_status_4 rfl rfl
def fX11_top  (S : ms_T)  : Option (Int64) :=
  some (gl S 1)
abbrev rmX11_top : Room := { frames := 0, cells := 0, slots := 0, locals := 0 }
theorem okX11_top : tc_ok yX11_top cX11_top 1 (some .long) 0 := ⟨wc_X11_top, wn_X11, by decide, by decide, by decide +kernel⟩
set_option maxRecDepth 20000 in
theorem mX11_top {q : Nat → Nat} {rC3 : Value} {rC4 : Value} {rC6 : Value} {rC7 : Value} {rC10 : Value} {rC11 : Value} {rC12 : Value} {rC14 : Value} {rC15 : Value} {rC17 : Value} {rC18 : Value} {rC19 : Value} {S : ms_T}  {z : Int64}  (hf : fX11_top S = some z) : tc_ML l dC dI ca yX11_top cX11_top 1 (some .long) rmX11_top [.ref (q 0)] (w11 ca q (rC3) (rC4) (rC6) (rC7) (rC10) (rC11) (rC12) (rC14) (rC15) (rC17) (rC18) (rC19) S) (w11 ca q (rC3) (rC4) (rC6) (rC7) (rC10) (rC11) (rC12) (rC14) (rC15) (rC17) (rC18) (rC19) S) (z) := by
  refine tc_metL (own := RX11) (by decide) rfl ?_ (Nat.le_of_ble_eq_true rfl)
  intro p e s m below meth c A X hP hD hS ls hl
  obtain ⟨hx, hb, hr, hml, hown, hts, hlk, hK, hA, hG⟩ := id X
  unfold fX11_top at hf
  have hl : lv_has ls 1 [(0, .ref (q 0))] := hl
  refine lv_aload_n hx hb dX11_top_0 rfl (lv_at hl 0 rfl) ?_
  refine va_get (D := (dC, dI)) (ci := 11) (v := .long (gl S 1)) (C := RX11) (T := TX11) (N := 20) hx hb hts i_X11 hown hK hP 0 rfl rfl 1 (by decide) (hts _ wf_X11_95) (fun _ h9 => h9) rfl dX11_top_1 ?_
  obtain rfl := Option.some.inj hf
  exact tc_rl X hP hD hS rfl dX11_top_4 rfl rfl
def fX11_bottom  (S : ms_T)  : Option (Int64) :=
  some (gl S 2)
abbrev rmX11_bottom : Room := { frames := 0, cells := 0, slots := 0, locals := 0 }
theorem okX11_bottom : tc_ok yX11_bottom cX11_bottom 1 (some .long) 0 := ⟨wc_X11_bottom, wn_X11, by decide, by decide, by decide +kernel⟩
set_option maxRecDepth 20000 in
theorem mX11_bottom {q : Nat → Nat} {rC3 : Value} {rC4 : Value} {rC6 : Value} {rC7 : Value} {rC10 : Value} {rC11 : Value} {rC12 : Value} {rC14 : Value} {rC15 : Value} {rC17 : Value} {rC18 : Value} {rC19 : Value} {S : ms_T}  {z : Int64}  (hf : fX11_bottom S = some z) : tc_ML l dC dI ca yX11_bottom cX11_bottom 1 (some .long) rmX11_bottom [.ref (q 0)] (w11 ca q (rC3) (rC4) (rC6) (rC7) (rC10) (rC11) (rC12) (rC14) (rC15) (rC17) (rC18) (rC19) S) (w11 ca q (rC3) (rC4) (rC6) (rC7) (rC10) (rC11) (rC12) (rC14) (rC15) (rC17) (rC18) (rC19) S) (z) := by
  refine tc_metL (own := RX11) (by decide) rfl ?_ (Nat.le_of_ble_eq_true rfl)
  intro p e s m below meth c A X hP hD hS ls hl
  obtain ⟨hx, hb, hr, hml, hown, hts, hlk, hK, hA, hG⟩ := id X
  unfold fX11_bottom at hf
  have hl : lv_has ls 1 [(0, .ref (q 0))] := hl
  refine lv_aload_n hx hb dX11_bottom_0 rfl (lv_at hl 0 rfl) ?_
  refine va_get (D := (dC, dI)) (ci := 11) (v := .long (gl S 2)) (C := RX11) (T := TX11) (N := 20) hx hb hts i_X11 hown hK hP 0 rfl rfl 2 (by decide) (hts _ wf_X11_81) (fun _ h9 => h9) rfl dX11_bottom_1 ?_
  obtain rfl := Option.some.inj hf
  exact tc_rl X hP hD hS rfl dX11_bottom_4 rfl rfl
def fX11_isTray   (a0 : Int32) : Option (Int32) :=
  if a0 < 0 then
    some ((0 : Int32))
  else
    if (4 : Int32) ≤ a0 then
      some ((0 : Int32))
    else
      some ((1 : Int32))
abbrev rmX11_isTray : Room := { frames := 0, cells := 0, slots := 0, locals := 0 }
theorem okX11_isTray : tc_ok yX11_isTray cX11_isTray 1 (some .boolean) 1 := ⟨wc_X11_isTray, wn_X11, by decide, by decide, by decide +kernel⟩
set_option maxRecDepth 20000 in
theorem mX11_isTray    {a0 : Int32} {z : Int32}  (hf : fX11_isTray a0 = some z) : tc_MI l dC dI ca yX11_isTray cX11_isTray 1 (some .boolean) rmX11_isTray [.int (a0)] [] [] (z) := by
  refine tc_metI (own := RX11) (by decide) rfl ?_ (Nat.le_of_ble_eq_true rfl)
  intro p e s m below meth c A X hP hD hS ls hl
  obtain ⟨hx, hb, hr, hml, hown, hts, hlk, hK, hA, hG⟩ := id X
  unfold fX11_isTray at hf
  have hl : lv_has ls 1 [(0, .int (a0))] := hl
  refine lv_iload_n hx hb dX11_isTray_0 rfl (lv_at hl 0 rfl) ?_
  refine lv_if_lt (tgt := 13) hx hb dX11_isTray_1 (by decide) (fun hc => ?_) (fun hc => ?_)
  · have hf := tc_pos hc hf
    refine lv_iconst (v := (0 : Int32)) hx hb dX11_isTray_13 (by decide) ?_
    obtain rfl := Option.some.inj hf
    exact tc_rz X hP hD hS rfl dX11_isTray_14 (by decide) rfl rfl
  · have hf := tc_neg hc hf
    refine lv_iload_n hx hb dX11_isTray_4 rfl (lv_at hl 0 rfl) ?_
    refine lv_iconst (v := (4 : Int32)) hx hb dX11_isTray_5 (by decide) ?_
    refine lv_icmp_ge (tgt := 13) hx hb dX11_isTray_6 (by decide) (fun hc => ?_) (fun hc => ?_)
    · have hf := tc_pos hc hf
      refine lv_iconst (v := (0 : Int32)) hx hb dX11_isTray_13 (by decide) ?_
      obtain rfl := Option.some.inj hf
      exact tc_rz X hP hD hS rfl dX11_isTray_14 (by decide) rfl rfl
    · have hf := tc_neg hc hf
      refine lv_iconst (v := (1 : Int32)) hx hb dX11_isTray_9 (by decide) ?_
      refine lv_goto (tgt := 14) hx hb dX11_isTray_10 (by decide) ?_
      obtain rfl := Option.some.inj hf
      exact tc_rz X hP hD hS rfl dX11_isTray_14 (by decide) rfl rfl
theorem pw11_0_0 (ca : Nat → ClassId) (q0 : Nat → Nat) (r0_3 r0_4 r0_6 r0_7 r0_10 r0_11 r0_12 r0_14 r0_15 r0_17 r0_18 r0_19 : Value) (S0 : ms_T) (v : Int32) : (w11 ca q0 r0_3 r0_4 r0_6 r0_7 r0_10 r0_11 r0_12 r0_14 r0_15 r0_17 r0_18 r0_19 S0 : va_W).set 0 (q0 0, .inr (11, List.set (.int (gi S0 0) :: .long (gl S0 1) :: .long (gl S0 2) :: r0_3 :: r0_4 :: .int (gi S0 5) :: r0_6 :: r0_7 :: .int (gi S0 8) :: .int (gi S0 9) :: r0_10 :: r0_11 :: r0_12 :: .int (gi S0 13) :: r0_14 :: r0_15 :: .int (gi S0 16) :: r0_17 :: r0_18 :: r0_19 :: []) 0 (.int v))) = w11 ca q0 r0_3 r0_4 r0_6 r0_7 r0_10 r0_11 r0_12 r0_14 r0_15 r0_17 r0_18 r0_19 (si S0 0 v) := rfl
def fX11_deny  (S : ms_T) (a1 : Int32) : Option (Int32 × ms_T) :=
  some ((0 : Int32), si S 0 a1)
abbrev rmX11_deny : Room := { frames := 0, cells := 0, slots := 0, locals := 0 }
theorem okX11_deny : tc_ok yX11_deny cX11_deny 2 (some .boolean) 1 := ⟨wc_X11_deny, wn_X11, by decide, by decide, by decide +kernel⟩
set_option maxRecDepth 20000 in
theorem mX11_deny {q : Nat → Nat} {rC3 : Value} {rC4 : Value} {rC6 : Value} {rC7 : Value} {rC10 : Value} {rC11 : Value} {rC12 : Value} {rC14 : Value} {rC15 : Value} {rC17 : Value} {rC18 : Value} {rC19 : Value} {S : ms_T} {a1 : Int32} {z : Int32 × ms_T}  (hf : fX11_deny S a1 = some z) : tc_MI l dC dI ca yX11_deny cX11_deny 2 (some .boolean) rmX11_deny [.ref (q 0), .int (a1)] (w11 ca q (rC3) (rC4) (rC6) (rC7) (rC10) (rC11) (rC12) (rC14) (rC15) (rC17) (rC18) (rC19) S) (w11 ca q (rC3) (rC4) (rC6) (rC7) (rC10) (rC11) (rC12) (rC14) (rC15) (rC17) (rC18) (rC19) z.2) (z.1) := by
  refine tc_metI (own := RX11) (by decide) rfl ?_ (Nat.le_of_ble_eq_true rfl)
  intro p e s m below meth c A X hP hD hS ls hl
  obtain ⟨hx, hb, hr, hml, hown, hts, hlk, hK, hA, hG⟩ := id X
  unfold fX11_deny at hf
  have hl : lv_has ls 2 [(0, .ref (q 0)), (1, .int (a1))] := hl
  refine lv_aload_n hx hb dX11_deny_0 rfl (lv_at hl 0 rfl) ?_
  refine lv_iload_n hx hb dX11_deny_1 rfl (lv_at hl 1 rfl) ?_
  refine va_put (D := (dC, dI)) (ci := 11) (v := .int (a1)) (ty := .int) (C := RX11) (T := TX11) (N := 20) hx hb hts i_X11 tyX11 tyX11_ok nmX11 hown hK hP hD hS 0 rfl rfl 0 (by decide) (hts _ wf_X11_92) (fun _ h9 => h9) rfl (tyX11_ok 0 (by decide)) rfl rfl (Nat.le_of_ble_eq_true rfl) dX11_deny_2 (fun H locs hP hD hS => ?_)
  have hP := tc_eP (pw11_0_0 ca q (rC3) (rC4) (rC6) (rC7) (rC10) (rC11) (rC12) (rC14) (rC15) (rC17) (rC18) (rC19) S a1) hP
  have hD := tc_eD (pw11_0_0 ca q (rC3) (rC4) (rC6) (rC7) (rC10) (rC11) (rC12) (rC14) (rC15) (rC17) (rC18) (rC19) S a1) hD
  refine lv_iconst (v := (0 : Int32)) hx hb dX11_deny_5 (by decide) ?_
  obtain rfl := Option.some.inj hf
  exact tc_rz X hP hD hS rfl dX11_deny_6 (by decide) rfl rfl
def fX11_grant  (S : ms_T)  : Option (Int32 × ms_T) :=
  some ((1 : Int32), si S 0 (0 : Int32))
abbrev rmX11_grant : Room := { frames := 0, cells := 0, slots := 0, locals := 0 }
theorem okX11_grant : tc_ok yX11_grant cX11_grant 1 (some .boolean) 0 := ⟨wc_X11_grant, wn_X11, by decide, by decide, by decide +kernel⟩
set_option maxRecDepth 20000 in
theorem mX11_grant {q : Nat → Nat} {rC3 : Value} {rC4 : Value} {rC6 : Value} {rC7 : Value} {rC10 : Value} {rC11 : Value} {rC12 : Value} {rC14 : Value} {rC15 : Value} {rC17 : Value} {rC18 : Value} {rC19 : Value} {S : ms_T}  {z : Int32 × ms_T}  (hf : fX11_grant S = some z) : tc_MI l dC dI ca yX11_grant cX11_grant 1 (some .boolean) rmX11_grant [.ref (q 0)] (w11 ca q (rC3) (rC4) (rC6) (rC7) (rC10) (rC11) (rC12) (rC14) (rC15) (rC17) (rC18) (rC19) S) (w11 ca q (rC3) (rC4) (rC6) (rC7) (rC10) (rC11) (rC12) (rC14) (rC15) (rC17) (rC18) (rC19) z.2) (z.1) := by
  refine tc_metI (own := RX11) (by decide) rfl ?_ (Nat.le_of_ble_eq_true rfl)
  intro p e s m below meth c A X hP hD hS ls hl
  obtain ⟨hx, hb, hr, hml, hown, hts, hlk, hK, hA, hG⟩ := id X
  unfold fX11_grant at hf
  have hl : lv_has ls 1 [(0, .ref (q 0))] := hl
  refine lv_aload_n hx hb dX11_grant_0 rfl (lv_at hl 0 rfl) ?_
  refine lv_iconst (v := (0 : Int32)) hx hb dX11_grant_1 (by decide) ?_
  refine va_put (D := (dC, dI)) (ci := 11) (v := .int ((0 : Int32))) (ty := .int) (C := RX11) (T := TX11) (N := 20) hx hb hts i_X11 tyX11 tyX11_ok nmX11 hown hK hP hD hS 0 rfl rfl 0 (by decide) (hts _ wf_X11_92) (fun _ h9 => h9) rfl (tyX11_ok 0 (by decide)) rfl rfl (Nat.le_of_ble_eq_true rfl) dX11_grant_2 (fun H locs hP hD hS => ?_)
  have hP := tc_eP (pw11_0_0 ca q (rC3) (rC4) (rC6) (rC7) (rC10) (rC11) (rC12) (rC14) (rC15) (rC17) (rC18) (rC19) S (0 : Int32)) hP
  have hD := tc_eD (pw11_0_0 ca q (rC3) (rC4) (rC6) (rC7) (rC10) (rC11) (rC12) (rC14) (rC15) (rC17) (rC18) (rC19) S (0 : Int32)) hD
  refine lv_iconst (v := (1 : Int32)) hx hb dX11_grant_5 (by decide) ?_
  obtain rfl := Option.some.inj hf
  exact tc_rz X hP hD hS rfl dX11_grant_6 (by decide) rfl rfl
def fX11_tray_16    (SC : ms_T) (SY0 : ms_T) (SY1 : ms_T) (SY2 : ms_T) (SY3 : ms_T) : Option (Int32 × ms_T × ms_T × ms_T × ms_T × ms_T) :=
  (fX11_deny SC (1 : Int32)).bind fun z2 =>
  if z2.1 &&& 1 = z2.1 then
    some (z2.1, z2.2, SY0, SY1, SY2, SY3)
  else none
def fX11_tray  (SC : ms_T) (SY0 : ms_T) (SY1 : ms_T) (SY2 : ms_T) (SY3 : ms_T) (a1 : Int32) (a2 : Int32) (a3 : Int32) : Option (Int32 × ms_T × ms_T × ms_T × ms_T × ms_T) :=
  (fX11_isTray a1).bind fun z1 =>
  if z1 = 0 then
    fX11_tray_16 SC SY0 SY1 SY2 SY3
  else
    if a2 < 0 then
      fX11_tray_16 SC SY0 SY1 SY2 SY3
    else
      if a2 ≤ (3 : Int32) then
        if a3 ≤ (60 : Int32) then
          if 0 ≤ a3 then
            if a1 = (0 : Int32) then
              (fX9_begin SY0 a2 a3).bind fun z4 =>
              (fX11_grant SC).bind fun z5 =>
              if z5.1 &&& 1 = z5.1 then
                some (z5.1, z5.2, z4, SY1, SY2, SY3)
              else none
            else
              if a1 = (1 : Int32) then
                (fX9_begin SY1 a2 a3).bind fun z6 =>
                (fX11_grant SC).bind fun z7 =>
                if z7.1 &&& 1 = z7.1 then
                  some (z7.1, z7.2, SY0, z6, SY2, SY3)
                else none
              else
                if a1 = (2 : Int32) then
                  (fX9_begin SY2 a2 a3).bind fun z8 =>
                  (fX11_grant SC).bind fun z9 =>
                  if z9.1 &&& 1 = z9.1 then
                    some (z9.1, z9.2, SY0, SY1, z8, SY3)
                  else none
                else
                  if a1 = (3 : Int32) then
                    (fX9_begin SY3 a2 a3).bind fun z10 =>
                    (fX11_grant SC).bind fun z11 =>
                    if z11.1 &&& 1 = z11.1 then
                      some (z11.1, z11.2, SY0, SY1, SY2, z10)
                    else none
                  else
                    none
          else
            (fX11_deny SC (6 : Int32)).bind fun z12 =>
            if z12.1 &&& 1 = z12.1 then
              some (z12.1, z12.2, SY0, SY1, SY2, SY3)
            else none
        else
          (fX11_deny SC (5 : Int32)).bind fun z13 =>
          if z13.1 &&& 1 = z13.1 then
            some (z13.1, z13.2, SY0, SY1, SY2, SY3)
          else none
      else
        fX11_tray_16 SC SY0 SY1 SY2 SY3
abbrev rmX11_tray : Room := { frames := 1, cells := 0, slots := 0, locals := 23 }
theorem okX11_tray : tc_ok yX11_tray cX11_tray 4 (some .boolean) 3 := ⟨wc_X11_tray, wn_X11, by decide, by decide, by decide +kernel⟩
set_option maxRecDepth 20000 in
theorem tX11_tray_16 {qC : Nat → Nat} {qA : Nat → Nat} {qY0 : Nat → Nat} {qY1 : Nat → Nat} {qY2 : Nat → Nat} {qY3 : Nat → Nat} {rC4 : Value} {rC6 : Value} {rC7 : Value} {rC10 : Value} {rC11 : Value} {rC12 : Value} {rC14 : Value} {rC15 : Value} {rC17 : Value} {rC18 : Value} {rC19 : Value} (X : tc_X dC dI ca A RX11 cX11_tray 4 (some .boolean) p s m args meth c) (z : Int32 × ms_T × ms_T × ms_T × ms_T × ms_T)     : ∀ (SC : ms_T) (SY0 : ms_T) (SY1 : ms_T) (SY2 : ms_T) (SY3 : ms_T), fX11_tray_16 SC SY0 SY1 SY2 SY3 = some z → ∀ (H : Heap) (locs : List Loc) (ls : Array Slot), va_P (dC, dI) classes (w11 ca qC (.ref (qA 0)) (rC4) (rC6) (rC7) (rC10) (rC11) (rC12) (rC14) (rC15) (rC17) (rC18) (rC19) SC ++ wLT ca qA (rf4 (qY0 0) (qY1 0) (qY2 0) (qY3 0)) ++ w9 ca qY0 SY0 ++ w9 ca qY1 SY1 ++ w9 ca qY2 SY2 ++ w9 ca qY3 SY3) H → va_D A (w11 ca qC (.ref (qA 0)) (rC4) (rC6) (rC7) (rC10) (rC11) (rC12) (rC14) (rC15) (rC17) (rC18) (rC19) SC ++ wLT ca qA (rf4 (qY0 0) (qY1 0) (qY2 0) (qY3 0)) ++ w9 ca qY0 SY0 ++ w9 ca qY1 SY1 ++ w9 ca qY2 SY2 ++ w9 ca qY3 SY3) → va_S A s.heap H locs → lv_has ls 4 [(0, .ref (qC 0))] → W p l e rmX11_tray s m args below meth c H locs 0 0 (MQ below (tc_QI dC dI ca A (w11 ca qC (.ref (qA 0)) (rC4) (rC6) (rC7) (rC10) (rC11) (rC12) (rC14) (rC15) (rC17) (rC18) (rC19) z.2.1 ++ wLT ca qA (rf4 (qY0 0) (qY1 0) (qY2 0) (qY3 0)) ++ w9 ca qY0 z.2.2.1 ++ w9 ca qY1 z.2.2.2.1 ++ w9 ca qY2 z.2.2.2.2.1 ++ w9 ca qY3 z.2.2.2.2.2) (z.1)) args s 0 0 A) (F0 m 16 ls []) := by
  obtain ⟨hx, hb, hr, hml, hown, hts, hlk, hK, hA, hG⟩ := id X
  intro SC SY0 SY1 SY2 SY3 hf H locs ls hP hD hS hl
  unfold fX11_tray_16 at hf
  refine lv_aload_n hx hb dX11_tray_16 rfl (lv_at hl 0 rfl) ?_
  refine lv_iconst (v := (1 : Int32)) hx hb dX11_tray_17 (by decide) ?_
  obtain ⟨z2, hg, hf⟩ := tc_bi hf
  refine tc_iV (As := [.int ((1 : Int32))]) (rest := []) (b := qC 0) (wc := w11 ca qC (.ref (qA 0)) (rC4) (rC6) (rC7) (rC10) (rC11) (rC12) (rC14) (rC15) (rC17) (rC18) (rC19) SC) (wr := wLT ca qA (rf4 (qY0 0) (qY1 0) (qY2 0) (qY3 0)) ++ w9 ca qY0 SY0 ++ w9 ca qY1 SY1 ++ w9 ca qY2 SY2 ++ w9 ca qY3 SY3) X hP hD hS (mX11_deny hg) okX11_deny wl_X11_102 wi_X11_deny ws_X11_X11_deny_X11_deny ⟨rfl, rfl, Nat.le_of_ble_eq_true rfl, Nat.le_of_ble_eq_true rfl⟩ 11 0 rfl rfl [0] [1, 2, 3, 4, 5, 6, 7, 8, 9] ⟨rfl, rfl, rfl, rfl, by decide⟩ rfl hl.1 (Nat.le_of_ble_eq_true rfl) dX11_tray_18 (fun H locs hP hD hS => ?_)
  have hP := hP.sub (ws' := (w11 ca qC (.ref (qA 0)) (rC4) (rC6) (rC7) (rC10) (rC11) (rC12) (rC14) (rC15) (rC17) (rC18) (rC19) z2.2 ++ wLT ca qA (rf4 (qY0 0) (qY1 0) (qY2 0) (qY3 0)) ++ w9 ca qY0 SY0 ++ w9 ca qY1 SY1 ++ w9 ca qY2 SY2 ++ w9 ca qY3 SY3)) [9, 0, 1, 2, 3, 4, 5, 6, 7, 8] rfl
  have hD := hD.sub (ws' := (w11 ca qC (.ref (qA 0)) (rC4) (rC6) (rC7) (rC10) (rC11) (rC12) (rC14) (rC15) (rC17) (rC18) (rC19) z2.2 ++ wLT ca qA (rf4 (qY0 0) (qY1 0) (qY2 0) (qY3 0)) ++ w9 ca qY0 SY0 ++ w9 ca qY1 SY1 ++ w9 ca qY2 SY2 ++ w9 ca qY3 SY3)) [9, 0, 1, 2, 3, 4, 5, 6, 7, 8] rfl rfl
  obtain ⟨hz1, hf⟩ := tc_ck hf
  obtain rfl := Option.some.inj hf
  exact tc_rz X hP hD hS rfl dX11_tray_21 hz1 rfl rfl
set_option maxRecDepth 20000 in
theorem mX11_tray {qC : Nat → Nat} {qA : Nat → Nat} {qY0 : Nat → Nat} {qY1 : Nat → Nat} {qY2 : Nat → Nat} {qY3 : Nat → Nat} {rC4 : Value} {rC6 : Value} {rC7 : Value} {rC10 : Value} {rC11 : Value} {rC12 : Value} {rC14 : Value} {rC15 : Value} {rC17 : Value} {rC18 : Value} {rC19 : Value} {SC : ms_T} {SY0 : ms_T} {SY1 : ms_T} {SY2 : ms_T} {SY3 : ms_T} {a1 : Int32} {a2 : Int32} {a3 : Int32} {z : Int32 × ms_T × ms_T × ms_T × ms_T × ms_T}  (hf : fX11_tray SC SY0 SY1 SY2 SY3 a1 a2 a3 = some z) : tc_MI l dC dI ca yX11_tray cX11_tray 4 (some .boolean) rmX11_tray [.ref (qC 0), .int (a1), .int (a2), .int (a3)] (w11 ca qC (.ref (qA 0)) (rC4) (rC6) (rC7) (rC10) (rC11) (rC12) (rC14) (rC15) (rC17) (rC18) (rC19) SC ++ wLT ca qA (rf4 (qY0 0) (qY1 0) (qY2 0) (qY3 0)) ++ w9 ca qY0 SY0 ++ w9 ca qY1 SY1 ++ w9 ca qY2 SY2 ++ w9 ca qY3 SY3) (w11 ca qC (.ref (qA 0)) (rC4) (rC6) (rC7) (rC10) (rC11) (rC12) (rC14) (rC15) (rC17) (rC18) (rC19) z.2.1 ++ wLT ca qA (rf4 (qY0 0) (qY1 0) (qY2 0) (qY3 0)) ++ w9 ca qY0 z.2.2.1 ++ w9 ca qY1 z.2.2.2.1 ++ w9 ca qY2 z.2.2.2.2.1 ++ w9 ca qY3 z.2.2.2.2.2) (z.1) := by
  refine tc_metI (own := RX11) (by decide) rfl ?_ (Nat.le_of_ble_eq_true rfl)
  intro p e s m below meth c A X hP hD hS ls hl
  obtain ⟨hx, hb, hr, hml, hown, hts, hlk, hK, hA, hG⟩ := id X
  unfold fX11_tray at hf
  have hl : lv_has ls 4 [(0, .ref (qC 0)), (1, .int (a1)), (2, .int (a2)), (3, .int (a3))] := hl
  refine lv_iload_n hx hb dX11_tray_0 rfl (lv_at hl 1 rfl) ?_
  obtain ⟨z1, hg, hf⟩ := tc_bi hf
  refine tc_iS0 (As := [.int (a1)]) (rest := []) X hP hD hS (mX11_isTray hg) okX11_isTray wl_X11_98 wt_X11_isTray ⟨rfl, rfl, Nat.le_of_ble_eq_true rfl, Nat.le_of_ble_eq_true rfl⟩ rfl hl.1 (Nat.le_of_ble_eq_true rfl) dX11_tray_1 (fun H locs hP hD hS => ?_)
  refine lv_if_eq (tgt := 16) hx hb dX11_tray_4 (by decide) (fun hc => ?_) (fun hc => ?_)
  · have hf := tc_pos hc hf
    exact tX11_tray_16 X z SC SY0 SY1 SY2 SY3 hf _ _ _ hP hD hS (lv_sub hl [0] rfl)
  · have hf := tc_neg hc hf
    refine lv_iload_n hx hb dX11_tray_7 rfl (lv_at hl 2 rfl) ?_
    refine lv_if_lt (tgt := 16) hx hb dX11_tray_8 (by decide) (fun hc => ?_) (fun hc => ?_)
    · have hf := tc_pos hc hf
      exact tX11_tray_16 X z SC SY0 SY1 SY2 SY3 hf _ _ _ hP hD hS (lv_sub hl [0] rfl)
    · have hf := tc_neg hc hf
      refine lv_iload_n hx hb dX11_tray_11 rfl (lv_at hl 2 rfl) ?_
      refine lv_iconst (v := (3 : Int32)) hx hb dX11_tray_12 (by decide) ?_
      refine lv_icmp_le (tgt := 22) hx hb dX11_tray_13 (by decide) (fun hc => ?_) (fun hc => ?_)
      · have hf := tc_pos hc hf
        refine lv_iload_n hx hb dX11_tray_22 rfl (lv_at hl 3 rfl) ?_
        refine lv_bipush (v := (60 : Int32)) hx hb dX11_tray_23 (by decide) ?_
        refine lv_icmp_le (tgt := 34) hx hb dX11_tray_25 (by decide) (fun hc => ?_) (fun hc => ?_)
        · have hf := tc_pos hc hf
          refine lv_iload_n hx hb dX11_tray_34 rfl (lv_at hl 3 rfl) ?_
          refine lv_if_ge (tgt := 45) hx hb dX11_tray_35 (by decide) (fun hc => ?_) (fun hc => ?_)
          · have hf := tc_pos hc hf
            refine lv_aload_n hx hb dX11_tray_45 rfl (lv_at hl 0 rfl) ?_
            refine va_get (D := (dC, dI)) (ci := 11) (v := .ref (qA 0)) (C := RX11) (T := TX11) (N := 20) hx hb hts i_X11 hown hK hP 0 rfl rfl 3 (by decide) (hts _ wf_X11_11) (fun _ h9 => h9) rfl dX11_tray_46 ?_
            refine lv_iload_n hx hb dX11_tray_49 rfl (lv_at hl 1 rfl) ?_
            by_cases hq3_0 : a1 = (0 : Int32)
            · have hf := tc_pos hq3_0 hf
              refine tc_ald (b := qY0 0) X hP 1 4 rfl rfl 0 (by rw [hq3_0]; decide) (by rw [hq3_0]; exact inb_vp (by decide)) rfl dX11_tray_50 ?_
              refine lv_iload_n hx hb dX11_tray_51 rfl (lv_at hl 2 rfl) ?_
              refine lv_iload_n hx hb dX11_tray_52 rfl (lv_at hl 3 rfl) ?_
              obtain ⟨z4, hg, hf⟩ := tc_bi hf
              refine tc_vV (As := [.int (a2), .int (a3)]) (rest := []) (b := qY0 0) (wc := w9 ca qY0 SY0) (wr := w11 ca qC (.ref (qA 0)) (rC4) (rC6) (rC7) (rC10) (rC11) (rC12) (rC14) (rC15) (rC17) (rC18) (rC19) SC ++ wLT ca qA (rf4 (qY0 0) (qY1 0) (qY2 0) (qY3 0)) ++ w9 ca qY1 SY1 ++ w9 ca qY2 SY2 ++ w9 ca qY3 SY3) X hP hD hS (mX9_begin hg) okX9_begin wl_X11_105 wi_X9_begin ws_X9_X9_begin_X9_begin ⟨rfl, rfl, Nat.le_of_ble_eq_true rfl, Nat.le_of_ble_eq_true rfl⟩ 9 0 rfl rfl [2, 3] [0, 1, 4, 5, 6, 7, 8, 9] ⟨rfl, rfl, rfl, rfl, by decide⟩ rfl hl.1 (Nat.le_of_ble_eq_true rfl) dX11_tray_53 (fun H locs hP hD hS => ?_)
              have hP := hP.sub (ws' := (w11 ca qC (.ref (qA 0)) (rC4) (rC6) (rC7) (rC10) (rC11) (rC12) (rC14) (rC15) (rC17) (rC18) (rC19) SC ++ wLT ca qA (rf4 (qY0 0) (qY1 0) (qY2 0) (qY3 0)) ++ w9 ca qY0 z4 ++ w9 ca qY1 SY1 ++ w9 ca qY2 SY2 ++ w9 ca qY3 SY3)) [0, 1, 8, 9, 2, 3, 4, 5, 6, 7] rfl
              have hD := hD.sub (ws' := (w11 ca qC (.ref (qA 0)) (rC4) (rC6) (rC7) (rC10) (rC11) (rC12) (rC14) (rC15) (rC17) (rC18) (rC19) SC ++ wLT ca qA (rf4 (qY0 0) (qY1 0) (qY2 0) (qY3 0)) ++ w9 ca qY0 z4 ++ w9 ca qY1 SY1 ++ w9 ca qY2 SY2 ++ w9 ca qY3 SY3)) [0, 1, 8, 9, 2, 3, 4, 5, 6, 7] rfl rfl
              refine lv_aload_n hx hb dX11_tray_56 rfl (lv_at hl 0 rfl) ?_
              obtain ⟨z5, hg, hf⟩ := tc_bi hf
              refine tc_iV (As := []) (rest := []) (b := qC 0) (wc := w11 ca qC (.ref (qA 0)) (rC4) (rC6) (rC7) (rC10) (rC11) (rC12) (rC14) (rC15) (rC17) (rC18) (rC19) SC) (wr := wLT ca qA (rf4 (qY0 0) (qY1 0) (qY2 0) (qY3 0)) ++ w9 ca qY0 z4 ++ w9 ca qY1 SY1 ++ w9 ca qY2 SY2 ++ w9 ca qY3 SY3) X hP hD hS (mX11_grant hg) okX11_grant wl_X11_109 wi_X11_grant ws_X11_X11_grant_X11_grant ⟨rfl, rfl, Nat.le_of_ble_eq_true rfl, Nat.le_of_ble_eq_true rfl⟩ 11 0 rfl rfl [0] [1, 2, 3, 4, 5, 6, 7, 8, 9] ⟨rfl, rfl, rfl, rfl, by decide⟩ rfl hl.1 (Nat.le_of_ble_eq_true rfl) dX11_tray_57 (fun H locs hP hD hS => ?_)
              have hP := hP.sub (ws' := (w11 ca qC (.ref (qA 0)) (rC4) (rC6) (rC7) (rC10) (rC11) (rC12) (rC14) (rC15) (rC17) (rC18) (rC19) z5.2 ++ wLT ca qA (rf4 (qY0 0) (qY1 0) (qY2 0) (qY3 0)) ++ w9 ca qY0 z4 ++ w9 ca qY1 SY1 ++ w9 ca qY2 SY2 ++ w9 ca qY3 SY3)) [9, 0, 1, 2, 3, 4, 5, 6, 7, 8] rfl
              have hD := hD.sub (ws' := (w11 ca qC (.ref (qA 0)) (rC4) (rC6) (rC7) (rC10) (rC11) (rC12) (rC14) (rC15) (rC17) (rC18) (rC19) z5.2 ++ wLT ca qA (rf4 (qY0 0) (qY1 0) (qY2 0) (qY3 0)) ++ w9 ca qY0 z4 ++ w9 ca qY1 SY1 ++ w9 ca qY2 SY2 ++ w9 ca qY3 SY3)) [9, 0, 1, 2, 3, 4, 5, 6, 7, 8] rfl rfl
              obtain ⟨hz1, hf⟩ := tc_ck hf
              obtain rfl := Option.some.inj hf
              exact tc_rz X hP hD hS rfl dX11_tray_60 hz1 rfl rfl
            · have hf := tc_neg hq3_0 hf
              by_cases hq3_1 : a1 = (1 : Int32)
              · have hf := tc_pos hq3_1 hf
                refine tc_ald (b := qY1 0) X hP 1 4 rfl rfl 1 (by rw [hq3_1]; decide) (by rw [hq3_1]; exact inb_vp (by decide)) rfl dX11_tray_50 ?_
                refine lv_iload_n hx hb dX11_tray_51 rfl (lv_at hl 2 rfl) ?_
                refine lv_iload_n hx hb dX11_tray_52 rfl (lv_at hl 3 rfl) ?_
                obtain ⟨z6, hg, hf⟩ := tc_bi hf
                refine tc_vV (As := [.int (a2), .int (a3)]) (rest := []) (b := qY1 0) (wc := w9 ca qY1 SY1) (wr := w11 ca qC (.ref (qA 0)) (rC4) (rC6) (rC7) (rC10) (rC11) (rC12) (rC14) (rC15) (rC17) (rC18) (rC19) SC ++ wLT ca qA (rf4 (qY0 0) (qY1 0) (qY2 0) (qY3 0)) ++ w9 ca qY0 SY0 ++ w9 ca qY2 SY2 ++ w9 ca qY3 SY3) X hP hD hS (mX9_begin hg) okX9_begin wl_X11_105 wi_X9_begin ws_X9_X9_begin_X9_begin ⟨rfl, rfl, Nat.le_of_ble_eq_true rfl, Nat.le_of_ble_eq_true rfl⟩ 9 0 rfl rfl [4, 5] [0, 1, 2, 3, 6, 7, 8, 9] ⟨rfl, rfl, rfl, rfl, by decide⟩ rfl hl.1 (Nat.le_of_ble_eq_true rfl) dX11_tray_53 (fun H locs hP hD hS => ?_)
                have hP := hP.sub (ws' := (w11 ca qC (.ref (qA 0)) (rC4) (rC6) (rC7) (rC10) (rC11) (rC12) (rC14) (rC15) (rC17) (rC18) (rC19) SC ++ wLT ca qA (rf4 (qY0 0) (qY1 0) (qY2 0) (qY3 0)) ++ w9 ca qY0 SY0 ++ w9 ca qY1 z6 ++ w9 ca qY2 SY2 ++ w9 ca qY3 SY3)) [0, 1, 2, 3, 8, 9, 4, 5, 6, 7] rfl
                have hD := hD.sub (ws' := (w11 ca qC (.ref (qA 0)) (rC4) (rC6) (rC7) (rC10) (rC11) (rC12) (rC14) (rC15) (rC17) (rC18) (rC19) SC ++ wLT ca qA (rf4 (qY0 0) (qY1 0) (qY2 0) (qY3 0)) ++ w9 ca qY0 SY0 ++ w9 ca qY1 z6 ++ w9 ca qY2 SY2 ++ w9 ca qY3 SY3)) [0, 1, 2, 3, 8, 9, 4, 5, 6, 7] rfl rfl
                refine lv_aload_n hx hb dX11_tray_56 rfl (lv_at hl 0 rfl) ?_
                obtain ⟨z7, hg, hf⟩ := tc_bi hf
                refine tc_iV (As := []) (rest := []) (b := qC 0) (wc := w11 ca qC (.ref (qA 0)) (rC4) (rC6) (rC7) (rC10) (rC11) (rC12) (rC14) (rC15) (rC17) (rC18) (rC19) SC) (wr := wLT ca qA (rf4 (qY0 0) (qY1 0) (qY2 0) (qY3 0)) ++ w9 ca qY0 SY0 ++ w9 ca qY1 z6 ++ w9 ca qY2 SY2 ++ w9 ca qY3 SY3) X hP hD hS (mX11_grant hg) okX11_grant wl_X11_109 wi_X11_grant ws_X11_X11_grant_X11_grant ⟨rfl, rfl, Nat.le_of_ble_eq_true rfl, Nat.le_of_ble_eq_true rfl⟩ 11 0 rfl rfl [0] [1, 2, 3, 4, 5, 6, 7, 8, 9] ⟨rfl, rfl, rfl, rfl, by decide⟩ rfl hl.1 (Nat.le_of_ble_eq_true rfl) dX11_tray_57 (fun H locs hP hD hS => ?_)
                have hP := hP.sub (ws' := (w11 ca qC (.ref (qA 0)) (rC4) (rC6) (rC7) (rC10) (rC11) (rC12) (rC14) (rC15) (rC17) (rC18) (rC19) z7.2 ++ wLT ca qA (rf4 (qY0 0) (qY1 0) (qY2 0) (qY3 0)) ++ w9 ca qY0 SY0 ++ w9 ca qY1 z6 ++ w9 ca qY2 SY2 ++ w9 ca qY3 SY3)) [9, 0, 1, 2, 3, 4, 5, 6, 7, 8] rfl
                have hD := hD.sub (ws' := (w11 ca qC (.ref (qA 0)) (rC4) (rC6) (rC7) (rC10) (rC11) (rC12) (rC14) (rC15) (rC17) (rC18) (rC19) z7.2 ++ wLT ca qA (rf4 (qY0 0) (qY1 0) (qY2 0) (qY3 0)) ++ w9 ca qY0 SY0 ++ w9 ca qY1 z6 ++ w9 ca qY2 SY2 ++ w9 ca qY3 SY3)) [9, 0, 1, 2, 3, 4, 5, 6, 7, 8] rfl rfl
                obtain ⟨hz1, hf⟩ := tc_ck hf
                obtain rfl := Option.some.inj hf
                exact tc_rz X hP hD hS rfl dX11_tray_60 hz1 rfl rfl
              · have hf := tc_neg hq3_1 hf
                by_cases hq3_2 : a1 = (2 : Int32)
                · have hf := tc_pos hq3_2 hf
                  refine tc_ald (b := qY2 0) X hP 1 4 rfl rfl 2 (by rw [hq3_2]; decide) (by rw [hq3_2]; exact inb_vp (by decide)) rfl dX11_tray_50 ?_
                  refine lv_iload_n hx hb dX11_tray_51 rfl (lv_at hl 2 rfl) ?_
                  refine lv_iload_n hx hb dX11_tray_52 rfl (lv_at hl 3 rfl) ?_
                  obtain ⟨z8, hg, hf⟩ := tc_bi hf
                  refine tc_vV (As := [.int (a2), .int (a3)]) (rest := []) (b := qY2 0) (wc := w9 ca qY2 SY2) (wr := w11 ca qC (.ref (qA 0)) (rC4) (rC6) (rC7) (rC10) (rC11) (rC12) (rC14) (rC15) (rC17) (rC18) (rC19) SC ++ wLT ca qA (rf4 (qY0 0) (qY1 0) (qY2 0) (qY3 0)) ++ w9 ca qY0 SY0 ++ w9 ca qY1 SY1 ++ w9 ca qY3 SY3) X hP hD hS (mX9_begin hg) okX9_begin wl_X11_105 wi_X9_begin ws_X9_X9_begin_X9_begin ⟨rfl, rfl, Nat.le_of_ble_eq_true rfl, Nat.le_of_ble_eq_true rfl⟩ 9 0 rfl rfl [6, 7] [0, 1, 2, 3, 4, 5, 8, 9] ⟨rfl, rfl, rfl, rfl, by decide⟩ rfl hl.1 (Nat.le_of_ble_eq_true rfl) dX11_tray_53 (fun H locs hP hD hS => ?_)
                  have hP := hP.sub (ws' := (w11 ca qC (.ref (qA 0)) (rC4) (rC6) (rC7) (rC10) (rC11) (rC12) (rC14) (rC15) (rC17) (rC18) (rC19) SC ++ wLT ca qA (rf4 (qY0 0) (qY1 0) (qY2 0) (qY3 0)) ++ w9 ca qY0 SY0 ++ w9 ca qY1 SY1 ++ w9 ca qY2 z8 ++ w9 ca qY3 SY3)) [0, 1, 2, 3, 4, 5, 8, 9, 6, 7] rfl
                  have hD := hD.sub (ws' := (w11 ca qC (.ref (qA 0)) (rC4) (rC6) (rC7) (rC10) (rC11) (rC12) (rC14) (rC15) (rC17) (rC18) (rC19) SC ++ wLT ca qA (rf4 (qY0 0) (qY1 0) (qY2 0) (qY3 0)) ++ w9 ca qY0 SY0 ++ w9 ca qY1 SY1 ++ w9 ca qY2 z8 ++ w9 ca qY3 SY3)) [0, 1, 2, 3, 4, 5, 8, 9, 6, 7] rfl rfl
                  refine lv_aload_n hx hb dX11_tray_56 rfl (lv_at hl 0 rfl) ?_
                  obtain ⟨z9, hg, hf⟩ := tc_bi hf
                  refine tc_iV (As := []) (rest := []) (b := qC 0) (wc := w11 ca qC (.ref (qA 0)) (rC4) (rC6) (rC7) (rC10) (rC11) (rC12) (rC14) (rC15) (rC17) (rC18) (rC19) SC) (wr := wLT ca qA (rf4 (qY0 0) (qY1 0) (qY2 0) (qY3 0)) ++ w9 ca qY0 SY0 ++ w9 ca qY1 SY1 ++ w9 ca qY2 z8 ++ w9 ca qY3 SY3) X hP hD hS (mX11_grant hg) okX11_grant wl_X11_109 wi_X11_grant ws_X11_X11_grant_X11_grant ⟨rfl, rfl, Nat.le_of_ble_eq_true rfl, Nat.le_of_ble_eq_true rfl⟩ 11 0 rfl rfl [0] [1, 2, 3, 4, 5, 6, 7, 8, 9] ⟨rfl, rfl, rfl, rfl, by decide⟩ rfl hl.1 (Nat.le_of_ble_eq_true rfl) dX11_tray_57 (fun H locs hP hD hS => ?_)
                  have hP := hP.sub (ws' := (w11 ca qC (.ref (qA 0)) (rC4) (rC6) (rC7) (rC10) (rC11) (rC12) (rC14) (rC15) (rC17) (rC18) (rC19) z9.2 ++ wLT ca qA (rf4 (qY0 0) (qY1 0) (qY2 0) (qY3 0)) ++ w9 ca qY0 SY0 ++ w9 ca qY1 SY1 ++ w9 ca qY2 z8 ++ w9 ca qY3 SY3)) [9, 0, 1, 2, 3, 4, 5, 6, 7, 8] rfl
                  have hD := hD.sub (ws' := (w11 ca qC (.ref (qA 0)) (rC4) (rC6) (rC7) (rC10) (rC11) (rC12) (rC14) (rC15) (rC17) (rC18) (rC19) z9.2 ++ wLT ca qA (rf4 (qY0 0) (qY1 0) (qY2 0) (qY3 0)) ++ w9 ca qY0 SY0 ++ w9 ca qY1 SY1 ++ w9 ca qY2 z8 ++ w9 ca qY3 SY3)) [9, 0, 1, 2, 3, 4, 5, 6, 7, 8] rfl rfl
                  obtain ⟨hz1, hf⟩ := tc_ck hf
                  obtain rfl := Option.some.inj hf
                  exact tc_rz X hP hD hS rfl dX11_tray_60 hz1 rfl rfl
                · have hf := tc_neg hq3_2 hf
                  by_cases hq3_3 : a1 = (3 : Int32)
                  · have hf := tc_pos hq3_3 hf
                    refine tc_ald (b := qY3 0) X hP 1 4 rfl rfl 3 (by rw [hq3_3]; decide) (by rw [hq3_3]; exact inb_vp (by decide)) rfl dX11_tray_50 ?_
                    refine lv_iload_n hx hb dX11_tray_51 rfl (lv_at hl 2 rfl) ?_
                    refine lv_iload_n hx hb dX11_tray_52 rfl (lv_at hl 3 rfl) ?_
                    obtain ⟨z10, hg, hf⟩ := tc_bi hf
                    refine tc_vV (As := [.int (a2), .int (a3)]) (rest := []) (b := qY3 0) (wc := w9 ca qY3 SY3) (wr := w11 ca qC (.ref (qA 0)) (rC4) (rC6) (rC7) (rC10) (rC11) (rC12) (rC14) (rC15) (rC17) (rC18) (rC19) SC ++ wLT ca qA (rf4 (qY0 0) (qY1 0) (qY2 0) (qY3 0)) ++ w9 ca qY0 SY0 ++ w9 ca qY1 SY1 ++ w9 ca qY2 SY2) X hP hD hS (mX9_begin hg) okX9_begin wl_X11_105 wi_X9_begin ws_X9_X9_begin_X9_begin ⟨rfl, rfl, Nat.le_of_ble_eq_true rfl, Nat.le_of_ble_eq_true rfl⟩ 9 0 rfl rfl [8, 9] [0, 1, 2, 3, 4, 5, 6, 7] ⟨rfl, rfl, rfl, rfl, by decide⟩ rfl hl.1 (Nat.le_of_ble_eq_true rfl) dX11_tray_53 (fun H locs hP hD hS => ?_)
                    have hP := hP.sub (ws' := (w11 ca qC (.ref (qA 0)) (rC4) (rC6) (rC7) (rC10) (rC11) (rC12) (rC14) (rC15) (rC17) (rC18) (rC19) SC ++ wLT ca qA (rf4 (qY0 0) (qY1 0) (qY2 0) (qY3 0)) ++ w9 ca qY0 SY0 ++ w9 ca qY1 SY1 ++ w9 ca qY2 SY2 ++ w9 ca qY3 z10)) [0, 1, 2, 3, 4, 5, 6, 7, 8, 9] rfl
                    have hD := hD.sub (ws' := (w11 ca qC (.ref (qA 0)) (rC4) (rC6) (rC7) (rC10) (rC11) (rC12) (rC14) (rC15) (rC17) (rC18) (rC19) SC ++ wLT ca qA (rf4 (qY0 0) (qY1 0) (qY2 0) (qY3 0)) ++ w9 ca qY0 SY0 ++ w9 ca qY1 SY1 ++ w9 ca qY2 SY2 ++ w9 ca qY3 z10)) [0, 1, 2, 3, 4, 5, 6, 7, 8, 9] rfl rfl
                    refine lv_aload_n hx hb dX11_tray_56 rfl (lv_at hl 0 rfl) ?_
                    obtain ⟨z11, hg, hf⟩ := tc_bi hf
                    refine tc_iV (As := []) (rest := []) (b := qC 0) (wc := w11 ca qC (.ref (qA 0)) (rC4) (rC6) (rC7) (rC10) (rC11) (rC12) (rC14) (rC15) (rC17) (rC18) (rC19) SC) (wr := wLT ca qA (rf4 (qY0 0) (qY1 0) (qY2 0) (qY3 0)) ++ w9 ca qY0 SY0 ++ w9 ca qY1 SY1 ++ w9 ca qY2 SY2 ++ w9 ca qY3 z10) X hP hD hS (mX11_grant hg) okX11_grant wl_X11_109 wi_X11_grant ws_X11_X11_grant_X11_grant ⟨rfl, rfl, Nat.le_of_ble_eq_true rfl, Nat.le_of_ble_eq_true rfl⟩ 11 0 rfl rfl [0] [1, 2, 3, 4, 5, 6, 7, 8, 9] ⟨rfl, rfl, rfl, rfl, by decide⟩ rfl hl.1 (Nat.le_of_ble_eq_true rfl) dX11_tray_57 (fun H locs hP hD hS => ?_)
                    have hP := hP.sub (ws' := (w11 ca qC (.ref (qA 0)) (rC4) (rC6) (rC7) (rC10) (rC11) (rC12) (rC14) (rC15) (rC17) (rC18) (rC19) z11.2 ++ wLT ca qA (rf4 (qY0 0) (qY1 0) (qY2 0) (qY3 0)) ++ w9 ca qY0 SY0 ++ w9 ca qY1 SY1 ++ w9 ca qY2 SY2 ++ w9 ca qY3 z10)) [9, 0, 1, 2, 3, 4, 5, 6, 7, 8] rfl
                    have hD := hD.sub (ws' := (w11 ca qC (.ref (qA 0)) (rC4) (rC6) (rC7) (rC10) (rC11) (rC12) (rC14) (rC15) (rC17) (rC18) (rC19) z11.2 ++ wLT ca qA (rf4 (qY0 0) (qY1 0) (qY2 0) (qY3 0)) ++ w9 ca qY0 SY0 ++ w9 ca qY1 SY1 ++ w9 ca qY2 SY2 ++ w9 ca qY3 z10)) [9, 0, 1, 2, 3, 4, 5, 6, 7, 8] rfl rfl
                    obtain ⟨hz1, hf⟩ := tc_ck hf
                    obtain rfl := Option.some.inj hf
                    exact tc_rz X hP hD hS rfl dX11_tray_60 hz1 rfl rfl
                  · have hf := tc_neg hq3_3 hf
                    cases hf
          · have hf := tc_neg hc hf
            refine lv_aload_n hx hb dX11_tray_38 rfl (lv_at hl 0 rfl) ?_
            refine lv_bipush (v := (6 : Int32)) hx hb dX11_tray_39 (by decide) ?_
            obtain ⟨z12, hg, hf⟩ := tc_bi hf
            refine tc_iV (As := [.int ((6 : Int32))]) (rest := []) (b := qC 0) (wc := w11 ca qC (.ref (qA 0)) (rC4) (rC6) (rC7) (rC10) (rC11) (rC12) (rC14) (rC15) (rC17) (rC18) (rC19) SC) (wr := wLT ca qA (rf4 (qY0 0) (qY1 0) (qY2 0) (qY3 0)) ++ w9 ca qY0 SY0 ++ w9 ca qY1 SY1 ++ w9 ca qY2 SY2 ++ w9 ca qY3 SY3) X hP hD hS (mX11_deny hg) okX11_deny wl_X11_102 wi_X11_deny ws_X11_X11_deny_X11_deny ⟨rfl, rfl, Nat.le_of_ble_eq_true rfl, Nat.le_of_ble_eq_true rfl⟩ 11 0 rfl rfl [0] [1, 2, 3, 4, 5, 6, 7, 8, 9] ⟨rfl, rfl, rfl, rfl, by decide⟩ rfl hl.1 (Nat.le_of_ble_eq_true rfl) dX11_tray_41 (fun H locs hP hD hS => ?_)
            have hP := hP.sub (ws' := (w11 ca qC (.ref (qA 0)) (rC4) (rC6) (rC7) (rC10) (rC11) (rC12) (rC14) (rC15) (rC17) (rC18) (rC19) z12.2 ++ wLT ca qA (rf4 (qY0 0) (qY1 0) (qY2 0) (qY3 0)) ++ w9 ca qY0 SY0 ++ w9 ca qY1 SY1 ++ w9 ca qY2 SY2 ++ w9 ca qY3 SY3)) [9, 0, 1, 2, 3, 4, 5, 6, 7, 8] rfl
            have hD := hD.sub (ws' := (w11 ca qC (.ref (qA 0)) (rC4) (rC6) (rC7) (rC10) (rC11) (rC12) (rC14) (rC15) (rC17) (rC18) (rC19) z12.2 ++ wLT ca qA (rf4 (qY0 0) (qY1 0) (qY2 0) (qY3 0)) ++ w9 ca qY0 SY0 ++ w9 ca qY1 SY1 ++ w9 ca qY2 SY2 ++ w9 ca qY3 SY3)) [9, 0, 1, 2, 3, 4, 5, 6, 7, 8] rfl rfl
            obtain ⟨hz1, hf⟩ := tc_ck hf
            obtain rfl := Option.some.inj hf
            exact tc_rz X hP hD hS rfl dX11_tray_44 hz1 rfl rfl
        · have hf := tc_neg hc hf
          refine lv_aload_n hx hb dX11_tray_28 rfl (lv_at hl 0 rfl) ?_
          refine lv_iconst (v := (5 : Int32)) hx hb dX11_tray_29 (by decide) ?_
          obtain ⟨z13, hg, hf⟩ := tc_bi hf
          refine tc_iV (As := [.int ((5 : Int32))]) (rest := []) (b := qC 0) (wc := w11 ca qC (.ref (qA 0)) (rC4) (rC6) (rC7) (rC10) (rC11) (rC12) (rC14) (rC15) (rC17) (rC18) (rC19) SC) (wr := wLT ca qA (rf4 (qY0 0) (qY1 0) (qY2 0) (qY3 0)) ++ w9 ca qY0 SY0 ++ w9 ca qY1 SY1 ++ w9 ca qY2 SY2 ++ w9 ca qY3 SY3) X hP hD hS (mX11_deny hg) okX11_deny wl_X11_102 wi_X11_deny ws_X11_X11_deny_X11_deny ⟨rfl, rfl, Nat.le_of_ble_eq_true rfl, Nat.le_of_ble_eq_true rfl⟩ 11 0 rfl rfl [0] [1, 2, 3, 4, 5, 6, 7, 8, 9] ⟨rfl, rfl, rfl, rfl, by decide⟩ rfl hl.1 (Nat.le_of_ble_eq_true rfl) dX11_tray_30 (fun H locs hP hD hS => ?_)
          have hP := hP.sub (ws' := (w11 ca qC (.ref (qA 0)) (rC4) (rC6) (rC7) (rC10) (rC11) (rC12) (rC14) (rC15) (rC17) (rC18) (rC19) z13.2 ++ wLT ca qA (rf4 (qY0 0) (qY1 0) (qY2 0) (qY3 0)) ++ w9 ca qY0 SY0 ++ w9 ca qY1 SY1 ++ w9 ca qY2 SY2 ++ w9 ca qY3 SY3)) [9, 0, 1, 2, 3, 4, 5, 6, 7, 8] rfl
          have hD := hD.sub (ws' := (w11 ca qC (.ref (qA 0)) (rC4) (rC6) (rC7) (rC10) (rC11) (rC12) (rC14) (rC15) (rC17) (rC18) (rC19) z13.2 ++ wLT ca qA (rf4 (qY0 0) (qY1 0) (qY2 0) (qY3 0)) ++ w9 ca qY0 SY0 ++ w9 ca qY1 SY1 ++ w9 ca qY2 SY2 ++ w9 ca qY3 SY3)) [9, 0, 1, 2, 3, 4, 5, 6, 7, 8] rfl rfl
          obtain ⟨hz1, hf⟩ := tc_ck hf
          obtain rfl := Option.some.inj hf
          exact tc_rz X hP hD hS rfl dX11_tray_33 hz1 rfl rfl
      · have hf := tc_neg hc hf
        exact tX11_tray_16 X z SC SY0 SY1 SY2 SY3 hf _ _ _ hP hD hS (lv_sub hl [0] rfl)
def fX11_placeStatus  (SC : ms_T) (SY0 : ms_T) (SY1 : ms_T) (SY2 : ms_T) (SY3 : ms_T) (a1 : Int32) (a2 : Int32) : Option (Int32) :=
  (fX11_isTray a1).bind fun z1 =>
  if z1 = 0 then
    some ((1 : Int32))
  else
    if a1 = (0 : Int32) then
      (fX9_isMissing SY0).bind fun z3 =>
      if z3 = 0 then
        (fX9_holds SY0 a2 (1 : Int32)).bind fun z4 =>
        if z4 = 0 then
          some ((4 : Int32))
        else
          some ((0 : Int32))
      else
        some ((3 : Int32))
    else
      if a1 = (1 : Int32) then
        (fX9_isMissing SY1).bind fun z5 =>
        if z5 = 0 then
          (fX9_holds SY1 a2 (1 : Int32)).bind fun z6 =>
          if z6 = 0 then
            some ((4 : Int32))
          else
            some ((0 : Int32))
        else
          some ((3 : Int32))
      else
        if a1 = (2 : Int32) then
          (fX9_isMissing SY2).bind fun z7 =>
          if z7 = 0 then
            (fX9_holds SY2 a2 (1 : Int32)).bind fun z8 =>
            if z8 = 0 then
              some ((4 : Int32))
            else
              some ((0 : Int32))
          else
            some ((3 : Int32))
        else
          if a1 = (3 : Int32) then
            (fX9_isMissing SY3).bind fun z9 =>
            if z9 = 0 then
              (fX9_holds SY3 a2 (1 : Int32)).bind fun z10 =>
              if z10 = 0 then
                some ((4 : Int32))
              else
                some ((0 : Int32))
            else
              some ((3 : Int32))
          else
            none
abbrev rmX11_placeStatus : Room := { frames := 1, cells := 0, slots := 0, locals := 22 }
theorem okX11_placeStatus : tc_ok yX11_placeStatus cX11_placeStatus 3 (some .int) 2 := ⟨wc_X11_placeStatus, wn_X11, by decide, by decide, by decide +kernel⟩
set_option maxRecDepth 20000 in
theorem mX11_placeStatus {qC : Nat → Nat} {qA : Nat → Nat} {qY0 : Nat → Nat} {qY1 : Nat → Nat} {qY2 : Nat → Nat} {qY3 : Nat → Nat} {rC4 : Value} {rC6 : Value} {rC7 : Value} {rC10 : Value} {rC11 : Value} {rC12 : Value} {rC14 : Value} {rC15 : Value} {rC17 : Value} {rC18 : Value} {rC19 : Value} {SC : ms_T} {SY0 : ms_T} {SY1 : ms_T} {SY2 : ms_T} {SY3 : ms_T} {a1 : Int32} {a2 : Int32} {z : Int32}  (hf : fX11_placeStatus SC SY0 SY1 SY2 SY3 a1 a2 = some z) : tc_MI l dC dI ca yX11_placeStatus cX11_placeStatus 3 (some .int) rmX11_placeStatus [.ref (qC 0), .int (a1), .int (a2)] (w11 ca qC (.ref (qA 0)) (rC4) (rC6) (rC7) (rC10) (rC11) (rC12) (rC14) (rC15) (rC17) (rC18) (rC19) SC ++ wLT ca qA (rf4 (qY0 0) (qY1 0) (qY2 0) (qY3 0)) ++ w9 ca qY0 SY0 ++ w9 ca qY1 SY1 ++ w9 ca qY2 SY2 ++ w9 ca qY3 SY3) (w11 ca qC (.ref (qA 0)) (rC4) (rC6) (rC7) (rC10) (rC11) (rC12) (rC14) (rC15) (rC17) (rC18) (rC19) SC ++ wLT ca qA (rf4 (qY0 0) (qY1 0) (qY2 0) (qY3 0)) ++ w9 ca qY0 SY0 ++ w9 ca qY1 SY1 ++ w9 ca qY2 SY2 ++ w9 ca qY3 SY3) (z) := by
  refine tc_metI (own := RX11) (by decide) rfl ?_ (Nat.le_of_ble_eq_true rfl)
  intro p e s m below meth c A X hP hD hS ls hl
  obtain ⟨hx, hb, hr, hml, hown, hts, hlk, hK, hA, hG⟩ := id X
  unfold fX11_placeStatus at hf
  have hl : lv_has ls 3 [(0, .ref (qC 0)), (1, .int (a1)), (2, .int (a2))] := hl
  refine lv_iload_n hx hb dX11_placeStatus_0 rfl (lv_at hl 1 rfl) ?_
  obtain ⟨z1, hg, hf⟩ := tc_bi hf
  refine tc_iS0 (As := [.int (a1)]) (rest := []) X hP hD hS (mX11_isTray hg) okX11_isTray wl_X11_98 wt_X11_isTray ⟨rfl, rfl, Nat.le_of_ble_eq_true rfl, Nat.le_of_ble_eq_true rfl⟩ rfl hl.1 (Nat.le_of_ble_eq_true rfl) dX11_placeStatus_1 (fun H locs hP hD hS => ?_)
  refine lv_if_ne (tgt := 9) hx hb dX11_placeStatus_4 (by decide) (fun hc => ?_) (fun hc => ?_)
  · have hf := tc_neg hc hf
    refine lv_aload_n hx hb dX11_placeStatus_9 rfl (lv_at hl 0 rfl) ?_
    refine va_get (D := (dC, dI)) (ci := 11) (v := .ref (qA 0)) (C := RX11) (T := TX11) (N := 20) hx hb hts i_X11 hown hK hP 0 rfl rfl 3 (by decide) (hts _ wf_X11_11) (fun _ h9 => h9) rfl dX11_placeStatus_10 ?_
    refine lv_iload_n hx hb dX11_placeStatus_13 rfl (lv_at hl 1 rfl) ?_
    by_cases hq2_0 : a1 = (0 : Int32)
    · have hf := tc_pos hq2_0 hf
      refine tc_ald (b := qY0 0) X hP 1 4 rfl rfl 0 (by rw [hq2_0]; decide) (by rw [hq2_0]; exact inb_vp (by decide)) rfl dX11_placeStatus_14 ?_
      obtain ⟨z3, hg, hf⟩ := tc_bi hf
      refine tc_iV (As := []) (rest := []) (b := qY0 0) (wc := w9 ca qY0 SY0) (wr := w11 ca qC (.ref (qA 0)) (rC4) (rC6) (rC7) (rC10) (rC11) (rC12) (rC14) (rC15) (rC17) (rC18) (rC19) SC ++ wLT ca qA (rf4 (qY0 0) (qY1 0) (qY2 0) (qY3 0)) ++ w9 ca qY1 SY1 ++ w9 ca qY2 SY2 ++ w9 ca qY3 SY3) X hP hD hS (mX9_isMissing hg) okX9_isMissing wl_X11_129 wi_X9_isMissing ws_X9_X9_isMissing_X9_isMissing ⟨rfl, rfl, Nat.le_of_ble_eq_true rfl, Nat.le_of_ble_eq_true rfl⟩ 9 0 rfl rfl [2, 3] [0, 1, 4, 5, 6, 7, 8, 9] ⟨rfl, rfl, rfl, rfl, by decide⟩ rfl hl.1 (Nat.le_of_ble_eq_true rfl) dX11_placeStatus_15 (fun H locs hP hD hS => ?_)
      have hP := hP.sub (ws' := (w11 ca qC (.ref (qA 0)) (rC4) (rC6) (rC7) (rC10) (rC11) (rC12) (rC14) (rC15) (rC17) (rC18) (rC19) SC ++ wLT ca qA (rf4 (qY0 0) (qY1 0) (qY2 0) (qY3 0)) ++ w9 ca qY0 SY0 ++ w9 ca qY1 SY1 ++ w9 ca qY2 SY2 ++ w9 ca qY3 SY3)) [0, 1, 8, 9, 2, 3, 4, 5, 6, 7] rfl
      have hD := hD.sub (ws' := (w11 ca qC (.ref (qA 0)) (rC4) (rC6) (rC7) (rC10) (rC11) (rC12) (rC14) (rC15) (rC17) (rC18) (rC19) SC ++ wLT ca qA (rf4 (qY0 0) (qY1 0) (qY2 0) (qY3 0)) ++ w9 ca qY0 SY0 ++ w9 ca qY1 SY1 ++ w9 ca qY2 SY2 ++ w9 ca qY3 SY3)) [0, 1, 8, 9, 2, 3, 4, 5, 6, 7] rfl rfl
      refine lv_if_eq (tgt := 23) hx hb dX11_placeStatus_18 (by decide) (fun hc => ?_) (fun hc => ?_)
      · have hf := tc_pos hc hf
        refine lv_aload_n hx hb dX11_placeStatus_23 rfl (lv_at hl 0 rfl) ?_
        refine va_get (D := (dC, dI)) (ci := 11) (v := .ref (qA 0)) (C := RX11) (T := TX11) (N := 20) hx hb hts i_X11 hown hK hP 0 rfl rfl 3 (by decide) (hts _ wf_X11_11) (fun _ h9 => h9) rfl dX11_placeStatus_24 ?_
        refine lv_iload_n hx hb dX11_placeStatus_27 rfl (lv_at hl 1 rfl) ?_
        refine tc_ald (b := qY0 0) X hP 1 4 rfl rfl 0 (by rw [hq2_0]; decide) (by rw [hq2_0]; exact inb_vp (by decide)) rfl dX11_placeStatus_28 ?_
        refine lv_iload_n hx hb dX11_placeStatus_29 rfl (lv_at hl 2 rfl) ?_
        refine lv_iconst (v := (1 : Int32)) hx hb dX11_placeStatus_30 (by decide) ?_
        obtain ⟨z4, hg, hf⟩ := tc_bi hf
        refine tc_iV (As := [.int (a2), .int ((1 : Int32))]) (rest := []) (b := qY0 0) (wc := w9 ca qY0 SY0) (wr := w11 ca qC (.ref (qA 0)) (rC4) (rC6) (rC7) (rC10) (rC11) (rC12) (rC14) (rC15) (rC17) (rC18) (rC19) SC ++ wLT ca qA (rf4 (qY0 0) (qY1 0) (qY2 0) (qY3 0)) ++ w9 ca qY1 SY1 ++ w9 ca qY2 SY2 ++ w9 ca qY3 SY3) X hP hD hS (mX9_holds hg) okX9_holds wl_X11_135 wi_X9_holds ws_X9_X9_holds_X9_holds ⟨rfl, rfl, Nat.le_of_ble_eq_true rfl, Nat.le_of_ble_eq_true rfl⟩ 9 0 rfl rfl [2, 3] [0, 1, 4, 5, 6, 7, 8, 9] ⟨rfl, rfl, rfl, rfl, by decide⟩ rfl hl.1 (Nat.le_of_ble_eq_true rfl) dX11_placeStatus_31 (fun H locs hP hD hS => ?_)
        have hP := hP.sub (ws' := (w11 ca qC (.ref (qA 0)) (rC4) (rC6) (rC7) (rC10) (rC11) (rC12) (rC14) (rC15) (rC17) (rC18) (rC19) SC ++ wLT ca qA (rf4 (qY0 0) (qY1 0) (qY2 0) (qY3 0)) ++ w9 ca qY0 SY0 ++ w9 ca qY1 SY1 ++ w9 ca qY2 SY2 ++ w9 ca qY3 SY3)) [0, 1, 8, 9, 2, 3, 4, 5, 6, 7] rfl
        have hD := hD.sub (ws' := (w11 ca qC (.ref (qA 0)) (rC4) (rC6) (rC7) (rC10) (rC11) (rC12) (rC14) (rC15) (rC17) (rC18) (rC19) SC ++ wLT ca qA (rf4 (qY0 0) (qY1 0) (qY2 0) (qY3 0)) ++ w9 ca qY0 SY0 ++ w9 ca qY1 SY1 ++ w9 ca qY2 SY2 ++ w9 ca qY3 SY3)) [0, 1, 8, 9, 2, 3, 4, 5, 6, 7] rfl rfl
        refine lv_if_eq (tgt := 41) hx hb dX11_placeStatus_34 (by decide) (fun hc => ?_) (fun hc => ?_)
        · have hf := tc_pos hc hf
          refine lv_iconst (v := (4 : Int32)) hx hb dX11_placeStatus_41 (by decide) ?_
          obtain rfl := Option.some.inj hf
          exact tc_ri X hP hD hS rfl dX11_placeStatus_42 rfl rfl
        · have hf := tc_neg hc hf
          refine lv_iconst (v := (0 : Int32)) hx hb dX11_placeStatus_37 (by decide) ?_
          refine lv_goto (tgt := 42) hx hb dX11_placeStatus_38 (by decide) ?_
          obtain rfl := Option.some.inj hf
          exact tc_ri X hP hD hS rfl dX11_placeStatus_42 rfl rfl
      · have hf := tc_neg hc hf
        refine lv_iconst (v := (3 : Int32)) hx hb dX11_placeStatus_21 (by decide) ?_
        obtain rfl := Option.some.inj hf
        exact tc_ri X hP hD hS rfl dX11_placeStatus_22 rfl rfl
    · have hf := tc_neg hq2_0 hf
      by_cases hq2_1 : a1 = (1 : Int32)
      · have hf := tc_pos hq2_1 hf
        refine tc_ald (b := qY1 0) X hP 1 4 rfl rfl 1 (by rw [hq2_1]; decide) (by rw [hq2_1]; exact inb_vp (by decide)) rfl dX11_placeStatus_14 ?_
        obtain ⟨z5, hg, hf⟩ := tc_bi hf
        refine tc_iV (As := []) (rest := []) (b := qY1 0) (wc := w9 ca qY1 SY1) (wr := w11 ca qC (.ref (qA 0)) (rC4) (rC6) (rC7) (rC10) (rC11) (rC12) (rC14) (rC15) (rC17) (rC18) (rC19) SC ++ wLT ca qA (rf4 (qY0 0) (qY1 0) (qY2 0) (qY3 0)) ++ w9 ca qY0 SY0 ++ w9 ca qY2 SY2 ++ w9 ca qY3 SY3) X hP hD hS (mX9_isMissing hg) okX9_isMissing wl_X11_129 wi_X9_isMissing ws_X9_X9_isMissing_X9_isMissing ⟨rfl, rfl, Nat.le_of_ble_eq_true rfl, Nat.le_of_ble_eq_true rfl⟩ 9 0 rfl rfl [4, 5] [0, 1, 2, 3, 6, 7, 8, 9] ⟨rfl, rfl, rfl, rfl, by decide⟩ rfl hl.1 (Nat.le_of_ble_eq_true rfl) dX11_placeStatus_15 (fun H locs hP hD hS => ?_)
        have hP := hP.sub (ws' := (w11 ca qC (.ref (qA 0)) (rC4) (rC6) (rC7) (rC10) (rC11) (rC12) (rC14) (rC15) (rC17) (rC18) (rC19) SC ++ wLT ca qA (rf4 (qY0 0) (qY1 0) (qY2 0) (qY3 0)) ++ w9 ca qY0 SY0 ++ w9 ca qY1 SY1 ++ w9 ca qY2 SY2 ++ w9 ca qY3 SY3)) [0, 1, 2, 3, 8, 9, 4, 5, 6, 7] rfl
        have hD := hD.sub (ws' := (w11 ca qC (.ref (qA 0)) (rC4) (rC6) (rC7) (rC10) (rC11) (rC12) (rC14) (rC15) (rC17) (rC18) (rC19) SC ++ wLT ca qA (rf4 (qY0 0) (qY1 0) (qY2 0) (qY3 0)) ++ w9 ca qY0 SY0 ++ w9 ca qY1 SY1 ++ w9 ca qY2 SY2 ++ w9 ca qY3 SY3)) [0, 1, 2, 3, 8, 9, 4, 5, 6, 7] rfl rfl
        refine lv_if_eq (tgt := 23) hx hb dX11_placeStatus_18 (by decide) (fun hc => ?_) (fun hc => ?_)
        · have hf := tc_pos hc hf
          refine lv_aload_n hx hb dX11_placeStatus_23 rfl (lv_at hl 0 rfl) ?_
          refine va_get (D := (dC, dI)) (ci := 11) (v := .ref (qA 0)) (C := RX11) (T := TX11) (N := 20) hx hb hts i_X11 hown hK hP 0 rfl rfl 3 (by decide) (hts _ wf_X11_11) (fun _ h9 => h9) rfl dX11_placeStatus_24 ?_
          refine lv_iload_n hx hb dX11_placeStatus_27 rfl (lv_at hl 1 rfl) ?_
          refine tc_ald (b := qY1 0) X hP 1 4 rfl rfl 1 (by rw [hq2_1]; decide) (by rw [hq2_1]; exact inb_vp (by decide)) rfl dX11_placeStatus_28 ?_
          refine lv_iload_n hx hb dX11_placeStatus_29 rfl (lv_at hl 2 rfl) ?_
          refine lv_iconst (v := (1 : Int32)) hx hb dX11_placeStatus_30 (by decide) ?_
          obtain ⟨z6, hg, hf⟩ := tc_bi hf
          refine tc_iV (As := [.int (a2), .int ((1 : Int32))]) (rest := []) (b := qY1 0) (wc := w9 ca qY1 SY1) (wr := w11 ca qC (.ref (qA 0)) (rC4) (rC6) (rC7) (rC10) (rC11) (rC12) (rC14) (rC15) (rC17) (rC18) (rC19) SC ++ wLT ca qA (rf4 (qY0 0) (qY1 0) (qY2 0) (qY3 0)) ++ w9 ca qY0 SY0 ++ w9 ca qY2 SY2 ++ w9 ca qY3 SY3) X hP hD hS (mX9_holds hg) okX9_holds wl_X11_135 wi_X9_holds ws_X9_X9_holds_X9_holds ⟨rfl, rfl, Nat.le_of_ble_eq_true rfl, Nat.le_of_ble_eq_true rfl⟩ 9 0 rfl rfl [4, 5] [0, 1, 2, 3, 6, 7, 8, 9] ⟨rfl, rfl, rfl, rfl, by decide⟩ rfl hl.1 (Nat.le_of_ble_eq_true rfl) dX11_placeStatus_31 (fun H locs hP hD hS => ?_)
          have hP := hP.sub (ws' := (w11 ca qC (.ref (qA 0)) (rC4) (rC6) (rC7) (rC10) (rC11) (rC12) (rC14) (rC15) (rC17) (rC18) (rC19) SC ++ wLT ca qA (rf4 (qY0 0) (qY1 0) (qY2 0) (qY3 0)) ++ w9 ca qY0 SY0 ++ w9 ca qY1 SY1 ++ w9 ca qY2 SY2 ++ w9 ca qY3 SY3)) [0, 1, 2, 3, 8, 9, 4, 5, 6, 7] rfl
          have hD := hD.sub (ws' := (w11 ca qC (.ref (qA 0)) (rC4) (rC6) (rC7) (rC10) (rC11) (rC12) (rC14) (rC15) (rC17) (rC18) (rC19) SC ++ wLT ca qA (rf4 (qY0 0) (qY1 0) (qY2 0) (qY3 0)) ++ w9 ca qY0 SY0 ++ w9 ca qY1 SY1 ++ w9 ca qY2 SY2 ++ w9 ca qY3 SY3)) [0, 1, 2, 3, 8, 9, 4, 5, 6, 7] rfl rfl
          refine lv_if_eq (tgt := 41) hx hb dX11_placeStatus_34 (by decide) (fun hc => ?_) (fun hc => ?_)
          · have hf := tc_pos hc hf
            refine lv_iconst (v := (4 : Int32)) hx hb dX11_placeStatus_41 (by decide) ?_
            obtain rfl := Option.some.inj hf
            exact tc_ri X hP hD hS rfl dX11_placeStatus_42 rfl rfl
          · have hf := tc_neg hc hf
            refine lv_iconst (v := (0 : Int32)) hx hb dX11_placeStatus_37 (by decide) ?_
            refine lv_goto (tgt := 42) hx hb dX11_placeStatus_38 (by decide) ?_
            obtain rfl := Option.some.inj hf
            exact tc_ri X hP hD hS rfl dX11_placeStatus_42 rfl rfl
        · have hf := tc_neg hc hf
          refine lv_iconst (v := (3 : Int32)) hx hb dX11_placeStatus_21 (by decide) ?_
          obtain rfl := Option.some.inj hf
          exact tc_ri X hP hD hS rfl dX11_placeStatus_22 rfl rfl
      · have hf := tc_neg hq2_1 hf
        by_cases hq2_2 : a1 = (2 : Int32)
        · have hf := tc_pos hq2_2 hf
          refine tc_ald (b := qY2 0) X hP 1 4 rfl rfl 2 (by rw [hq2_2]; decide) (by rw [hq2_2]; exact inb_vp (by decide)) rfl dX11_placeStatus_14 ?_
          obtain ⟨z7, hg, hf⟩ := tc_bi hf
          refine tc_iV (As := []) (rest := []) (b := qY2 0) (wc := w9 ca qY2 SY2) (wr := w11 ca qC (.ref (qA 0)) (rC4) (rC6) (rC7) (rC10) (rC11) (rC12) (rC14) (rC15) (rC17) (rC18) (rC19) SC ++ wLT ca qA (rf4 (qY0 0) (qY1 0) (qY2 0) (qY3 0)) ++ w9 ca qY0 SY0 ++ w9 ca qY1 SY1 ++ w9 ca qY3 SY3) X hP hD hS (mX9_isMissing hg) okX9_isMissing wl_X11_129 wi_X9_isMissing ws_X9_X9_isMissing_X9_isMissing ⟨rfl, rfl, Nat.le_of_ble_eq_true rfl, Nat.le_of_ble_eq_true rfl⟩ 9 0 rfl rfl [6, 7] [0, 1, 2, 3, 4, 5, 8, 9] ⟨rfl, rfl, rfl, rfl, by decide⟩ rfl hl.1 (Nat.le_of_ble_eq_true rfl) dX11_placeStatus_15 (fun H locs hP hD hS => ?_)
          have hP := hP.sub (ws' := (w11 ca qC (.ref (qA 0)) (rC4) (rC6) (rC7) (rC10) (rC11) (rC12) (rC14) (rC15) (rC17) (rC18) (rC19) SC ++ wLT ca qA (rf4 (qY0 0) (qY1 0) (qY2 0) (qY3 0)) ++ w9 ca qY0 SY0 ++ w9 ca qY1 SY1 ++ w9 ca qY2 SY2 ++ w9 ca qY3 SY3)) [0, 1, 2, 3, 4, 5, 8, 9, 6, 7] rfl
          have hD := hD.sub (ws' := (w11 ca qC (.ref (qA 0)) (rC4) (rC6) (rC7) (rC10) (rC11) (rC12) (rC14) (rC15) (rC17) (rC18) (rC19) SC ++ wLT ca qA (rf4 (qY0 0) (qY1 0) (qY2 0) (qY3 0)) ++ w9 ca qY0 SY0 ++ w9 ca qY1 SY1 ++ w9 ca qY2 SY2 ++ w9 ca qY3 SY3)) [0, 1, 2, 3, 4, 5, 8, 9, 6, 7] rfl rfl
          refine lv_if_eq (tgt := 23) hx hb dX11_placeStatus_18 (by decide) (fun hc => ?_) (fun hc => ?_)
          · have hf := tc_pos hc hf
            refine lv_aload_n hx hb dX11_placeStatus_23 rfl (lv_at hl 0 rfl) ?_
            refine va_get (D := (dC, dI)) (ci := 11) (v := .ref (qA 0)) (C := RX11) (T := TX11) (N := 20) hx hb hts i_X11 hown hK hP 0 rfl rfl 3 (by decide) (hts _ wf_X11_11) (fun _ h9 => h9) rfl dX11_placeStatus_24 ?_
            refine lv_iload_n hx hb dX11_placeStatus_27 rfl (lv_at hl 1 rfl) ?_
            refine tc_ald (b := qY2 0) X hP 1 4 rfl rfl 2 (by rw [hq2_2]; decide) (by rw [hq2_2]; exact inb_vp (by decide)) rfl dX11_placeStatus_28 ?_
            refine lv_iload_n hx hb dX11_placeStatus_29 rfl (lv_at hl 2 rfl) ?_
            refine lv_iconst (v := (1 : Int32)) hx hb dX11_placeStatus_30 (by decide) ?_
            obtain ⟨z8, hg, hf⟩ := tc_bi hf
            refine tc_iV (As := [.int (a2), .int ((1 : Int32))]) (rest := []) (b := qY2 0) (wc := w9 ca qY2 SY2) (wr := w11 ca qC (.ref (qA 0)) (rC4) (rC6) (rC7) (rC10) (rC11) (rC12) (rC14) (rC15) (rC17) (rC18) (rC19) SC ++ wLT ca qA (rf4 (qY0 0) (qY1 0) (qY2 0) (qY3 0)) ++ w9 ca qY0 SY0 ++ w9 ca qY1 SY1 ++ w9 ca qY3 SY3) X hP hD hS (mX9_holds hg) okX9_holds wl_X11_135 wi_X9_holds ws_X9_X9_holds_X9_holds ⟨rfl, rfl, Nat.le_of_ble_eq_true rfl, Nat.le_of_ble_eq_true rfl⟩ 9 0 rfl rfl [6, 7] [0, 1, 2, 3, 4, 5, 8, 9] ⟨rfl, rfl, rfl, rfl, by decide⟩ rfl hl.1 (Nat.le_of_ble_eq_true rfl) dX11_placeStatus_31 (fun H locs hP hD hS => ?_)
            have hP := hP.sub (ws' := (w11 ca qC (.ref (qA 0)) (rC4) (rC6) (rC7) (rC10) (rC11) (rC12) (rC14) (rC15) (rC17) (rC18) (rC19) SC ++ wLT ca qA (rf4 (qY0 0) (qY1 0) (qY2 0) (qY3 0)) ++ w9 ca qY0 SY0 ++ w9 ca qY1 SY1 ++ w9 ca qY2 SY2 ++ w9 ca qY3 SY3)) [0, 1, 2, 3, 4, 5, 8, 9, 6, 7] rfl
            have hD := hD.sub (ws' := (w11 ca qC (.ref (qA 0)) (rC4) (rC6) (rC7) (rC10) (rC11) (rC12) (rC14) (rC15) (rC17) (rC18) (rC19) SC ++ wLT ca qA (rf4 (qY0 0) (qY1 0) (qY2 0) (qY3 0)) ++ w9 ca qY0 SY0 ++ w9 ca qY1 SY1 ++ w9 ca qY2 SY2 ++ w9 ca qY3 SY3)) [0, 1, 2, 3, 4, 5, 8, 9, 6, 7] rfl rfl
            refine lv_if_eq (tgt := 41) hx hb dX11_placeStatus_34 (by decide) (fun hc => ?_) (fun hc => ?_)
            · have hf := tc_pos hc hf
              refine lv_iconst (v := (4 : Int32)) hx hb dX11_placeStatus_41 (by decide) ?_
              obtain rfl := Option.some.inj hf
              exact tc_ri X hP hD hS rfl dX11_placeStatus_42 rfl rfl
            · have hf := tc_neg hc hf
              refine lv_iconst (v := (0 : Int32)) hx hb dX11_placeStatus_37 (by decide) ?_
              refine lv_goto (tgt := 42) hx hb dX11_placeStatus_38 (by decide) ?_
              obtain rfl := Option.some.inj hf
              exact tc_ri X hP hD hS rfl dX11_placeStatus_42 rfl rfl
          · have hf := tc_neg hc hf
            refine lv_iconst (v := (3 : Int32)) hx hb dX11_placeStatus_21 (by decide) ?_
            obtain rfl := Option.some.inj hf
            exact tc_ri X hP hD hS rfl dX11_placeStatus_22 rfl rfl
        · have hf := tc_neg hq2_2 hf
          by_cases hq2_3 : a1 = (3 : Int32)
          · have hf := tc_pos hq2_3 hf
            refine tc_ald (b := qY3 0) X hP 1 4 rfl rfl 3 (by rw [hq2_3]; decide) (by rw [hq2_3]; exact inb_vp (by decide)) rfl dX11_placeStatus_14 ?_
            obtain ⟨z9, hg, hf⟩ := tc_bi hf
            refine tc_iV (As := []) (rest := []) (b := qY3 0) (wc := w9 ca qY3 SY3) (wr := w11 ca qC (.ref (qA 0)) (rC4) (rC6) (rC7) (rC10) (rC11) (rC12) (rC14) (rC15) (rC17) (rC18) (rC19) SC ++ wLT ca qA (rf4 (qY0 0) (qY1 0) (qY2 0) (qY3 0)) ++ w9 ca qY0 SY0 ++ w9 ca qY1 SY1 ++ w9 ca qY2 SY2) X hP hD hS (mX9_isMissing hg) okX9_isMissing wl_X11_129 wi_X9_isMissing ws_X9_X9_isMissing_X9_isMissing ⟨rfl, rfl, Nat.le_of_ble_eq_true rfl, Nat.le_of_ble_eq_true rfl⟩ 9 0 rfl rfl [8, 9] [0, 1, 2, 3, 4, 5, 6, 7] ⟨rfl, rfl, rfl, rfl, by decide⟩ rfl hl.1 (Nat.le_of_ble_eq_true rfl) dX11_placeStatus_15 (fun H locs hP hD hS => ?_)
            have hP := hP.sub (ws' := (w11 ca qC (.ref (qA 0)) (rC4) (rC6) (rC7) (rC10) (rC11) (rC12) (rC14) (rC15) (rC17) (rC18) (rC19) SC ++ wLT ca qA (rf4 (qY0 0) (qY1 0) (qY2 0) (qY3 0)) ++ w9 ca qY0 SY0 ++ w9 ca qY1 SY1 ++ w9 ca qY2 SY2 ++ w9 ca qY3 SY3)) [0, 1, 2, 3, 4, 5, 6, 7, 8, 9] rfl
            have hD := hD.sub (ws' := (w11 ca qC (.ref (qA 0)) (rC4) (rC6) (rC7) (rC10) (rC11) (rC12) (rC14) (rC15) (rC17) (rC18) (rC19) SC ++ wLT ca qA (rf4 (qY0 0) (qY1 0) (qY2 0) (qY3 0)) ++ w9 ca qY0 SY0 ++ w9 ca qY1 SY1 ++ w9 ca qY2 SY2 ++ w9 ca qY3 SY3)) [0, 1, 2, 3, 4, 5, 6, 7, 8, 9] rfl rfl
            refine lv_if_eq (tgt := 23) hx hb dX11_placeStatus_18 (by decide) (fun hc => ?_) (fun hc => ?_)
            · have hf := tc_pos hc hf
              refine lv_aload_n hx hb dX11_placeStatus_23 rfl (lv_at hl 0 rfl) ?_
              refine va_get (D := (dC, dI)) (ci := 11) (v := .ref (qA 0)) (C := RX11) (T := TX11) (N := 20) hx hb hts i_X11 hown hK hP 0 rfl rfl 3 (by decide) (hts _ wf_X11_11) (fun _ h9 => h9) rfl dX11_placeStatus_24 ?_
              refine lv_iload_n hx hb dX11_placeStatus_27 rfl (lv_at hl 1 rfl) ?_
              refine tc_ald (b := qY3 0) X hP 1 4 rfl rfl 3 (by rw [hq2_3]; decide) (by rw [hq2_3]; exact inb_vp (by decide)) rfl dX11_placeStatus_28 ?_
              refine lv_iload_n hx hb dX11_placeStatus_29 rfl (lv_at hl 2 rfl) ?_
              refine lv_iconst (v := (1 : Int32)) hx hb dX11_placeStatus_30 (by decide) ?_
              obtain ⟨z10, hg, hf⟩ := tc_bi hf
              refine tc_iV (As := [.int (a2), .int ((1 : Int32))]) (rest := []) (b := qY3 0) (wc := w9 ca qY3 SY3) (wr := w11 ca qC (.ref (qA 0)) (rC4) (rC6) (rC7) (rC10) (rC11) (rC12) (rC14) (rC15) (rC17) (rC18) (rC19) SC ++ wLT ca qA (rf4 (qY0 0) (qY1 0) (qY2 0) (qY3 0)) ++ w9 ca qY0 SY0 ++ w9 ca qY1 SY1 ++ w9 ca qY2 SY2) X hP hD hS (mX9_holds hg) okX9_holds wl_X11_135 wi_X9_holds ws_X9_X9_holds_X9_holds ⟨rfl, rfl, Nat.le_of_ble_eq_true rfl, Nat.le_of_ble_eq_true rfl⟩ 9 0 rfl rfl [8, 9] [0, 1, 2, 3, 4, 5, 6, 7] ⟨rfl, rfl, rfl, rfl, by decide⟩ rfl hl.1 (Nat.le_of_ble_eq_true rfl) dX11_placeStatus_31 (fun H locs hP hD hS => ?_)
              have hP := hP.sub (ws' := (w11 ca qC (.ref (qA 0)) (rC4) (rC6) (rC7) (rC10) (rC11) (rC12) (rC14) (rC15) (rC17) (rC18) (rC19) SC ++ wLT ca qA (rf4 (qY0 0) (qY1 0) (qY2 0) (qY3 0)) ++ w9 ca qY0 SY0 ++ w9 ca qY1 SY1 ++ w9 ca qY2 SY2 ++ w9 ca qY3 SY3)) [0, 1, 2, 3, 4, 5, 6, 7, 8, 9] rfl
              have hD := hD.sub (ws' := (w11 ca qC (.ref (qA 0)) (rC4) (rC6) (rC7) (rC10) (rC11) (rC12) (rC14) (rC15) (rC17) (rC18) (rC19) SC ++ wLT ca qA (rf4 (qY0 0) (qY1 0) (qY2 0) (qY3 0)) ++ w9 ca qY0 SY0 ++ w9 ca qY1 SY1 ++ w9 ca qY2 SY2 ++ w9 ca qY3 SY3)) [0, 1, 2, 3, 4, 5, 6, 7, 8, 9] rfl rfl
              refine lv_if_eq (tgt := 41) hx hb dX11_placeStatus_34 (by decide) (fun hc => ?_) (fun hc => ?_)
              · have hf := tc_pos hc hf
                refine lv_iconst (v := (4 : Int32)) hx hb dX11_placeStatus_41 (by decide) ?_
                obtain rfl := Option.some.inj hf
                exact tc_ri X hP hD hS rfl dX11_placeStatus_42 rfl rfl
              · have hf := tc_neg hc hf
                refine lv_iconst (v := (0 : Int32)) hx hb dX11_placeStatus_37 (by decide) ?_
                refine lv_goto (tgt := 42) hx hb dX11_placeStatus_38 (by decide) ?_
                obtain rfl := Option.some.inj hf
                exact tc_ri X hP hD hS rfl dX11_placeStatus_42 rfl rfl
            · have hf := tc_neg hc hf
              refine lv_iconst (v := (3 : Int32)) hx hb dX11_placeStatus_21 (by decide) ?_
              obtain rfl := Option.some.inj hf
              exact tc_ri X hP hD hS rfl dX11_placeStatus_22 rfl rfl
          · have hf := tc_neg hq2_3 hf
            cases hf
  · have hf := tc_pos hc hf
    refine lv_iconst (v := (1 : Int32)) hx hb dX11_placeStatus_7 (by decide) ?_
    obtain rfl := Option.some.inj hf
    exact tc_ri X hP hD hS rfl dX11_placeStatus_8 rfl rfl
def fX11_write  (SC : ms_T) (SY0 : ms_T) (SY1 : ms_T) (SY2 : ms_T) (SY3 : ms_T) (a1 : Int32) (a2 : Int32) (a3 : Int64) : Option (Int32 × ms_T × ms_T × ms_T × ms_T × ms_T) :=
  (fX11_placeStatus SC SY0 SY1 SY2 SY3 a1 a2).bind fun z1 =>
  if z1 = 0 then
    if a1 = (0 : Int32) then
      (fX9_put SY0 a2 a3).bind fun z3 =>
      (fX11_grant SC).bind fun z4 =>
      if z4.1 &&& 1 = z4.1 then
        some (z4.1, z4.2, z3, SY1, SY2, SY3)
      else none
    else
      if a1 = (1 : Int32) then
        (fX9_put SY1 a2 a3).bind fun z5 =>
        (fX11_grant SC).bind fun z6 =>
        if z6.1 &&& 1 = z6.1 then
          some (z6.1, z6.2, SY0, z5, SY2, SY3)
        else none
      else
        if a1 = (2 : Int32) then
          (fX9_put SY2 a2 a3).bind fun z7 =>
          (fX11_grant SC).bind fun z8 =>
          if z8.1 &&& 1 = z8.1 then
            some (z8.1, z8.2, SY0, SY1, z7, SY3)
          else none
        else
          if a1 = (3 : Int32) then
            (fX9_put SY3 a2 a3).bind fun z9 =>
            (fX11_grant SC).bind fun z10 =>
            if z10.1 &&& 1 = z10.1 then
              some (z10.1, z10.2, SY0, SY1, SY2, z9)
            else none
          else
            none
  else
    (fX11_deny SC z1).bind fun z11 =>
    if z11.1 &&& 1 = z11.1 then
      some (z11.1, z11.2, SY0, SY1, SY2, SY3)
    else none
abbrev rmX11_write : Room := { frames := 2, cells := 0, slots := 0, locals := 44 }
theorem okX11_write : tc_ok yX11_write cX11_write 6 (some .boolean) 3 := ⟨wc_X11_write, wn_X11, by decide, by decide, by decide +kernel⟩
set_option maxRecDepth 20000 in
theorem mX11_write {qC : Nat → Nat} {qA : Nat → Nat} {qY0 : Nat → Nat} {qY1 : Nat → Nat} {qY2 : Nat → Nat} {qY3 : Nat → Nat} {rC4 : Value} {rC6 : Value} {rC7 : Value} {rC10 : Value} {rC11 : Value} {rC12 : Value} {rC14 : Value} {rC15 : Value} {rC17 : Value} {rC18 : Value} {rC19 : Value} {SC : ms_T} {SY0 : ms_T} {SY1 : ms_T} {SY2 : ms_T} {SY3 : ms_T} {a1 : Int32} {a2 : Int32} {a3 : Int64} {z : Int32 × ms_T × ms_T × ms_T × ms_T × ms_T}  (hf : fX11_write SC SY0 SY1 SY2 SY3 a1 a2 a3 = some z) : tc_MI l dC dI ca yX11_write cX11_write 6 (some .boolean) rmX11_write [.ref (qC 0), .int (a1), .int (a2), .long (a3)] (w11 ca qC (.ref (qA 0)) (rC4) (rC6) (rC7) (rC10) (rC11) (rC12) (rC14) (rC15) (rC17) (rC18) (rC19) SC ++ wLT ca qA (rf4 (qY0 0) (qY1 0) (qY2 0) (qY3 0)) ++ w9 ca qY0 SY0 ++ w9 ca qY1 SY1 ++ w9 ca qY2 SY2 ++ w9 ca qY3 SY3) (w11 ca qC (.ref (qA 0)) (rC4) (rC6) (rC7) (rC10) (rC11) (rC12) (rC14) (rC15) (rC17) (rC18) (rC19) z.2.1 ++ wLT ca qA (rf4 (qY0 0) (qY1 0) (qY2 0) (qY3 0)) ++ w9 ca qY0 z.2.2.1 ++ w9 ca qY1 z.2.2.2.1 ++ w9 ca qY2 z.2.2.2.2.1 ++ w9 ca qY3 z.2.2.2.2.2) (z.1) := by
  refine tc_metI (own := RX11) (by decide) rfl ?_ (Nat.le_of_ble_eq_true rfl)
  intro p e s m below meth c A X hP hD hS ls hl
  obtain ⟨hx, hb, hr, hml, hown, hts, hlk, hK, hA, hG⟩ := id X
  unfold fX11_write at hf
  have hl : lv_has ls 6 [(0, .ref (qC 0)), (1, .int (a1)), (2, .int (a2)), (3, .long (a3))] := hl
  refine lv_aload_n hx hb dX11_write_0 rfl (lv_at hl 0 rfl) ?_
  refine lv_iload_n hx hb dX11_write_1 rfl (lv_at hl 1 rfl) ?_
  refine lv_iload_n hx hb dX11_write_2 rfl (lv_at hl 2 rfl) ?_
  obtain ⟨z1, hg, hf⟩ := tc_bi hf
  refine tc_iVs (As := [.int (a1), .int (a2)]) (rest := []) (b := qC 0) X hP hD hS (mX11_placeStatus hg) okX11_placeStatus wl_X11_113 wi_X11_placeStatus ws_X11_X11_placeStatus_X11_placeStatus ⟨rfl, rfl, Nat.le_of_ble_eq_true rfl, Nat.le_of_ble_eq_true rfl⟩ 11 0 rfl rfl rfl hl.1 (Nat.le_of_ble_eq_true rfl) dX11_write_3 (fun H locs hP hD hS => ?_)
  refine lv_istore (lv' := [(5, .int (z1)), (0, .ref (qC 0)), (1, .int (a1)), (2, .int (a2)), (3, .long (a3))]) hx hb dX11_write_6 hl (by decide) rfl (fun ls hl => ?_)
  refine lv_iload hx hb dX11_write_8 (lv_at hl 0 rfl) ?_
  refine lv_if_eq (tgt := 20) hx hb dX11_write_10 (by decide) (fun hc => ?_) (fun hc => ?_)
  · have hf := tc_pos hc hf
    refine lv_aload_n hx hb dX11_write_20 rfl (lv_at hl 1 rfl) ?_
    refine va_get (D := (dC, dI)) (ci := 11) (v := .ref (qA 0)) (C := RX11) (T := TX11) (N := 20) hx hb hts i_X11 hown hK hP 0 rfl rfl 3 (by decide) (hts _ wf_X11_11) (fun _ h9 => h9) rfl dX11_write_21 ?_
    refine lv_iload_n hx hb dX11_write_24 rfl (lv_at hl 2 rfl) ?_
    by_cases hq2_0 : a1 = (0 : Int32)
    · have hf := tc_pos hq2_0 hf
      refine tc_ald (b := qY0 0) X hP 1 4 rfl rfl 0 (by rw [hq2_0]; decide) (by rw [hq2_0]; exact inb_vp (by decide)) rfl dX11_write_25 ?_
      refine lv_iload_n hx hb dX11_write_26 rfl (lv_at hl 3 rfl) ?_
      refine lv_lload_n hx hb dX11_write_27 rfl (lv_at hl 4 rfl) ?_
      obtain ⟨z3, hg, hf⟩ := tc_bi hf
      refine tc_vV (As := [.int (a2), .long (a3)]) (rest := []) (b := qY0 0) (wc := w9 ca qY0 SY0) (wr := w11 ca qC (.ref (qA 0)) (rC4) (rC6) (rC7) (rC10) (rC11) (rC12) (rC14) (rC15) (rC17) (rC18) (rC19) SC ++ wLT ca qA (rf4 (qY0 0) (qY1 0) (qY2 0) (qY3 0)) ++ w9 ca qY1 SY1 ++ w9 ca qY2 SY2 ++ w9 ca qY3 SY3) X hP hD hS (mX9_put hg) okX9_put wl_X11_117 wi_X9_put ws_X9_X9_put_X9_put ⟨rfl, rfl, Nat.le_of_ble_eq_true rfl, Nat.le_of_ble_eq_true rfl⟩ 9 0 rfl rfl [2, 3] [0, 1, 4, 5, 6, 7, 8, 9] ⟨rfl, rfl, rfl, rfl, by decide⟩ rfl hl.1 (Nat.le_of_ble_eq_true rfl) dX11_write_28 (fun H locs hP hD hS => ?_)
      have hP := hP.sub (ws' := (w11 ca qC (.ref (qA 0)) (rC4) (rC6) (rC7) (rC10) (rC11) (rC12) (rC14) (rC15) (rC17) (rC18) (rC19) SC ++ wLT ca qA (rf4 (qY0 0) (qY1 0) (qY2 0) (qY3 0)) ++ w9 ca qY0 z3 ++ w9 ca qY1 SY1 ++ w9 ca qY2 SY2 ++ w9 ca qY3 SY3)) [0, 1, 8, 9, 2, 3, 4, 5, 6, 7] rfl
      have hD := hD.sub (ws' := (w11 ca qC (.ref (qA 0)) (rC4) (rC6) (rC7) (rC10) (rC11) (rC12) (rC14) (rC15) (rC17) (rC18) (rC19) SC ++ wLT ca qA (rf4 (qY0 0) (qY1 0) (qY2 0) (qY3 0)) ++ w9 ca qY0 z3 ++ w9 ca qY1 SY1 ++ w9 ca qY2 SY2 ++ w9 ca qY3 SY3)) [0, 1, 8, 9, 2, 3, 4, 5, 6, 7] rfl rfl
      refine lv_aload_n hx hb dX11_write_31 rfl (lv_at hl 1 rfl) ?_
      obtain ⟨z4, hg, hf⟩ := tc_bi hf
      refine tc_iV (As := []) (rest := []) (b := qC 0) (wc := w11 ca qC (.ref (qA 0)) (rC4) (rC6) (rC7) (rC10) (rC11) (rC12) (rC14) (rC15) (rC17) (rC18) (rC19) SC) (wr := wLT ca qA (rf4 (qY0 0) (qY1 0) (qY2 0) (qY3 0)) ++ w9 ca qY0 z3 ++ w9 ca qY1 SY1 ++ w9 ca qY2 SY2 ++ w9 ca qY3 SY3) X hP hD hS (mX11_grant hg) okX11_grant wl_X11_109 wi_X11_grant ws_X11_X11_grant_X11_grant ⟨rfl, rfl, Nat.le_of_ble_eq_true rfl, Nat.le_of_ble_eq_true rfl⟩ 11 0 rfl rfl [0] [1, 2, 3, 4, 5, 6, 7, 8, 9] ⟨rfl, rfl, rfl, rfl, by decide⟩ rfl hl.1 (Nat.le_of_ble_eq_true rfl) dX11_write_32 (fun H locs hP hD hS => ?_)
      have hP := hP.sub (ws' := (w11 ca qC (.ref (qA 0)) (rC4) (rC6) (rC7) (rC10) (rC11) (rC12) (rC14) (rC15) (rC17) (rC18) (rC19) z4.2 ++ wLT ca qA (rf4 (qY0 0) (qY1 0) (qY2 0) (qY3 0)) ++ w9 ca qY0 z3 ++ w9 ca qY1 SY1 ++ w9 ca qY2 SY2 ++ w9 ca qY3 SY3)) [9, 0, 1, 2, 3, 4, 5, 6, 7, 8] rfl
      have hD := hD.sub (ws' := (w11 ca qC (.ref (qA 0)) (rC4) (rC6) (rC7) (rC10) (rC11) (rC12) (rC14) (rC15) (rC17) (rC18) (rC19) z4.2 ++ wLT ca qA (rf4 (qY0 0) (qY1 0) (qY2 0) (qY3 0)) ++ w9 ca qY0 z3 ++ w9 ca qY1 SY1 ++ w9 ca qY2 SY2 ++ w9 ca qY3 SY3)) [9, 0, 1, 2, 3, 4, 5, 6, 7, 8] rfl rfl
      obtain ⟨hz1, hf⟩ := tc_ck hf
      obtain rfl := Option.some.inj hf
      exact tc_rz X hP hD hS rfl dX11_write_35 hz1 rfl rfl
    · have hf := tc_neg hq2_0 hf
      by_cases hq2_1 : a1 = (1 : Int32)
      · have hf := tc_pos hq2_1 hf
        refine tc_ald (b := qY1 0) X hP 1 4 rfl rfl 1 (by rw [hq2_1]; decide) (by rw [hq2_1]; exact inb_vp (by decide)) rfl dX11_write_25 ?_
        refine lv_iload_n hx hb dX11_write_26 rfl (lv_at hl 3 rfl) ?_
        refine lv_lload_n hx hb dX11_write_27 rfl (lv_at hl 4 rfl) ?_
        obtain ⟨z5, hg, hf⟩ := tc_bi hf
        refine tc_vV (As := [.int (a2), .long (a3)]) (rest := []) (b := qY1 0) (wc := w9 ca qY1 SY1) (wr := w11 ca qC (.ref (qA 0)) (rC4) (rC6) (rC7) (rC10) (rC11) (rC12) (rC14) (rC15) (rC17) (rC18) (rC19) SC ++ wLT ca qA (rf4 (qY0 0) (qY1 0) (qY2 0) (qY3 0)) ++ w9 ca qY0 SY0 ++ w9 ca qY2 SY2 ++ w9 ca qY3 SY3) X hP hD hS (mX9_put hg) okX9_put wl_X11_117 wi_X9_put ws_X9_X9_put_X9_put ⟨rfl, rfl, Nat.le_of_ble_eq_true rfl, Nat.le_of_ble_eq_true rfl⟩ 9 0 rfl rfl [4, 5] [0, 1, 2, 3, 6, 7, 8, 9] ⟨rfl, rfl, rfl, rfl, by decide⟩ rfl hl.1 (Nat.le_of_ble_eq_true rfl) dX11_write_28 (fun H locs hP hD hS => ?_)
        have hP := hP.sub (ws' := (w11 ca qC (.ref (qA 0)) (rC4) (rC6) (rC7) (rC10) (rC11) (rC12) (rC14) (rC15) (rC17) (rC18) (rC19) SC ++ wLT ca qA (rf4 (qY0 0) (qY1 0) (qY2 0) (qY3 0)) ++ w9 ca qY0 SY0 ++ w9 ca qY1 z5 ++ w9 ca qY2 SY2 ++ w9 ca qY3 SY3)) [0, 1, 2, 3, 8, 9, 4, 5, 6, 7] rfl
        have hD := hD.sub (ws' := (w11 ca qC (.ref (qA 0)) (rC4) (rC6) (rC7) (rC10) (rC11) (rC12) (rC14) (rC15) (rC17) (rC18) (rC19) SC ++ wLT ca qA (rf4 (qY0 0) (qY1 0) (qY2 0) (qY3 0)) ++ w9 ca qY0 SY0 ++ w9 ca qY1 z5 ++ w9 ca qY2 SY2 ++ w9 ca qY3 SY3)) [0, 1, 2, 3, 8, 9, 4, 5, 6, 7] rfl rfl
        refine lv_aload_n hx hb dX11_write_31 rfl (lv_at hl 1 rfl) ?_
        obtain ⟨z6, hg, hf⟩ := tc_bi hf
        refine tc_iV (As := []) (rest := []) (b := qC 0) (wc := w11 ca qC (.ref (qA 0)) (rC4) (rC6) (rC7) (rC10) (rC11) (rC12) (rC14) (rC15) (rC17) (rC18) (rC19) SC) (wr := wLT ca qA (rf4 (qY0 0) (qY1 0) (qY2 0) (qY3 0)) ++ w9 ca qY0 SY0 ++ w9 ca qY1 z5 ++ w9 ca qY2 SY2 ++ w9 ca qY3 SY3) X hP hD hS (mX11_grant hg) okX11_grant wl_X11_109 wi_X11_grant ws_X11_X11_grant_X11_grant ⟨rfl, rfl, Nat.le_of_ble_eq_true rfl, Nat.le_of_ble_eq_true rfl⟩ 11 0 rfl rfl [0] [1, 2, 3, 4, 5, 6, 7, 8, 9] ⟨rfl, rfl, rfl, rfl, by decide⟩ rfl hl.1 (Nat.le_of_ble_eq_true rfl) dX11_write_32 (fun H locs hP hD hS => ?_)
        have hP := hP.sub (ws' := (w11 ca qC (.ref (qA 0)) (rC4) (rC6) (rC7) (rC10) (rC11) (rC12) (rC14) (rC15) (rC17) (rC18) (rC19) z6.2 ++ wLT ca qA (rf4 (qY0 0) (qY1 0) (qY2 0) (qY3 0)) ++ w9 ca qY0 SY0 ++ w9 ca qY1 z5 ++ w9 ca qY2 SY2 ++ w9 ca qY3 SY3)) [9, 0, 1, 2, 3, 4, 5, 6, 7, 8] rfl
        have hD := hD.sub (ws' := (w11 ca qC (.ref (qA 0)) (rC4) (rC6) (rC7) (rC10) (rC11) (rC12) (rC14) (rC15) (rC17) (rC18) (rC19) z6.2 ++ wLT ca qA (rf4 (qY0 0) (qY1 0) (qY2 0) (qY3 0)) ++ w9 ca qY0 SY0 ++ w9 ca qY1 z5 ++ w9 ca qY2 SY2 ++ w9 ca qY3 SY3)) [9, 0, 1, 2, 3, 4, 5, 6, 7, 8] rfl rfl
        obtain ⟨hz1, hf⟩ := tc_ck hf
        obtain rfl := Option.some.inj hf
        exact tc_rz X hP hD hS rfl dX11_write_35 hz1 rfl rfl
      · have hf := tc_neg hq2_1 hf
        by_cases hq2_2 : a1 = (2 : Int32)
        · have hf := tc_pos hq2_2 hf
          refine tc_ald (b := qY2 0) X hP 1 4 rfl rfl 2 (by rw [hq2_2]; decide) (by rw [hq2_2]; exact inb_vp (by decide)) rfl dX11_write_25 ?_
          refine lv_iload_n hx hb dX11_write_26 rfl (lv_at hl 3 rfl) ?_
          refine lv_lload_n hx hb dX11_write_27 rfl (lv_at hl 4 rfl) ?_
          obtain ⟨z7, hg, hf⟩ := tc_bi hf
          refine tc_vV (As := [.int (a2), .long (a3)]) (rest := []) (b := qY2 0) (wc := w9 ca qY2 SY2) (wr := w11 ca qC (.ref (qA 0)) (rC4) (rC6) (rC7) (rC10) (rC11) (rC12) (rC14) (rC15) (rC17) (rC18) (rC19) SC ++ wLT ca qA (rf4 (qY0 0) (qY1 0) (qY2 0) (qY3 0)) ++ w9 ca qY0 SY0 ++ w9 ca qY1 SY1 ++ w9 ca qY3 SY3) X hP hD hS (mX9_put hg) okX9_put wl_X11_117 wi_X9_put ws_X9_X9_put_X9_put ⟨rfl, rfl, Nat.le_of_ble_eq_true rfl, Nat.le_of_ble_eq_true rfl⟩ 9 0 rfl rfl [6, 7] [0, 1, 2, 3, 4, 5, 8, 9] ⟨rfl, rfl, rfl, rfl, by decide⟩ rfl hl.1 (Nat.le_of_ble_eq_true rfl) dX11_write_28 (fun H locs hP hD hS => ?_)
          have hP := hP.sub (ws' := (w11 ca qC (.ref (qA 0)) (rC4) (rC6) (rC7) (rC10) (rC11) (rC12) (rC14) (rC15) (rC17) (rC18) (rC19) SC ++ wLT ca qA (rf4 (qY0 0) (qY1 0) (qY2 0) (qY3 0)) ++ w9 ca qY0 SY0 ++ w9 ca qY1 SY1 ++ w9 ca qY2 z7 ++ w9 ca qY3 SY3)) [0, 1, 2, 3, 4, 5, 8, 9, 6, 7] rfl
          have hD := hD.sub (ws' := (w11 ca qC (.ref (qA 0)) (rC4) (rC6) (rC7) (rC10) (rC11) (rC12) (rC14) (rC15) (rC17) (rC18) (rC19) SC ++ wLT ca qA (rf4 (qY0 0) (qY1 0) (qY2 0) (qY3 0)) ++ w9 ca qY0 SY0 ++ w9 ca qY1 SY1 ++ w9 ca qY2 z7 ++ w9 ca qY3 SY3)) [0, 1, 2, 3, 4, 5, 8, 9, 6, 7] rfl rfl
          refine lv_aload_n hx hb dX11_write_31 rfl (lv_at hl 1 rfl) ?_
          obtain ⟨z8, hg, hf⟩ := tc_bi hf
          refine tc_iV (As := []) (rest := []) (b := qC 0) (wc := w11 ca qC (.ref (qA 0)) (rC4) (rC6) (rC7) (rC10) (rC11) (rC12) (rC14) (rC15) (rC17) (rC18) (rC19) SC) (wr := wLT ca qA (rf4 (qY0 0) (qY1 0) (qY2 0) (qY3 0)) ++ w9 ca qY0 SY0 ++ w9 ca qY1 SY1 ++ w9 ca qY2 z7 ++ w9 ca qY3 SY3) X hP hD hS (mX11_grant hg) okX11_grant wl_X11_109 wi_X11_grant ws_X11_X11_grant_X11_grant ⟨rfl, rfl, Nat.le_of_ble_eq_true rfl, Nat.le_of_ble_eq_true rfl⟩ 11 0 rfl rfl [0] [1, 2, 3, 4, 5, 6, 7, 8, 9] ⟨rfl, rfl, rfl, rfl, by decide⟩ rfl hl.1 (Nat.le_of_ble_eq_true rfl) dX11_write_32 (fun H locs hP hD hS => ?_)
          have hP := hP.sub (ws' := (w11 ca qC (.ref (qA 0)) (rC4) (rC6) (rC7) (rC10) (rC11) (rC12) (rC14) (rC15) (rC17) (rC18) (rC19) z8.2 ++ wLT ca qA (rf4 (qY0 0) (qY1 0) (qY2 0) (qY3 0)) ++ w9 ca qY0 SY0 ++ w9 ca qY1 SY1 ++ w9 ca qY2 z7 ++ w9 ca qY3 SY3)) [9, 0, 1, 2, 3, 4, 5, 6, 7, 8] rfl
          have hD := hD.sub (ws' := (w11 ca qC (.ref (qA 0)) (rC4) (rC6) (rC7) (rC10) (rC11) (rC12) (rC14) (rC15) (rC17) (rC18) (rC19) z8.2 ++ wLT ca qA (rf4 (qY0 0) (qY1 0) (qY2 0) (qY3 0)) ++ w9 ca qY0 SY0 ++ w9 ca qY1 SY1 ++ w9 ca qY2 z7 ++ w9 ca qY3 SY3)) [9, 0, 1, 2, 3, 4, 5, 6, 7, 8] rfl rfl
          obtain ⟨hz1, hf⟩ := tc_ck hf
          obtain rfl := Option.some.inj hf
          exact tc_rz X hP hD hS rfl dX11_write_35 hz1 rfl rfl
        · have hf := tc_neg hq2_2 hf
          by_cases hq2_3 : a1 = (3 : Int32)
          · have hf := tc_pos hq2_3 hf
            refine tc_ald (b := qY3 0) X hP 1 4 rfl rfl 3 (by rw [hq2_3]; decide) (by rw [hq2_3]; exact inb_vp (by decide)) rfl dX11_write_25 ?_
            refine lv_iload_n hx hb dX11_write_26 rfl (lv_at hl 3 rfl) ?_
            refine lv_lload_n hx hb dX11_write_27 rfl (lv_at hl 4 rfl) ?_
            obtain ⟨z9, hg, hf⟩ := tc_bi hf
            refine tc_vV (As := [.int (a2), .long (a3)]) (rest := []) (b := qY3 0) (wc := w9 ca qY3 SY3) (wr := w11 ca qC (.ref (qA 0)) (rC4) (rC6) (rC7) (rC10) (rC11) (rC12) (rC14) (rC15) (rC17) (rC18) (rC19) SC ++ wLT ca qA (rf4 (qY0 0) (qY1 0) (qY2 0) (qY3 0)) ++ w9 ca qY0 SY0 ++ w9 ca qY1 SY1 ++ w9 ca qY2 SY2) X hP hD hS (mX9_put hg) okX9_put wl_X11_117 wi_X9_put ws_X9_X9_put_X9_put ⟨rfl, rfl, Nat.le_of_ble_eq_true rfl, Nat.le_of_ble_eq_true rfl⟩ 9 0 rfl rfl [8, 9] [0, 1, 2, 3, 4, 5, 6, 7] ⟨rfl, rfl, rfl, rfl, by decide⟩ rfl hl.1 (Nat.le_of_ble_eq_true rfl) dX11_write_28 (fun H locs hP hD hS => ?_)
            have hP := hP.sub (ws' := (w11 ca qC (.ref (qA 0)) (rC4) (rC6) (rC7) (rC10) (rC11) (rC12) (rC14) (rC15) (rC17) (rC18) (rC19) SC ++ wLT ca qA (rf4 (qY0 0) (qY1 0) (qY2 0) (qY3 0)) ++ w9 ca qY0 SY0 ++ w9 ca qY1 SY1 ++ w9 ca qY2 SY2 ++ w9 ca qY3 z9)) [0, 1, 2, 3, 4, 5, 6, 7, 8, 9] rfl
            have hD := hD.sub (ws' := (w11 ca qC (.ref (qA 0)) (rC4) (rC6) (rC7) (rC10) (rC11) (rC12) (rC14) (rC15) (rC17) (rC18) (rC19) SC ++ wLT ca qA (rf4 (qY0 0) (qY1 0) (qY2 0) (qY3 0)) ++ w9 ca qY0 SY0 ++ w9 ca qY1 SY1 ++ w9 ca qY2 SY2 ++ w9 ca qY3 z9)) [0, 1, 2, 3, 4, 5, 6, 7, 8, 9] rfl rfl
            refine lv_aload_n hx hb dX11_write_31 rfl (lv_at hl 1 rfl) ?_
            obtain ⟨z10, hg, hf⟩ := tc_bi hf
            refine tc_iV (As := []) (rest := []) (b := qC 0) (wc := w11 ca qC (.ref (qA 0)) (rC4) (rC6) (rC7) (rC10) (rC11) (rC12) (rC14) (rC15) (rC17) (rC18) (rC19) SC) (wr := wLT ca qA (rf4 (qY0 0) (qY1 0) (qY2 0) (qY3 0)) ++ w9 ca qY0 SY0 ++ w9 ca qY1 SY1 ++ w9 ca qY2 SY2 ++ w9 ca qY3 z9) X hP hD hS (mX11_grant hg) okX11_grant wl_X11_109 wi_X11_grant ws_X11_X11_grant_X11_grant ⟨rfl, rfl, Nat.le_of_ble_eq_true rfl, Nat.le_of_ble_eq_true rfl⟩ 11 0 rfl rfl [0] [1, 2, 3, 4, 5, 6, 7, 8, 9] ⟨rfl, rfl, rfl, rfl, by decide⟩ rfl hl.1 (Nat.le_of_ble_eq_true rfl) dX11_write_32 (fun H locs hP hD hS => ?_)
            have hP := hP.sub (ws' := (w11 ca qC (.ref (qA 0)) (rC4) (rC6) (rC7) (rC10) (rC11) (rC12) (rC14) (rC15) (rC17) (rC18) (rC19) z10.2 ++ wLT ca qA (rf4 (qY0 0) (qY1 0) (qY2 0) (qY3 0)) ++ w9 ca qY0 SY0 ++ w9 ca qY1 SY1 ++ w9 ca qY2 SY2 ++ w9 ca qY3 z9)) [9, 0, 1, 2, 3, 4, 5, 6, 7, 8] rfl
            have hD := hD.sub (ws' := (w11 ca qC (.ref (qA 0)) (rC4) (rC6) (rC7) (rC10) (rC11) (rC12) (rC14) (rC15) (rC17) (rC18) (rC19) z10.2 ++ wLT ca qA (rf4 (qY0 0) (qY1 0) (qY2 0) (qY3 0)) ++ w9 ca qY0 SY0 ++ w9 ca qY1 SY1 ++ w9 ca qY2 SY2 ++ w9 ca qY3 z9)) [9, 0, 1, 2, 3, 4, 5, 6, 7, 8] rfl rfl
            obtain ⟨hz1, hf⟩ := tc_ck hf
            obtain rfl := Option.some.inj hf
            exact tc_rz X hP hD hS rfl dX11_write_35 hz1 rfl rfl
          · have hf := tc_neg hq2_3 hf
            cases hf
  · have hf := tc_neg hc hf
    refine lv_aload_n hx hb dX11_write_13 rfl (lv_at hl 1 rfl) ?_
    refine lv_iload hx hb dX11_write_14 (lv_at hl 0 rfl) ?_
    obtain ⟨z11, hg, hf⟩ := tc_bi hf
    refine tc_iV (As := [.int (z1)]) (rest := []) (b := qC 0) (wc := w11 ca qC (.ref (qA 0)) (rC4) (rC6) (rC7) (rC10) (rC11) (rC12) (rC14) (rC15) (rC17) (rC18) (rC19) SC) (wr := wLT ca qA (rf4 (qY0 0) (qY1 0) (qY2 0) (qY3 0)) ++ w9 ca qY0 SY0 ++ w9 ca qY1 SY1 ++ w9 ca qY2 SY2 ++ w9 ca qY3 SY3) X hP hD hS (mX11_deny hg) okX11_deny wl_X11_102 wi_X11_deny ws_X11_X11_deny_X11_deny ⟨rfl, rfl, Nat.le_of_ble_eq_true rfl, Nat.le_of_ble_eq_true rfl⟩ 11 0 rfl rfl [0] [1, 2, 3, 4, 5, 6, 7, 8, 9] ⟨rfl, rfl, rfl, rfl, by decide⟩ rfl hl.1 (Nat.le_of_ble_eq_true rfl) dX11_write_16 (fun H locs hP hD hS => ?_)
    have hP := hP.sub (ws' := (w11 ca qC (.ref (qA 0)) (rC4) (rC6) (rC7) (rC10) (rC11) (rC12) (rC14) (rC15) (rC17) (rC18) (rC19) z11.2 ++ wLT ca qA (rf4 (qY0 0) (qY1 0) (qY2 0) (qY3 0)) ++ w9 ca qY0 SY0 ++ w9 ca qY1 SY1 ++ w9 ca qY2 SY2 ++ w9 ca qY3 SY3)) [9, 0, 1, 2, 3, 4, 5, 6, 7, 8] rfl
    have hD := hD.sub (ws' := (w11 ca qC (.ref (qA 0)) (rC4) (rC6) (rC7) (rC10) (rC11) (rC12) (rC14) (rC15) (rC17) (rC18) (rC19) z11.2 ++ wLT ca qA (rf4 (qY0 0) (qY1 0) (qY2 0) (qY3 0)) ++ w9 ca qY0 SY0 ++ w9 ca qY1 SY1 ++ w9 ca qY2 SY2 ++ w9 ca qY3 SY3)) [9, 0, 1, 2, 3, 4, 5, 6, 7, 8] rfl rfl
    obtain ⟨hz1, hf⟩ := tc_ck hf
    obtain rfl := Option.some.inj hf
    exact tc_rz X hP hD hS rfl dX11_write_19 hz1 rfl rfl
def fX11_refuse  (S : ms_T) (a1 : Int32) : Option (Int32 × ms_T) :=
  some ((-1 : Int32), si S 0 a1)
abbrev rmX11_refuse : Room := { frames := 0, cells := 0, slots := 0, locals := 0 }
theorem okX11_refuse : tc_ok yX11_refuse cX11_refuse 2 (some .int) 1 := ⟨wc_X11_refuse, wn_X11, by decide, by decide, by decide +kernel⟩
set_option maxRecDepth 20000 in
theorem mX11_refuse {q : Nat → Nat} {rC3 : Value} {rC4 : Value} {rC6 : Value} {rC7 : Value} {rC10 : Value} {rC11 : Value} {rC12 : Value} {rC14 : Value} {rC15 : Value} {rC17 : Value} {rC18 : Value} {rC19 : Value} {S : ms_T} {a1 : Int32} {z : Int32 × ms_T}  (hf : fX11_refuse S a1 = some z) : tc_MI l dC dI ca yX11_refuse cX11_refuse 2 (some .int) rmX11_refuse [.ref (q 0), .int (a1)] (w11 ca q (rC3) (rC4) (rC6) (rC7) (rC10) (rC11) (rC12) (rC14) (rC15) (rC17) (rC18) (rC19) S) (w11 ca q (rC3) (rC4) (rC6) (rC7) (rC10) (rC11) (rC12) (rC14) (rC15) (rC17) (rC18) (rC19) z.2) (z.1) := by
  refine tc_metI (own := RX11) (by decide) rfl ?_ (Nat.le_of_ble_eq_true rfl)
  intro p e s m below meth c A X hP hD hS ls hl
  obtain ⟨hx, hb, hr, hml, hown, hts, hlk, hK, hA, hG⟩ := id X
  unfold fX11_refuse at hf
  have hl : lv_has ls 2 [(0, .ref (q 0)), (1, .int (a1))] := hl
  refine lv_aload_n hx hb dX11_refuse_0 rfl (lv_at hl 0 rfl) ?_
  refine lv_iload_n hx hb dX11_refuse_1 rfl (lv_at hl 1 rfl) ?_
  refine va_put (D := (dC, dI)) (ci := 11) (v := .int (a1)) (ty := .int) (C := RX11) (T := TX11) (N := 20) hx hb hts i_X11 tyX11 tyX11_ok nmX11 hown hK hP hD hS 0 rfl rfl 0 (by decide) (hts _ wf_X11_92) (fun _ h9 => h9) rfl (tyX11_ok 0 (by decide)) rfl rfl (Nat.le_of_ble_eq_true rfl) dX11_refuse_2 (fun H locs hP hD hS => ?_)
  have hP := tc_eP (pw11_0_0 ca q (rC3) (rC4) (rC6) (rC7) (rC10) (rC11) (rC12) (rC14) (rC15) (rC17) (rC18) (rC19) S a1) hP
  have hD := tc_eD (pw11_0_0 ca q (rC3) (rC4) (rC6) (rC7) (rC10) (rC11) (rC12) (rC14) (rC15) (rC17) (rC18) (rC19) S a1) hD
  refine lv_iconst (v := (-1 : Int32)) hx hb dX11_refuse_5 (by decide) ?_
  obtain rfl := Option.some.inj hf
  exact tc_ri X hP hD hS rfl dX11_refuse_6 rfl rfl
theorem pwm22_0_0 (ca : Nat → ClassId) (q0 q1 q2 q3 q4 q5 : Nat → Nat) (r1_0 : Nat → Option Nat) (r0_3 r0_4 r0_6 r0_7 r0_10 r0_11 r0_12 r0_14 r0_15 r0_17 r0_18 r0_19 : Value) (S0 S2 S3 S4 S5 : ms_T) (v : Int32) : (w11 ca q0 r0_3 r0_4 r0_6 r0_7 r0_10 r0_11 r0_12 r0_14 r0_15 r0_17 r0_18 r0_19 S0 ++ wLT ca q1 r1_0 ++ w9 ca q2 S2 ++ w9 ca q3 S3 ++ w9 ca q4 S4 ++ w9 ca q5 S5 : va_W).set 0 (q0 0, .inr (11, List.set (.int (gi S0 0) :: .long (gl S0 1) :: .long (gl S0 2) :: r0_3 :: r0_4 :: .int (gi S0 5) :: r0_6 :: r0_7 :: .int (gi S0 8) :: .int (gi S0 9) :: r0_10 :: r0_11 :: r0_12 :: .int (gi S0 13) :: r0_14 :: r0_15 :: .int (gi S0 16) :: r0_17 :: r0_18 :: r0_19 :: []) 0 (.int v))) = w11 ca q0 r0_3 r0_4 r0_6 r0_7 r0_10 r0_11 r0_12 r0_14 r0_15 r0_17 r0_18 r0_19 (si S0 0 v) ++ wLT ca q1 r1_0 ++ w9 ca q2 S2 ++ w9 ca q3 S3 ++ w9 ca q4 S4 ++ w9 ca q5 S5 := rfl
def fX11_read  (SC : ms_T) (SY0 : ms_T) (SY1 : ms_T) (SY2 : ms_T) (SY3 : ms_T) (a1 : Int32) (a2 : Int32) : Option (Int64 × ms_T) :=
  (fX11_placeStatus SC SY0 SY1 SY2 SY3 a1 a2).bind fun z1 =>
  if z1 = 0 then
    if a1 = (0 : Int32) then
      if inb a2 60 = true then
        some (la SY0 1 a2, si SC 0 (0 : Int32))
      else none
    else
      if a1 = (1 : Int32) then
        if inb a2 60 = true then
          some (la SY1 1 a2, si SC 0 (0 : Int32))
        else none
      else
        if a1 = (2 : Int32) then
          if inb a2 60 = true then
            some (la SY2 1 a2, si SC 0 (0 : Int32))
          else none
        else
          if a1 = (3 : Int32) then
            if inb a2 60 = true then
              some (la SY3 1 a2, si SC 0 (0 : Int32))
            else none
          else
            none
  else
    (fX11_refuse SC z1).bind fun z7 =>
    some (z7.1.toInt64, z7.2)
abbrev rmX11_read : Room := { frames := 2, cells := 0, slots := 0, locals := 44 }
theorem okX11_read : tc_ok yX11_read cX11_read 4 (some .long) 2 := ⟨wc_X11_read, wn_X11, by decide, by decide, by decide +kernel⟩
set_option maxRecDepth 20000 in
theorem mX11_read {qC : Nat → Nat} {qA : Nat → Nat} {qY0 : Nat → Nat} {qY1 : Nat → Nat} {qY2 : Nat → Nat} {qY3 : Nat → Nat} {rC4 : Value} {rC6 : Value} {rC7 : Value} {rC10 : Value} {rC11 : Value} {rC12 : Value} {rC14 : Value} {rC15 : Value} {rC17 : Value} {rC18 : Value} {rC19 : Value} {SC : ms_T} {SY0 : ms_T} {SY1 : ms_T} {SY2 : ms_T} {SY3 : ms_T} {a1 : Int32} {a2 : Int32} {z : Int64 × ms_T}  (hf : fX11_read SC SY0 SY1 SY2 SY3 a1 a2 = some z) : tc_ML l dC dI ca yX11_read cX11_read 4 (some .long) rmX11_read [.ref (qC 0), .int (a1), .int (a2)] (w11 ca qC (.ref (qA 0)) (rC4) (rC6) (rC7) (rC10) (rC11) (rC12) (rC14) (rC15) (rC17) (rC18) (rC19) SC ++ wLT ca qA (rf4 (qY0 0) (qY1 0) (qY2 0) (qY3 0)) ++ w9 ca qY0 SY0 ++ w9 ca qY1 SY1 ++ w9 ca qY2 SY2 ++ w9 ca qY3 SY3) (w11 ca qC (.ref (qA 0)) (rC4) (rC6) (rC7) (rC10) (rC11) (rC12) (rC14) (rC15) (rC17) (rC18) (rC19) z.2 ++ wLT ca qA (rf4 (qY0 0) (qY1 0) (qY2 0) (qY3 0)) ++ w9 ca qY0 SY0 ++ w9 ca qY1 SY1 ++ w9 ca qY2 SY2 ++ w9 ca qY3 SY3) (z.1) := by
  refine tc_metL (own := RX11) (by decide) rfl ?_ (Nat.le_of_ble_eq_true rfl)
  intro p e s m below meth c A X hP hD hS ls hl
  obtain ⟨hx, hb, hr, hml, hown, hts, hlk, hK, hA, hG⟩ := id X
  unfold fX11_read at hf
  have hl : lv_has ls 4 [(0, .ref (qC 0)), (1, .int (a1)), (2, .int (a2))] := hl
  refine lv_aload_n hx hb dX11_read_0 rfl (lv_at hl 0 rfl) ?_
  refine lv_iload_n hx hb dX11_read_1 rfl (lv_at hl 1 rfl) ?_
  refine lv_iload_n hx hb dX11_read_2 rfl (lv_at hl 2 rfl) ?_
  obtain ⟨z1, hg, hf⟩ := tc_bi hf
  refine tc_iVs (As := [.int (a1), .int (a2)]) (rest := []) (b := qC 0) X hP hD hS (mX11_placeStatus hg) okX11_placeStatus wl_X11_113 wi_X11_placeStatus ws_X11_X11_placeStatus_X11_placeStatus ⟨rfl, rfl, Nat.le_of_ble_eq_true rfl, Nat.le_of_ble_eq_true rfl⟩ 11 0 rfl rfl rfl hl.1 (Nat.le_of_ble_eq_true rfl) dX11_read_3 (fun H locs hP hD hS => ?_)
  refine lv_istore_n (lv' := [(3, .int (z1)), (0, .ref (qC 0)), (1, .int (a1)), (2, .int (a2))]) hx hb dX11_read_6 rfl hl (by decide) rfl (fun ls hl => ?_)
  refine lv_iload_n hx hb dX11_read_7 rfl (lv_at hl 0 rfl) ?_
  refine lv_if_eq (tgt := 18) hx hb dX11_read_8 (by decide) (fun hc => ?_) (fun hc => ?_)
  · have hf := tc_pos hc hf
    refine lv_aload_n hx hb dX11_read_18 rfl (lv_at hl 1 rfl) ?_
    refine lv_iconst (v := (0 : Int32)) hx hb dX11_read_19 (by decide) ?_
    refine va_put (D := (dC, dI)) (ci := 11) (v := .int ((0 : Int32))) (ty := .int) (C := RX11) (T := TX11) (N := 20) hx hb hts i_X11 tyX11 tyX11_ok nmX11 hown hK hP hD hS 0 rfl rfl 0 (by decide) (hts _ wf_X11_92) (fun _ h9 => h9) rfl (tyX11_ok 0 (by decide)) rfl rfl (Nat.le_of_ble_eq_true rfl) dX11_read_20 (fun H locs hP hD hS => ?_)
    have hP := tc_eP (pwm22_0_0 ca qC qA qY0 qY1 qY2 qY3 (rf4 (qY0 0) (qY1 0) (qY2 0) (qY3 0)) (.ref (qA 0)) (rC4) (rC6) (rC7) (rC10) (rC11) (rC12) (rC14) (rC15) (rC17) (rC18) (rC19) SC SY0 SY1 SY2 SY3 (0 : Int32)) hP
    have hD := tc_eD (pwm22_0_0 ca qC qA qY0 qY1 qY2 qY3 (rf4 (qY0 0) (qY1 0) (qY2 0) (qY3 0)) (.ref (qA 0)) (rC4) (rC6) (rC7) (rC10) (rC11) (rC12) (rC14) (rC15) (rC17) (rC18) (rC19) SC SY0 SY1 SY2 SY3 (0 : Int32)) hD
    refine lv_aload_n hx hb dX11_read_23 rfl (lv_at hl 1 rfl) ?_
    refine va_get (D := (dC, dI)) (ci := 11) (v := .ref (qA 0)) (C := RX11) (T := TX11) (N := 20) hx hb hts i_X11 hown hK hP 0 rfl rfl 3 (by decide) (hts _ wf_X11_11) (fun _ h9 => h9) rfl dX11_read_24 ?_
    refine lv_iload_n hx hb dX11_read_27 rfl (lv_at hl 2 rfl) ?_
    by_cases hq2_0 : a1 = (0 : Int32)
    · have hf := tc_pos hq2_0 hf
      refine tc_ald (b := qY0 0) X hP 1 4 rfl rfl 0 (by rw [hq2_0]; decide) (by rw [hq2_0]; exact inb_vp (by decide)) rfl dX11_read_28 ?_
      refine va_get (D := (dC, dI)) (ci := 9) (v := .ref (qY0 1)) (C := RX9) (T := TX9) (N := 3) hx hb hts i_X9 hown hK hP 2 rfl rfl 0 (by decide) (hts _ wf_X11_125) (fun _ h9 => h9) rfl dX11_read_29 ?_
      refine lv_iload_n hx hb dX11_read_32 rfl (lv_at hl 3 rfl) ?_
      obtain ⟨hi3, hf⟩ := tc_in hf
      refine va_lald hx hb hK hP 3 2 rfl rfl hi3 dX11_read_33 ?_
      obtain rfl := Option.some.inj hf
      exact tc_rl X hP hD hS rfl dX11_read_34 rfl rfl
    · have hf := tc_neg hq2_0 hf
      by_cases hq2_1 : a1 = (1 : Int32)
      · have hf := tc_pos hq2_1 hf
        refine tc_ald (b := qY1 0) X hP 1 4 rfl rfl 1 (by rw [hq2_1]; decide) (by rw [hq2_1]; exact inb_vp (by decide)) rfl dX11_read_28 ?_
        refine va_get (D := (dC, dI)) (ci := 9) (v := .ref (qY1 1)) (C := RX9) (T := TX9) (N := 3) hx hb hts i_X9 hown hK hP 4 rfl rfl 0 (by decide) (hts _ wf_X11_125) (fun _ h9 => h9) rfl dX11_read_29 ?_
        refine lv_iload_n hx hb dX11_read_32 rfl (lv_at hl 3 rfl) ?_
        obtain ⟨hi4, hf⟩ := tc_in hf
        refine va_lald hx hb hK hP 5 2 rfl rfl hi4 dX11_read_33 ?_
        obtain rfl := Option.some.inj hf
        exact tc_rl X hP hD hS rfl dX11_read_34 rfl rfl
      · have hf := tc_neg hq2_1 hf
        by_cases hq2_2 : a1 = (2 : Int32)
        · have hf := tc_pos hq2_2 hf
          refine tc_ald (b := qY2 0) X hP 1 4 rfl rfl 2 (by rw [hq2_2]; decide) (by rw [hq2_2]; exact inb_vp (by decide)) rfl dX11_read_28 ?_
          refine va_get (D := (dC, dI)) (ci := 9) (v := .ref (qY2 1)) (C := RX9) (T := TX9) (N := 3) hx hb hts i_X9 hown hK hP 6 rfl rfl 0 (by decide) (hts _ wf_X11_125) (fun _ h9 => h9) rfl dX11_read_29 ?_
          refine lv_iload_n hx hb dX11_read_32 rfl (lv_at hl 3 rfl) ?_
          obtain ⟨hi5, hf⟩ := tc_in hf
          refine va_lald hx hb hK hP 7 2 rfl rfl hi5 dX11_read_33 ?_
          obtain rfl := Option.some.inj hf
          exact tc_rl X hP hD hS rfl dX11_read_34 rfl rfl
        · have hf := tc_neg hq2_2 hf
          by_cases hq2_3 : a1 = (3 : Int32)
          · have hf := tc_pos hq2_3 hf
            refine tc_ald (b := qY3 0) X hP 1 4 rfl rfl 3 (by rw [hq2_3]; decide) (by rw [hq2_3]; exact inb_vp (by decide)) rfl dX11_read_28 ?_
            refine va_get (D := (dC, dI)) (ci := 9) (v := .ref (qY3 1)) (C := RX9) (T := TX9) (N := 3) hx hb hts i_X9 hown hK hP 8 rfl rfl 0 (by decide) (hts _ wf_X11_125) (fun _ h9 => h9) rfl dX11_read_29 ?_
            refine lv_iload_n hx hb dX11_read_32 rfl (lv_at hl 3 rfl) ?_
            obtain ⟨hi6, hf⟩ := tc_in hf
            refine va_lald hx hb hK hP 9 2 rfl rfl hi6 dX11_read_33 ?_
            obtain rfl := Option.some.inj hf
            exact tc_rl X hP hD hS rfl dX11_read_34 rfl rfl
          · have hf := tc_neg hq2_3 hf
            cases hf
  · have hf := tc_neg hc hf
    refine lv_aload_n hx hb dX11_read_11 rfl (lv_at hl 1 rfl) ?_
    refine lv_iload_n hx hb dX11_read_12 rfl (lv_at hl 0 rfl) ?_
    obtain ⟨z7, hg, hf⟩ := tc_bi hf
    refine tc_iV (As := [.int (z1)]) (rest := []) (b := qC 0) (wc := w11 ca qC (.ref (qA 0)) (rC4) (rC6) (rC7) (rC10) (rC11) (rC12) (rC14) (rC15) (rC17) (rC18) (rC19) SC) (wr := wLT ca qA (rf4 (qY0 0) (qY1 0) (qY2 0) (qY3 0)) ++ w9 ca qY0 SY0 ++ w9 ca qY1 SY1 ++ w9 ca qY2 SY2 ++ w9 ca qY3 SY3) X hP hD hS (mX11_refuse hg) okX11_refuse wl_X11_121 wi_X11_refuse ws_X11_X11_refuse_X11_refuse ⟨rfl, rfl, Nat.le_of_ble_eq_true rfl, Nat.le_of_ble_eq_true rfl⟩ 11 0 rfl rfl [0] [1, 2, 3, 4, 5, 6, 7, 8, 9] ⟨rfl, rfl, rfl, rfl, by decide⟩ rfl hl.1 (Nat.le_of_ble_eq_true rfl) dX11_read_13 (fun H locs hP hD hS => ?_)
    have hP := hP.sub (ws' := (w11 ca qC (.ref (qA 0)) (rC4) (rC6) (rC7) (rC10) (rC11) (rC12) (rC14) (rC15) (rC17) (rC18) (rC19) z7.2 ++ wLT ca qA (rf4 (qY0 0) (qY1 0) (qY2 0) (qY3 0)) ++ w9 ca qY0 SY0 ++ w9 ca qY1 SY1 ++ w9 ca qY2 SY2 ++ w9 ca qY3 SY3)) [9, 0, 1, 2, 3, 4, 5, 6, 7, 8] rfl
    have hD := hD.sub (ws' := (w11 ca qC (.ref (qA 0)) (rC4) (rC6) (rC7) (rC10) (rC11) (rC12) (rC14) (rC15) (rC17) (rC18) (rC19) z7.2 ++ wLT ca qA (rf4 (qY0 0) (qY1 0) (qY2 0) (qY3 0)) ++ w9 ca qY0 SY0 ++ w9 ca qY1 SY1 ++ w9 ca qY2 SY2 ++ w9 ca qY3 SY3)) [9, 0, 1, 2, 3, 4, 5, 6, 7, 8] rfl rfl
    refine lv_i2l (v := z7.1.toInt64) hx hb dX11_read_16 rfl ?_
    obtain rfl := Option.some.inj hf
    exact tc_rl X hP hD hS rfl dX11_read_17 rfl rfl
end G
