section G
variable {p : Program} {l : Launch} {e : Env} {s : State} {m : MethodId} {args : Array Value} {below : List Frame} {meth : Method} {c : Code} {dC : Nat → ClassId} {dI : Nat → Nat → Nat} {ca : Nat → ClassId} {A : Nat → Prop}
def fX11_pull  (SC : ms_T) (SP0 : ms_T) (ST0 : ms_T) (a1 : Int32) (a2 : Int32) : Option (Int32 × ms_T × ms_T) :=
  (fX7_isTalker ST0 a1).bind fun z1 =>
  if z1 = 0 then
    (fX11_refuse SC (2 : Int32)).bind fun z7 =>
    some (z7.1, z7.2, ST0)
  else
    (fX7_isFalling ST0 a1).bind fun z2 =>
    if z2 = 0 then
      (fX11_refuse SC (9 : Int32)).bind fun z6 =>
      some (z6.1, z6.2, ST0)
    else
      (fX7_letPull ST0 a1 a2).bind fun z3 =>
      if inb a1 6 = true then
        (fX11_answer SC (ia z3 6 a1)).bind fun z5 =>
        some (z5.1, z5.2, z3)
      else none
abbrev rmX11_pull : Room := { frames := 3, cells := 0, slots := 0, locals := 66 }
theorem okX11_pull : tc_ok yX11_pull cX11_pull 4 (some .int) 2 := ⟨wc_X11_pull, wn_X11, by decide, by decide, by decide +kernel⟩
set_option maxRecDepth 20000 in
theorem mX11_pull {qC : Nat → Nat} {qP0 : Nat → Nat} {qT0 : Nat → Nat} {rC3 : Value} {rC4 : Value} {rC6 : Value} {rC7 : Value} {rC11 : Value} {rC12 : Value} {rC14 : Value} {rC15 : Value} {rC17 : Value} {rC18 : Value} {rC19 : Value} {rP01 : Value} {SC : ms_T} {SP0 : ms_T} {ST0 : ms_T} {a1 : Int32} {a2 : Int32} {z : Int32 × ms_T × ms_T}  (hf : fX11_pull SC SP0 ST0 a1 a2 = some z) : tc_MI l dC dI ca yX11_pull cX11_pull 4 (some .int) rmX11_pull [.ref (qC 0), .int (a1), .int (a2)] (w11 ca qC (rC3) (rC4) (rC6) (rC7) (.ref (qP0 0)) (rC11) (rC12) (rC14) (rC15) (rC17) (rC18) (rC19) SC ++ w6 ca qP0 (.ref (qT0 0)) (rP01) SP0 ++ w7 ca qT0 ST0) (w11 ca qC (rC3) (rC4) (rC6) (rC7) (.ref (qP0 0)) (rC11) (rC12) (rC14) (rC15) (rC17) (rC18) (rC19) z.2.1 ++ w6 ca qP0 (.ref (qT0 0)) (rP01) SP0 ++ w7 ca qT0 z.2.2) (z.1) := by
  refine tc_metI (own := RX11) (by decide) rfl ?_ (Nat.le_of_ble_eq_true rfl)
  intro p e s m below meth c A X hP hD hS ls hl
  obtain ⟨hx, hb, hr, hml, hown, hts, hlk, hK, hA, hG⟩ := id X
  unfold fX11_pull at hf
  have hl : lv_has ls 4 [(0, .ref (qC 0)), (1, .int (a1)), (2, .int (a2))] := hl
  refine lv_aload_n hx hb dX11_pull_0 rfl (lv_at hl 0 rfl) ?_
  refine va_get (D := (dC, dI)) (ci := 11) (v := .ref (qP0 0)) (C := RX11) (T := TX11) (N := 20) hx hb hts i_X11 hown hK hP 0 rfl rfl 10 (by decide) (hts _ wf_X11_39) (fun _ h9 => h9) rfl dX11_pull_1 ?_
  refine va_get (D := (dC, dI)) (ci := 6) (v := .ref (qT0 0)) (C := RX6) (T := TX6) (N := 2) hx hb hts i_X6 hown hK hP 1 rfl rfl 0 (by decide) (hts _ wf_X11_152) (fun _ h9 => h9) rfl dX11_pull_4 ?_
  refine lv_astore_n (lv' := [(3, .ref (qT0 0)), (0, .ref (qC 0)), (1, .int (a1)), (2, .int (a2))]) hx hb dX11_pull_7 rfl hl (by decide) rfl (fun ls hl => ?_)
  refine lv_aload_n hx hb dX11_pull_8 rfl (lv_at hl 0 rfl) ?_
  refine lv_iload_n hx hb dX11_pull_9 rfl (lv_at hl 2 rfl) ?_
  obtain ⟨z1, hg, hf⟩ := tc_bi hf
  refine tc_iV (As := [.int (a1)]) (rest := []) (b := qT0 0) (wc := w7 ca qT0 ST0) (wr := w11 ca qC (rC3) (rC4) (rC6) (rC7) (.ref (qP0 0)) (rC11) (rC12) (rC14) (rC15) (rC17) (rC18) (rC19) SC ++ w6 ca qP0 (.ref (qT0 0)) (rP01) SP0) X hP hD hS (mX7_isTalker hg) okX7_isTalker wl_X11_244 wi_X7_isTalker ws_X7_X7_isTalker_X7_isTalker ⟨rfl, rfl, Nat.le_of_ble_eq_true rfl, Nat.le_of_ble_eq_true rfl⟩ 7 0 rfl rfl [2, 3, 4, 5, 6, 7, 8, 9, 10, 11, 12] [0, 1] ⟨rfl, rfl, rfl, rfl, by decide⟩ rfl hl.1 (Nat.le_of_ble_eq_true rfl) dX11_pull_10 (fun H locs hP hD hS => ?_)
  have hP := hP.sub (ws' := (w11 ca qC (rC3) (rC4) (rC6) (rC7) (.ref (qP0 0)) (rC11) (rC12) (rC14) (rC15) (rC17) (rC18) (rC19) SC ++ w6 ca qP0 (.ref (qT0 0)) (rP01) SP0 ++ w7 ca qT0 ST0)) [0, 1, 2, 3, 4, 5, 6, 7, 8, 9, 10, 11, 12] rfl
  have hD := hD.sub (ws' := (w11 ca qC (rC3) (rC4) (rC6) (rC7) (.ref (qP0 0)) (rC11) (rC12) (rC14) (rC15) (rC17) (rC18) (rC19) SC ++ w6 ca qP0 (.ref (qT0 0)) (rP01) SP0 ++ w7 ca qT0 ST0)) [0, 1, 2, 3, 4, 5, 6, 7, 8, 9, 10, 11, 12] rfl rfl
  refine lv_if_ne (tgt := 22) hx hb dX11_pull_13 (by decide) (fun hc => ?_) (fun hc => ?_)
  · have hf := tc_neg hc hf
    refine lv_aload_n hx hb dX11_pull_22 rfl (lv_at hl 0 rfl) ?_
    refine lv_iload_n hx hb dX11_pull_23 rfl (lv_at hl 2 rfl) ?_
    obtain ⟨z2, hg, hf⟩ := tc_bi hf
    refine tc_iV (As := [.int (a1)]) (rest := []) (b := qT0 0) (wc := w7 ca qT0 ST0) (wr := w11 ca qC (rC3) (rC4) (rC6) (rC7) (.ref (qP0 0)) (rC11) (rC12) (rC14) (rC15) (rC17) (rC18) (rC19) SC ++ w6 ca qP0 (.ref (qT0 0)) (rP01) SP0) X hP hD hS (mX7_isFalling hg) okX7_isFalling wl_X11_271 wi_X7_isFalling ws_X7_X7_isFalling_X7_isFalling ⟨rfl, rfl, Nat.le_of_ble_eq_true rfl, Nat.le_of_ble_eq_true rfl⟩ 7 0 rfl rfl [2, 3, 4, 5, 6, 7, 8, 9, 10, 11, 12] [0, 1] ⟨rfl, rfl, rfl, rfl, by decide⟩ rfl hl.1 (Nat.le_of_ble_eq_true rfl) dX11_pull_24 (fun H locs hP hD hS => ?_)
    have hP := hP.sub (ws' := (w11 ca qC (rC3) (rC4) (rC6) (rC7) (.ref (qP0 0)) (rC11) (rC12) (rC14) (rC15) (rC17) (rC18) (rC19) SC ++ w6 ca qP0 (.ref (qT0 0)) (rP01) SP0 ++ w7 ca qT0 ST0)) [0, 1, 2, 3, 4, 5, 6, 7, 8, 9, 10, 11, 12] rfl
    have hD := hD.sub (ws' := (w11 ca qC (rC3) (rC4) (rC6) (rC7) (.ref (qP0 0)) (rC11) (rC12) (rC14) (rC15) (rC17) (rC18) (rC19) SC ++ w6 ca qP0 (.ref (qT0 0)) (rP01) SP0 ++ w7 ca qT0 ST0)) [0, 1, 2, 3, 4, 5, 6, 7, 8, 9, 10, 11, 12] rfl rfl
    refine lv_if_ne (tgt := 37) hx hb dX11_pull_27 (by decide) (fun hc => ?_) (fun hc => ?_)
    · have hf := tc_neg hc hf
      refine lv_aload_n hx hb dX11_pull_37 rfl (lv_at hl 0 rfl) ?_
      refine lv_iload_n hx hb dX11_pull_38 rfl (lv_at hl 2 rfl) ?_
      refine lv_iload_n hx hb dX11_pull_39 rfl (lv_at hl 3 rfl) ?_
      obtain ⟨z3, hg, hf⟩ := tc_bi hf
      refine tc_vV (As := [.int (a1), .int (a2)]) (rest := []) (b := qT0 0) (wc := w7 ca qT0 ST0) (wr := w11 ca qC (rC3) (rC4) (rC6) (rC7) (.ref (qP0 0)) (rC11) (rC12) (rC14) (rC15) (rC17) (rC18) (rC19) SC ++ w6 ca qP0 (.ref (qT0 0)) (rP01) SP0) X hP hD hS (mX7_letPull hg) okX7_letPull wl_X11_277 wi_X7_letPull ws_X7_X7_letPull_X7_letPull ⟨rfl, rfl, Nat.le_of_ble_eq_true rfl, Nat.le_of_ble_eq_true rfl⟩ 7 0 rfl rfl [2, 3, 4, 5, 6, 7, 8, 9, 10, 11, 12] [0, 1] ⟨rfl, rfl, rfl, rfl, by decide⟩ rfl hl.1 (Nat.le_of_ble_eq_true rfl) dX11_pull_40 (fun H locs hP hD hS => ?_)
      have hP := hP.sub (ws' := (w11 ca qC (rC3) (rC4) (rC6) (rC7) (.ref (qP0 0)) (rC11) (rC12) (rC14) (rC15) (rC17) (rC18) (rC19) SC ++ w6 ca qP0 (.ref (qT0 0)) (rP01) SP0 ++ w7 ca qT0 z3)) [0, 1, 2, 3, 4, 5, 6, 7, 8, 9, 10, 11, 12] rfl
      have hD := hD.sub (ws' := (w11 ca qC (rC3) (rC4) (rC6) (rC7) (.ref (qP0 0)) (rC11) (rC12) (rC14) (rC15) (rC17) (rC18) (rC19) SC ++ w6 ca qP0 (.ref (qT0 0)) (rP01) SP0 ++ w7 ca qT0 z3)) [0, 1, 2, 3, 4, 5, 6, 7, 8, 9, 10, 11, 12] rfl rfl
      refine lv_aload_n hx hb dX11_pull_43 rfl (lv_at hl 1 rfl) ?_
      refine lv_aload_n hx hb dX11_pull_44 rfl (lv_at hl 0 rfl) ?_
      refine va_get (D := (dC, dI)) (ci := 7) (v := .ref (qT0 6)) (C := RX7) (T := TX7) (N := 18) hx hb hts i_X7 hown hK hP 2 rfl rfl 10 (by decide) (hts _ wf_X11_250) (fun _ h9 => h9) rfl dX11_pull_45 ?_
      refine lv_iload_n hx hb dX11_pull_48 rfl (lv_at hl 2 rfl) ?_
      obtain ⟨hi4, hf⟩ := tc_in hf
      refine va_iald hx hb hK hP 8 1 rfl rfl hi4 dX11_pull_49 ?_
      obtain ⟨z5, hg, hf⟩ := tc_bi hf
      refine tc_iV (As := [.int (ia z3 6 a1)]) (rest := []) (b := qC 0) (wc := w11 ca qC (rC3) (rC4) (rC6) (rC7) (.ref (qP0 0)) (rC11) (rC12) (rC14) (rC15) (rC17) (rC18) (rC19) SC) (wr := w6 ca qP0 (.ref (qT0 0)) (rP01) SP0 ++ w7 ca qT0 z3) X hP hD hS (mX11_answer hg) okX11_answer wl_X11_182 wi_X11_answer ws_X11_X11_answer_X11_answer ⟨rfl, rfl, Nat.le_of_ble_eq_true rfl, Nat.le_of_ble_eq_true rfl⟩ 11 0 rfl rfl [0] [1, 2, 3, 4, 5, 6, 7, 8, 9, 10, 11, 12] ⟨rfl, rfl, rfl, rfl, by decide⟩ rfl hl.1 (Nat.le_of_ble_eq_true rfl) dX11_pull_50 (fun H locs hP hD hS => ?_)
      have hP := hP.sub (ws' := (w11 ca qC (rC3) (rC4) (rC6) (rC7) (.ref (qP0 0)) (rC11) (rC12) (rC14) (rC15) (rC17) (rC18) (rC19) z5.2 ++ w6 ca qP0 (.ref (qT0 0)) (rP01) SP0 ++ w7 ca qT0 z3)) [12, 0, 1, 2, 3, 4, 5, 6, 7, 8, 9, 10, 11] rfl
      have hD := hD.sub (ws' := (w11 ca qC (rC3) (rC4) (rC6) (rC7) (.ref (qP0 0)) (rC11) (rC12) (rC14) (rC15) (rC17) (rC18) (rC19) z5.2 ++ w6 ca qP0 (.ref (qT0 0)) (rP01) SP0 ++ w7 ca qT0 z3)) [12, 0, 1, 2, 3, 4, 5, 6, 7, 8, 9, 10, 11] rfl rfl
      obtain rfl := Option.some.inj hf
      exact tc_ri X hP hD hS rfl dX11_pull_53 rfl rfl
    · have hf := tc_pos hc hf
      refine lv_aload_n hx hb dX11_pull_30 rfl (lv_at hl 1 rfl) ?_
      refine lv_bipush (v := (9 : Int32)) hx hb dX11_pull_31 (by decide) ?_
      obtain ⟨z6, hg, hf⟩ := tc_bi hf
      refine tc_iV (As := [.int ((9 : Int32))]) (rest := []) (b := qC 0) (wc := w11 ca qC (rC3) (rC4) (rC6) (rC7) (.ref (qP0 0)) (rC11) (rC12) (rC14) (rC15) (rC17) (rC18) (rC19) SC) (wr := w6 ca qP0 (.ref (qT0 0)) (rP01) SP0 ++ w7 ca qT0 ST0) X hP hD hS (mX11_refuse hg) okX11_refuse wl_X11_121 wi_X11_refuse ws_X11_X11_refuse_X11_refuse ⟨rfl, rfl, Nat.le_of_ble_eq_true rfl, Nat.le_of_ble_eq_true rfl⟩ 11 0 rfl rfl [0] [1, 2, 3, 4, 5, 6, 7, 8, 9, 10, 11, 12] ⟨rfl, rfl, rfl, rfl, by decide⟩ rfl hl.1 (Nat.le_of_ble_eq_true rfl) dX11_pull_33 (fun H locs hP hD hS => ?_)
      have hP := hP.sub (ws' := (w11 ca qC (rC3) (rC4) (rC6) (rC7) (.ref (qP0 0)) (rC11) (rC12) (rC14) (rC15) (rC17) (rC18) (rC19) z6.2 ++ w6 ca qP0 (.ref (qT0 0)) (rP01) SP0 ++ w7 ca qT0 ST0)) [12, 0, 1, 2, 3, 4, 5, 6, 7, 8, 9, 10, 11] rfl
      have hD := hD.sub (ws' := (w11 ca qC (rC3) (rC4) (rC6) (rC7) (.ref (qP0 0)) (rC11) (rC12) (rC14) (rC15) (rC17) (rC18) (rC19) z6.2 ++ w6 ca qP0 (.ref (qT0 0)) (rP01) SP0 ++ w7 ca qT0 ST0)) [12, 0, 1, 2, 3, 4, 5, 6, 7, 8, 9, 10, 11] rfl rfl
      obtain rfl := Option.some.inj hf
      exact tc_ri X hP hD hS rfl dX11_pull_36 rfl rfl
  · have hf := tc_pos hc hf
    refine lv_aload_n hx hb dX11_pull_16 rfl (lv_at hl 1 rfl) ?_
    refine lv_iconst (v := (2 : Int32)) hx hb dX11_pull_17 (by decide) ?_
    obtain ⟨z7, hg, hf⟩ := tc_bi hf
    refine tc_iV (As := [.int ((2 : Int32))]) (rest := []) (b := qC 0) (wc := w11 ca qC (rC3) (rC4) (rC6) (rC7) (.ref (qP0 0)) (rC11) (rC12) (rC14) (rC15) (rC17) (rC18) (rC19) SC) (wr := w6 ca qP0 (.ref (qT0 0)) (rP01) SP0 ++ w7 ca qT0 ST0) X hP hD hS (mX11_refuse hg) okX11_refuse wl_X11_121 wi_X11_refuse ws_X11_X11_refuse_X11_refuse ⟨rfl, rfl, Nat.le_of_ble_eq_true rfl, Nat.le_of_ble_eq_true rfl⟩ 11 0 rfl rfl [0] [1, 2, 3, 4, 5, 6, 7, 8, 9, 10, 11, 12] ⟨rfl, rfl, rfl, rfl, by decide⟩ rfl hl.1 (Nat.le_of_ble_eq_true rfl) dX11_pull_18 (fun H locs hP hD hS => ?_)
    have hP := hP.sub (ws' := (w11 ca qC (rC3) (rC4) (rC6) (rC7) (.ref (qP0 0)) (rC11) (rC12) (rC14) (rC15) (rC17) (rC18) (rC19) z7.2 ++ w6 ca qP0 (.ref (qT0 0)) (rP01) SP0 ++ w7 ca qT0 ST0)) [12, 0, 1, 2, 3, 4, 5, 6, 7, 8, 9, 10, 11] rfl
    have hD := hD.sub (ws' := (w11 ca qC (rC3) (rC4) (rC6) (rC7) (.ref (qP0 0)) (rC11) (rC12) (rC14) (rC15) (rC17) (rC18) (rC19) z7.2 ++ w6 ca qP0 (.ref (qT0 0)) (rP01) SP0 ++ w7 ca qT0 ST0)) [12, 0, 1, 2, 3, 4, 5, 6, 7, 8, 9, 10, 11] rfl rfl
    obtain rfl := Option.some.inj hf
    exact tc_ri X hP hD hS rfl dX11_pull_21 rfl rfl
theorem pw11_6_7_2_7 (ca : Nat → ClassId) (q0 q1 q2 : Nat → Nat) (r0_3 r0_4 r0_6 r0_7 r0_10 r0_11 r0_12 r0_14 r0_15 r0_17 r0_18 r0_19 r1_0 r1_1 : Value) (S0 S1 S2 : ms_T) (v : Int32) : (w11 ca q0 r0_3 r0_4 r0_6 r0_7 r0_10 r0_11 r0_12 r0_14 r0_15 r0_17 r0_18 r0_19 S0 ++ w6 ca q1 r1_0 r1_1 S1 ++ w7 ca q2 S2 : va_W).set 2 (q2 0, .inr (7, List.set (.int (gi S2 0) :: .int (gi S2 1) :: .ref (q2 1) :: .ref (q2 2) :: .int (gi S2 4) :: .ref (q2 3) :: .ref (q2 4) :: .int (gi S2 7) :: .int (gi S2 8) :: .ref (q2 5) :: .ref (q2 6) :: .ref (q2 7) :: .int (gi S2 12) :: .int (gi S2 13) :: .ref (q2 8) :: .ref (q2 9) :: .int (gi S2 16) :: .ref (q2 10) :: []) 7 (.int v))) = w11 ca q0 r0_3 r0_4 r0_6 r0_7 r0_10 r0_11 r0_12 r0_14 r0_15 r0_17 r0_18 r0_19 S0 ++ w6 ca q1 r1_0 r1_1 S1 ++ w7 ca q2 (si S2 7 v) := rfl
def fX11_prop  (SC : ms_T) (SP0 : ms_T) (ST0 : ms_T) (a1 : Int32) : Option (Int32 × ms_T × ms_T) :=
  (fX7_isClaim ST0 a1).bind fun z1 =>
  if z1 = 0 then
    (fX11_refuse SC (2 : Int32)).bind fun z7 =>
    some (z7.1, z7.2, ST0)
  else
    (fX7_isPropped ST0 a1).bind fun z2 =>
    if z2 = 0 then
      (fX7_standing (si ST0 7 ((gi ST0 7) ||| ((1 : Int32) <<< (a1 &&& 31))))).bind fun z3 =>
      (fJ6_bitCount_0f7a4 z3).bind fun z4 =>
      (fX11_answer SC z4).bind fun z5 =>
      some (z5.1, z5.2, si ST0 7 ((gi ST0 7) ||| ((1 : Int32) <<< (a1 &&& 31))))
    else
      (fX11_refuse SC (9 : Int32)).bind fun z6 =>
      some (z6.1, z6.2, ST0)
abbrev rmX11_prop : Room := { frames := 2, cells := 0, slots := 0, locals := 45 }
theorem okX11_prop : tc_ok yX11_prop cX11_prop 3 (some .int) 1 := ⟨wc_X11_prop, wn_X11, by decide, by decide, by decide +kernel⟩
set_option maxRecDepth 20000 in
theorem mX11_prop {qC : Nat → Nat} {qP0 : Nat → Nat} {qT0 : Nat → Nat} {rC3 : Value} {rC4 : Value} {rC6 : Value} {rC7 : Value} {rC11 : Value} {rC12 : Value} {rC14 : Value} {rC15 : Value} {rC17 : Value} {rC18 : Value} {rC19 : Value} {rP01 : Value} {SC : ms_T} {SP0 : ms_T} {ST0 : ms_T} {a1 : Int32} {z : Int32 × ms_T × ms_T}  (hf : fX11_prop SC SP0 ST0 a1 = some z) : tc_MI l dC dI ca yX11_prop cX11_prop 3 (some .int) rmX11_prop [.ref (qC 0), .int (a1)] (w11 ca qC (rC3) (rC4) (rC6) (rC7) (.ref (qP0 0)) (rC11) (rC12) (rC14) (rC15) (rC17) (rC18) (rC19) SC ++ w6 ca qP0 (.ref (qT0 0)) (rP01) SP0 ++ w7 ca qT0 ST0) (w11 ca qC (rC3) (rC4) (rC6) (rC7) (.ref (qP0 0)) (rC11) (rC12) (rC14) (rC15) (rC17) (rC18) (rC19) z.2.1 ++ w6 ca qP0 (.ref (qT0 0)) (rP01) SP0 ++ w7 ca qT0 z.2.2) (z.1) := by
  refine tc_metI (own := RX11) (by decide) rfl ?_ (Nat.le_of_ble_eq_true rfl)
  intro p e s m below meth c A X hP hD hS ls hl
  obtain ⟨hx, hb, hr, hml, hown, hts, hlk, hK, hA, hG⟩ := id X
  unfold fX11_prop at hf
  have hl : lv_has ls 3 [(0, .ref (qC 0)), (1, .int (a1))] := hl
  refine lv_aload_n hx hb dX11_prop_0 rfl (lv_at hl 0 rfl) ?_
  refine va_get (D := (dC, dI)) (ci := 11) (v := .ref (qP0 0)) (C := RX11) (T := TX11) (N := 20) hx hb hts i_X11 hown hK hP 0 rfl rfl 10 (by decide) (hts _ wf_X11_39) (fun _ h9 => h9) rfl dX11_prop_1 ?_
  refine va_get (D := (dC, dI)) (ci := 6) (v := .ref (qT0 0)) (C := RX6) (T := TX6) (N := 2) hx hb hts i_X6 hown hK hP 1 rfl rfl 0 (by decide) (hts _ wf_X11_152) (fun _ h9 => h9) rfl dX11_prop_4 ?_
  refine lv_astore_n (lv' := [(2, .ref (qT0 0)), (0, .ref (qC 0)), (1, .int (a1))]) hx hb dX11_prop_7 rfl hl (by decide) rfl (fun ls hl => ?_)
  refine lv_aload_n hx hb dX11_prop_8 rfl (lv_at hl 0 rfl) ?_
  refine lv_iload_n hx hb dX11_prop_9 rfl (lv_at hl 2 rfl) ?_
  obtain ⟨z1, hg, hf⟩ := tc_bi hf
  refine tc_iV (As := [.int (a1)]) (rest := []) (b := qT0 0) (wc := w7 ca qT0 ST0) (wr := w11 ca qC (rC3) (rC4) (rC6) (rC7) (.ref (qP0 0)) (rC11) (rC12) (rC14) (rC15) (rC17) (rC18) (rC19) SC ++ w6 ca qP0 (.ref (qT0 0)) (rP01) SP0) X hP hD hS (mX7_isClaim hg) okX7_isClaim wl_X11_235 wi_X7_isClaim ws_X7_X7_isClaim_X7_isClaim ⟨rfl, rfl, Nat.le_of_ble_eq_true rfl, Nat.le_of_ble_eq_true rfl⟩ 7 0 rfl rfl [2, 3, 4, 5, 6, 7, 8, 9, 10, 11, 12] [0, 1] ⟨rfl, rfl, rfl, rfl, by decide⟩ rfl hl.1 (Nat.le_of_ble_eq_true rfl) dX11_prop_10 (fun H locs hP hD hS => ?_)
  have hP := hP.sub (ws' := (w11 ca qC (rC3) (rC4) (rC6) (rC7) (.ref (qP0 0)) (rC11) (rC12) (rC14) (rC15) (rC17) (rC18) (rC19) SC ++ w6 ca qP0 (.ref (qT0 0)) (rP01) SP0 ++ w7 ca qT0 ST0)) [0, 1, 2, 3, 4, 5, 6, 7, 8, 9, 10, 11, 12] rfl
  have hD := hD.sub (ws' := (w11 ca qC (rC3) (rC4) (rC6) (rC7) (.ref (qP0 0)) (rC11) (rC12) (rC14) (rC15) (rC17) (rC18) (rC19) SC ++ w6 ca qP0 (.ref (qT0 0)) (rP01) SP0 ++ w7 ca qT0 ST0)) [0, 1, 2, 3, 4, 5, 6, 7, 8, 9, 10, 11, 12] rfl rfl
  refine lv_if_ne (tgt := 22) hx hb dX11_prop_13 (by decide) (fun hc => ?_) (fun hc => ?_)
  · have hf := tc_neg hc hf
    refine lv_aload_n hx hb dX11_prop_22 rfl (lv_at hl 0 rfl) ?_
    refine lv_iload_n hx hb dX11_prop_23 rfl (lv_at hl 2 rfl) ?_
    obtain ⟨z2, hg, hf⟩ := tc_bi hf
    refine tc_iV (As := [.int (a1)]) (rest := []) (b := qT0 0) (wc := w7 ca qT0 ST0) (wr := w11 ca qC (rC3) (rC4) (rC6) (rC7) (.ref (qP0 0)) (rC11) (rC12) (rC14) (rC15) (rC17) (rC18) (rC19) SC ++ w6 ca qP0 (.ref (qT0 0)) (rP01) SP0) X hP hD hS (mX7_isPropped hg) okX7_isPropped wl_X11_281 wi_X7_isPropped ws_X7_X7_isPropped_X7_isPropped ⟨rfl, rfl, Nat.le_of_ble_eq_true rfl, Nat.le_of_ble_eq_true rfl⟩ 7 0 rfl rfl [2, 3, 4, 5, 6, 7, 8, 9, 10, 11, 12] [0, 1] ⟨rfl, rfl, rfl, rfl, by decide⟩ rfl hl.1 (Nat.le_of_ble_eq_true rfl) dX11_prop_24 (fun H locs hP hD hS => ?_)
    have hP := hP.sub (ws' := (w11 ca qC (rC3) (rC4) (rC6) (rC7) (.ref (qP0 0)) (rC11) (rC12) (rC14) (rC15) (rC17) (rC18) (rC19) SC ++ w6 ca qP0 (.ref (qT0 0)) (rP01) SP0 ++ w7 ca qT0 ST0)) [0, 1, 2, 3, 4, 5, 6, 7, 8, 9, 10, 11, 12] rfl
    have hD := hD.sub (ws' := (w11 ca qC (rC3) (rC4) (rC6) (rC7) (.ref (qP0 0)) (rC11) (rC12) (rC14) (rC15) (rC17) (rC18) (rC19) SC ++ w6 ca qP0 (.ref (qT0 0)) (rP01) SP0 ++ w7 ca qT0 ST0)) [0, 1, 2, 3, 4, 5, 6, 7, 8, 9, 10, 11, 12] rfl rfl
    refine lv_if_eq (tgt := 37) hx hb dX11_prop_27 (by decide) (fun hc => ?_) (fun hc => ?_)
    · have hf := tc_pos hc hf
      refine lv_aload_n hx hb dX11_prop_37 rfl (lv_at hl 0 rfl) ?_
      refine lv_dup hx hb dX11_prop_38 rfl ?_
      refine va_get (D := (dC, dI)) (ci := 7) (v := .int (gi ST0 7)) (C := RX7) (T := TX7) (N := 18) hx hb hts i_X7 hown hK hP 2 rfl rfl 7 (by decide) (hts _ wf_X11_213) (fun _ h9 => h9) rfl dX11_prop_39 ?_
      refine lv_iconst (v := (1 : Int32)) hx hb dX11_prop_42 (by decide) ?_
      refine lv_iload_n hx hb dX11_prop_43 rfl (lv_at hl 2 rfl) ?_
      refine lv_ishl hx hb dX11_prop_44 ?_
      refine lv_ior hx hb dX11_prop_45 ?_
      refine va_put (D := (dC, dI)) (ci := 7) (v := .int ((gi ST0 7) ||| ((1 : Int32) <<< (a1 &&& 31)))) (ty := .int) (C := RX7) (T := TX7) (N := 18) hx hb hts i_X7 tyX7 tyX7_ok nmX7 hown hK hP hD hS 2 rfl rfl 7 (by decide) (hts _ wf_X11_213) (fun _ h9 => h9) rfl (tyX7_ok 7 (by decide)) rfl rfl (Nat.le_of_ble_eq_true rfl) dX11_prop_46 (fun H locs hP hD hS => ?_)
      have hP := tc_eP (pw11_6_7_2_7 ca qC qP0 qT0 (rC3) (rC4) (rC6) (rC7) (.ref (qP0 0)) (rC11) (rC12) (rC14) (rC15) (rC17) (rC18) (rC19) (.ref (qT0 0)) (rP01) SC SP0 ST0 ((gi ST0 7) ||| ((1 : Int32) <<< (a1 &&& 31)))) hP
      have hD := tc_eD (pw11_6_7_2_7 ca qC qP0 qT0 (rC3) (rC4) (rC6) (rC7) (.ref (qP0 0)) (rC11) (rC12) (rC14) (rC15) (rC17) (rC18) (rC19) (.ref (qT0 0)) (rP01) SC SP0 ST0 ((gi ST0 7) ||| ((1 : Int32) <<< (a1 &&& 31)))) hD
      refine lv_aload_n hx hb dX11_prop_49 rfl (lv_at hl 1 rfl) ?_
      refine lv_aload_n hx hb dX11_prop_50 rfl (lv_at hl 0 rfl) ?_
      obtain ⟨z3, hg, hf⟩ := tc_bi hf
      refine tc_iV (As := []) (rest := [.ref (qC 0)]) (b := qT0 0) (wc := w7 ca qT0 (si ST0 7 ((gi ST0 7) ||| ((1 : Int32) <<< (a1 &&& 31))))) (wr := w11 ca qC (rC3) (rC4) (rC6) (rC7) (.ref (qP0 0)) (rC11) (rC12) (rC14) (rC15) (rC17) (rC18) (rC19) SC ++ w6 ca qP0 (.ref (qT0 0)) (rP01) SP0) X hP hD hS (mX7_standing hg) okX7_standing wl_X11_209 wi_X7_standing ws_X7_X7_standing_X7_standing ⟨rfl, rfl, Nat.le_of_ble_eq_true rfl, Nat.le_of_ble_eq_true rfl⟩ 7 0 rfl rfl [2, 3, 4, 5, 6, 7, 8, 9, 10, 11, 12] [0, 1] ⟨rfl, rfl, rfl, rfl, by decide⟩ rfl hl.1 (Nat.le_of_ble_eq_true rfl) dX11_prop_51 (fun H locs hP hD hS => ?_)
      have hP := hP.sub (ws' := (w11 ca qC (rC3) (rC4) (rC6) (rC7) (.ref (qP0 0)) (rC11) (rC12) (rC14) (rC15) (rC17) (rC18) (rC19) SC ++ w6 ca qP0 (.ref (qT0 0)) (rP01) SP0 ++ w7 ca qT0 (si ST0 7 ((gi ST0 7) ||| ((1 : Int32) <<< (a1 &&& 31)))))) [0, 1, 2, 3, 4, 5, 6, 7, 8, 9, 10, 11, 12] rfl
      have hD := hD.sub (ws' := (w11 ca qC (rC3) (rC4) (rC6) (rC7) (.ref (qP0 0)) (rC11) (rC12) (rC14) (rC15) (rC17) (rC18) (rC19) SC ++ w6 ca qP0 (.ref (qT0 0)) (rP01) SP0 ++ w7 ca qT0 (si ST0 7 ((gi ST0 7) ||| ((1 : Int32) <<< (a1 &&& 31)))))) [0, 1, 2, 3, 4, 5, 6, 7, 8, 9, 10, 11, 12] rfl rfl
      obtain ⟨z4, hg, hf⟩ := tc_bi hf
      refine tc_iS0 (As := [.int (z3)]) (rest := [.ref (qC 0)]) X hP hD hS (mJ6_bitCount_0f7a4 hg) okJ6_bitCount_0f7a4 wl_X11_284 wt_J6_bitCount_0f7a4 ⟨rfl, rfl, Nat.le_of_ble_eq_true rfl, Nat.le_of_ble_eq_true rfl⟩ rfl hl.1 (Nat.le_of_ble_eq_true rfl) dX11_prop_54 (fun H locs hP hD hS => ?_)
      obtain ⟨z5, hg, hf⟩ := tc_bi hf
      refine tc_iV (As := [.int (z4)]) (rest := []) (b := qC 0) (wc := w11 ca qC (rC3) (rC4) (rC6) (rC7) (.ref (qP0 0)) (rC11) (rC12) (rC14) (rC15) (rC17) (rC18) (rC19) SC) (wr := w6 ca qP0 (.ref (qT0 0)) (rP01) SP0 ++ w7 ca qT0 (si ST0 7 ((gi ST0 7) ||| ((1 : Int32) <<< (a1 &&& 31))))) X hP hD hS (mX11_answer hg) okX11_answer wl_X11_182 wi_X11_answer ws_X11_X11_answer_X11_answer ⟨rfl, rfl, Nat.le_of_ble_eq_true rfl, Nat.le_of_ble_eq_true rfl⟩ 11 0 rfl rfl [0] [1, 2, 3, 4, 5, 6, 7, 8, 9, 10, 11, 12] ⟨rfl, rfl, rfl, rfl, by decide⟩ rfl hl.1 (Nat.le_of_ble_eq_true rfl) dX11_prop_57 (fun H locs hP hD hS => ?_)
      have hP := hP.sub (ws' := (w11 ca qC (rC3) (rC4) (rC6) (rC7) (.ref (qP0 0)) (rC11) (rC12) (rC14) (rC15) (rC17) (rC18) (rC19) z5.2 ++ w6 ca qP0 (.ref (qT0 0)) (rP01) SP0 ++ w7 ca qT0 (si ST0 7 ((gi ST0 7) ||| ((1 : Int32) <<< (a1 &&& 31)))))) [12, 0, 1, 2, 3, 4, 5, 6, 7, 8, 9, 10, 11] rfl
      have hD := hD.sub (ws' := (w11 ca qC (rC3) (rC4) (rC6) (rC7) (.ref (qP0 0)) (rC11) (rC12) (rC14) (rC15) (rC17) (rC18) (rC19) z5.2 ++ w6 ca qP0 (.ref (qT0 0)) (rP01) SP0 ++ w7 ca qT0 (si ST0 7 ((gi ST0 7) ||| ((1 : Int32) <<< (a1 &&& 31)))))) [12, 0, 1, 2, 3, 4, 5, 6, 7, 8, 9, 10, 11] rfl rfl
      obtain rfl := Option.some.inj hf
      exact tc_ri X hP hD hS rfl dX11_prop_60 rfl rfl
    · have hf := tc_neg hc hf
      refine lv_aload_n hx hb dX11_prop_30 rfl (lv_at hl 1 rfl) ?_
      refine lv_bipush (v := (9 : Int32)) hx hb dX11_prop_31 (by decide) ?_
      obtain ⟨z6, hg, hf⟩ := tc_bi hf
      refine tc_iV (As := [.int ((9 : Int32))]) (rest := []) (b := qC 0) (wc := w11 ca qC (rC3) (rC4) (rC6) (rC7) (.ref (qP0 0)) (rC11) (rC12) (rC14) (rC15) (rC17) (rC18) (rC19) SC) (wr := w6 ca qP0 (.ref (qT0 0)) (rP01) SP0 ++ w7 ca qT0 ST0) X hP hD hS (mX11_refuse hg) okX11_refuse wl_X11_121 wi_X11_refuse ws_X11_X11_refuse_X11_refuse ⟨rfl, rfl, Nat.le_of_ble_eq_true rfl, Nat.le_of_ble_eq_true rfl⟩ 11 0 rfl rfl [0] [1, 2, 3, 4, 5, 6, 7, 8, 9, 10, 11, 12] ⟨rfl, rfl, rfl, rfl, by decide⟩ rfl hl.1 (Nat.le_of_ble_eq_true rfl) dX11_prop_33 (fun H locs hP hD hS => ?_)
      have hP := hP.sub (ws' := (w11 ca qC (rC3) (rC4) (rC6) (rC7) (.ref (qP0 0)) (rC11) (rC12) (rC14) (rC15) (rC17) (rC18) (rC19) z6.2 ++ w6 ca qP0 (.ref (qT0 0)) (rP01) SP0 ++ w7 ca qT0 ST0)) [12, 0, 1, 2, 3, 4, 5, 6, 7, 8, 9, 10, 11] rfl
      have hD := hD.sub (ws' := (w11 ca qC (rC3) (rC4) (rC6) (rC7) (.ref (qP0 0)) (rC11) (rC12) (rC14) (rC15) (rC17) (rC18) (rC19) z6.2 ++ w6 ca qP0 (.ref (qT0 0)) (rP01) SP0 ++ w7 ca qT0 ST0)) [12, 0, 1, 2, 3, 4, 5, 6, 7, 8, 9, 10, 11] rfl rfl
      obtain rfl := Option.some.inj hf
      exact tc_ri X hP hD hS rfl dX11_prop_36 rfl rfl
  · have hf := tc_pos hc hf
    refine lv_aload_n hx hb dX11_prop_16 rfl (lv_at hl 1 rfl) ?_
    refine lv_iconst (v := (2 : Int32)) hx hb dX11_prop_17 (by decide) ?_
    obtain ⟨z7, hg, hf⟩ := tc_bi hf
    refine tc_iV (As := [.int ((2 : Int32))]) (rest := []) (b := qC 0) (wc := w11 ca qC (rC3) (rC4) (rC6) (rC7) (.ref (qP0 0)) (rC11) (rC12) (rC14) (rC15) (rC17) (rC18) (rC19) SC) (wr := w6 ca qP0 (.ref (qT0 0)) (rP01) SP0 ++ w7 ca qT0 ST0) X hP hD hS (mX11_refuse hg) okX11_refuse wl_X11_121 wi_X11_refuse ws_X11_X11_refuse_X11_refuse ⟨rfl, rfl, Nat.le_of_ble_eq_true rfl, Nat.le_of_ble_eq_true rfl⟩ 11 0 rfl rfl [0] [1, 2, 3, 4, 5, 6, 7, 8, 9, 10, 11, 12] ⟨rfl, rfl, rfl, rfl, by decide⟩ rfl hl.1 (Nat.le_of_ble_eq_true rfl) dX11_prop_18 (fun H locs hP hD hS => ?_)
    have hP := hP.sub (ws' := (w11 ca qC (rC3) (rC4) (rC6) (rC7) (.ref (qP0 0)) (rC11) (rC12) (rC14) (rC15) (rC17) (rC18) (rC19) z7.2 ++ w6 ca qP0 (.ref (qT0 0)) (rP01) SP0 ++ w7 ca qT0 ST0)) [12, 0, 1, 2, 3, 4, 5, 6, 7, 8, 9, 10, 11] rfl
    have hD := hD.sub (ws' := (w11 ca qC (rC3) (rC4) (rC6) (rC7) (.ref (qP0 0)) (rC11) (rC12) (rC14) (rC15) (rC17) (rC18) (rC19) z7.2 ++ w6 ca qP0 (.ref (qT0 0)) (rP01) SP0 ++ w7 ca qT0 ST0)) [12, 0, 1, 2, 3, 4, 5, 6, 7, 8, 9, 10, 11] rfl rfl
    obtain rfl := Option.some.inj hf
    exact tc_ri X hP hD hS rfl dX11_prop_21 rfl rfl
def fX11_cut  (SC : ms_T) (SP0 : ms_T) (ST0 : ms_T) (a1 : Int32) : Option (Int32 × ms_T × ms_T) :=
  (fX7_isClaim ST0 a1).bind fun z1 =>
  if z1 = 0 then
    (fX11_refuse SC (2 : Int32)).bind fun z7 =>
    some (z7.1, z7.2, ST0)
  else
    (fX7_isPropped ST0 a1).bind fun z2 =>
    if z2 = 0 then
      (fX11_refuse SC (9 : Int32)).bind fun z6 =>
      some (z6.1, z6.2, ST0)
    else
      (fX7_standing (si ST0 7 ((gi ST0 7) &&& (((1 : Int32) <<< (a1 &&& 31)) ^^^ (-1 : Int32))))).bind fun z3 =>
      (fJ6_bitCount_0f7a4 z3).bind fun z4 =>
      (fX11_answer SC z4).bind fun z5 =>
      some (z5.1, z5.2, si ST0 7 ((gi ST0 7) &&& (((1 : Int32) <<< (a1 &&& 31)) ^^^ (-1 : Int32))))
abbrev rmX11_cut : Room := { frames := 2, cells := 0, slots := 0, locals := 45 }
theorem okX11_cut : tc_ok yX11_cut cX11_cut 3 (some .int) 1 := ⟨wc_X11_cut, wn_X11, by decide, by decide, by decide +kernel⟩
set_option maxRecDepth 20000 in
theorem mX11_cut {qC : Nat → Nat} {qP0 : Nat → Nat} {qT0 : Nat → Nat} {rC3 : Value} {rC4 : Value} {rC6 : Value} {rC7 : Value} {rC11 : Value} {rC12 : Value} {rC14 : Value} {rC15 : Value} {rC17 : Value} {rC18 : Value} {rC19 : Value} {rP01 : Value} {SC : ms_T} {SP0 : ms_T} {ST0 : ms_T} {a1 : Int32} {z : Int32 × ms_T × ms_T}  (hf : fX11_cut SC SP0 ST0 a1 = some z) : tc_MI l dC dI ca yX11_cut cX11_cut 3 (some .int) rmX11_cut [.ref (qC 0), .int (a1)] (w11 ca qC (rC3) (rC4) (rC6) (rC7) (.ref (qP0 0)) (rC11) (rC12) (rC14) (rC15) (rC17) (rC18) (rC19) SC ++ w6 ca qP0 (.ref (qT0 0)) (rP01) SP0 ++ w7 ca qT0 ST0) (w11 ca qC (rC3) (rC4) (rC6) (rC7) (.ref (qP0 0)) (rC11) (rC12) (rC14) (rC15) (rC17) (rC18) (rC19) z.2.1 ++ w6 ca qP0 (.ref (qT0 0)) (rP01) SP0 ++ w7 ca qT0 z.2.2) (z.1) := by
  refine tc_metI (own := RX11) (by decide) rfl ?_ (Nat.le_of_ble_eq_true rfl)
  intro p e s m below meth c A X hP hD hS ls hl
  obtain ⟨hx, hb, hr, hml, hown, hts, hlk, hK, hA, hG⟩ := id X
  unfold fX11_cut at hf
  have hl : lv_has ls 3 [(0, .ref (qC 0)), (1, .int (a1))] := hl
  refine lv_aload_n hx hb dX11_cut_0 rfl (lv_at hl 0 rfl) ?_
  refine va_get (D := (dC, dI)) (ci := 11) (v := .ref (qP0 0)) (C := RX11) (T := TX11) (N := 20) hx hb hts i_X11 hown hK hP 0 rfl rfl 10 (by decide) (hts _ wf_X11_39) (fun _ h9 => h9) rfl dX11_cut_1 ?_
  refine va_get (D := (dC, dI)) (ci := 6) (v := .ref (qT0 0)) (C := RX6) (T := TX6) (N := 2) hx hb hts i_X6 hown hK hP 1 rfl rfl 0 (by decide) (hts _ wf_X11_152) (fun _ h9 => h9) rfl dX11_cut_4 ?_
  refine lv_astore_n (lv' := [(2, .ref (qT0 0)), (0, .ref (qC 0)), (1, .int (a1))]) hx hb dX11_cut_7 rfl hl (by decide) rfl (fun ls hl => ?_)
  refine lv_aload_n hx hb dX11_cut_8 rfl (lv_at hl 0 rfl) ?_
  refine lv_iload_n hx hb dX11_cut_9 rfl (lv_at hl 2 rfl) ?_
  obtain ⟨z1, hg, hf⟩ := tc_bi hf
  refine tc_iV (As := [.int (a1)]) (rest := []) (b := qT0 0) (wc := w7 ca qT0 ST0) (wr := w11 ca qC (rC3) (rC4) (rC6) (rC7) (.ref (qP0 0)) (rC11) (rC12) (rC14) (rC15) (rC17) (rC18) (rC19) SC ++ w6 ca qP0 (.ref (qT0 0)) (rP01) SP0) X hP hD hS (mX7_isClaim hg) okX7_isClaim wl_X11_235 wi_X7_isClaim ws_X7_X7_isClaim_X7_isClaim ⟨rfl, rfl, Nat.le_of_ble_eq_true rfl, Nat.le_of_ble_eq_true rfl⟩ 7 0 rfl rfl [2, 3, 4, 5, 6, 7, 8, 9, 10, 11, 12] [0, 1] ⟨rfl, rfl, rfl, rfl, by decide⟩ rfl hl.1 (Nat.le_of_ble_eq_true rfl) dX11_cut_10 (fun H locs hP hD hS => ?_)
  have hP := hP.sub (ws' := (w11 ca qC (rC3) (rC4) (rC6) (rC7) (.ref (qP0 0)) (rC11) (rC12) (rC14) (rC15) (rC17) (rC18) (rC19) SC ++ w6 ca qP0 (.ref (qT0 0)) (rP01) SP0 ++ w7 ca qT0 ST0)) [0, 1, 2, 3, 4, 5, 6, 7, 8, 9, 10, 11, 12] rfl
  have hD := hD.sub (ws' := (w11 ca qC (rC3) (rC4) (rC6) (rC7) (.ref (qP0 0)) (rC11) (rC12) (rC14) (rC15) (rC17) (rC18) (rC19) SC ++ w6 ca qP0 (.ref (qT0 0)) (rP01) SP0 ++ w7 ca qT0 ST0)) [0, 1, 2, 3, 4, 5, 6, 7, 8, 9, 10, 11, 12] rfl rfl
  refine lv_if_ne (tgt := 22) hx hb dX11_cut_13 (by decide) (fun hc => ?_) (fun hc => ?_)
  · have hf := tc_neg hc hf
    refine lv_aload_n hx hb dX11_cut_22 rfl (lv_at hl 0 rfl) ?_
    refine lv_iload_n hx hb dX11_cut_23 rfl (lv_at hl 2 rfl) ?_
    obtain ⟨z2, hg, hf⟩ := tc_bi hf
    refine tc_iV (As := [.int (a1)]) (rest := []) (b := qT0 0) (wc := w7 ca qT0 ST0) (wr := w11 ca qC (rC3) (rC4) (rC6) (rC7) (.ref (qP0 0)) (rC11) (rC12) (rC14) (rC15) (rC17) (rC18) (rC19) SC ++ w6 ca qP0 (.ref (qT0 0)) (rP01) SP0) X hP hD hS (mX7_isPropped hg) okX7_isPropped wl_X11_281 wi_X7_isPropped ws_X7_X7_isPropped_X7_isPropped ⟨rfl, rfl, Nat.le_of_ble_eq_true rfl, Nat.le_of_ble_eq_true rfl⟩ 7 0 rfl rfl [2, 3, 4, 5, 6, 7, 8, 9, 10, 11, 12] [0, 1] ⟨rfl, rfl, rfl, rfl, by decide⟩ rfl hl.1 (Nat.le_of_ble_eq_true rfl) dX11_cut_24 (fun H locs hP hD hS => ?_)
    have hP := hP.sub (ws' := (w11 ca qC (rC3) (rC4) (rC6) (rC7) (.ref (qP0 0)) (rC11) (rC12) (rC14) (rC15) (rC17) (rC18) (rC19) SC ++ w6 ca qP0 (.ref (qT0 0)) (rP01) SP0 ++ w7 ca qT0 ST0)) [0, 1, 2, 3, 4, 5, 6, 7, 8, 9, 10, 11, 12] rfl
    have hD := hD.sub (ws' := (w11 ca qC (rC3) (rC4) (rC6) (rC7) (.ref (qP0 0)) (rC11) (rC12) (rC14) (rC15) (rC17) (rC18) (rC19) SC ++ w6 ca qP0 (.ref (qT0 0)) (rP01) SP0 ++ w7 ca qT0 ST0)) [0, 1, 2, 3, 4, 5, 6, 7, 8, 9, 10, 11, 12] rfl rfl
    refine lv_if_ne (tgt := 37) hx hb dX11_cut_27 (by decide) (fun hc => ?_) (fun hc => ?_)
    · have hf := tc_neg hc hf
      refine lv_aload_n hx hb dX11_cut_37 rfl (lv_at hl 0 rfl) ?_
      refine lv_dup hx hb dX11_cut_38 rfl ?_
      refine va_get (D := (dC, dI)) (ci := 7) (v := .int (gi ST0 7)) (C := RX7) (T := TX7) (N := 18) hx hb hts i_X7 hown hK hP 2 rfl rfl 7 (by decide) (hts _ wf_X11_213) (fun _ h9 => h9) rfl dX11_cut_39 ?_
      refine lv_iconst (v := (1 : Int32)) hx hb dX11_cut_42 (by decide) ?_
      refine lv_iload_n hx hb dX11_cut_43 rfl (lv_at hl 2 rfl) ?_
      refine lv_ishl hx hb dX11_cut_44 ?_
      refine lv_iconst (v := (-1 : Int32)) hx hb dX11_cut_45 (by decide) ?_
      refine lv_ixor hx hb dX11_cut_46 ?_
      refine lv_iand hx hb dX11_cut_47 ?_
      refine va_put (D := (dC, dI)) (ci := 7) (v := .int ((gi ST0 7) &&& (((1 : Int32) <<< (a1 &&& 31)) ^^^ (-1 : Int32)))) (ty := .int) (C := RX7) (T := TX7) (N := 18) hx hb hts i_X7 tyX7 tyX7_ok nmX7 hown hK hP hD hS 2 rfl rfl 7 (by decide) (hts _ wf_X11_213) (fun _ h9 => h9) rfl (tyX7_ok 7 (by decide)) rfl rfl (Nat.le_of_ble_eq_true rfl) dX11_cut_48 (fun H locs hP hD hS => ?_)
      have hP := tc_eP (pw11_6_7_2_7 ca qC qP0 qT0 (rC3) (rC4) (rC6) (rC7) (.ref (qP0 0)) (rC11) (rC12) (rC14) (rC15) (rC17) (rC18) (rC19) (.ref (qT0 0)) (rP01) SC SP0 ST0 ((gi ST0 7) &&& (((1 : Int32) <<< (a1 &&& 31)) ^^^ (-1 : Int32)))) hP
      have hD := tc_eD (pw11_6_7_2_7 ca qC qP0 qT0 (rC3) (rC4) (rC6) (rC7) (.ref (qP0 0)) (rC11) (rC12) (rC14) (rC15) (rC17) (rC18) (rC19) (.ref (qT0 0)) (rP01) SC SP0 ST0 ((gi ST0 7) &&& (((1 : Int32) <<< (a1 &&& 31)) ^^^ (-1 : Int32)))) hD
      refine lv_aload_n hx hb dX11_cut_51 rfl (lv_at hl 1 rfl) ?_
      refine lv_aload_n hx hb dX11_cut_52 rfl (lv_at hl 0 rfl) ?_
      obtain ⟨z3, hg, hf⟩ := tc_bi hf
      refine tc_iV (As := []) (rest := [.ref (qC 0)]) (b := qT0 0) (wc := w7 ca qT0 (si ST0 7 ((gi ST0 7) &&& (((1 : Int32) <<< (a1 &&& 31)) ^^^ (-1 : Int32))))) (wr := w11 ca qC (rC3) (rC4) (rC6) (rC7) (.ref (qP0 0)) (rC11) (rC12) (rC14) (rC15) (rC17) (rC18) (rC19) SC ++ w6 ca qP0 (.ref (qT0 0)) (rP01) SP0) X hP hD hS (mX7_standing hg) okX7_standing wl_X11_209 wi_X7_standing ws_X7_X7_standing_X7_standing ⟨rfl, rfl, Nat.le_of_ble_eq_true rfl, Nat.le_of_ble_eq_true rfl⟩ 7 0 rfl rfl [2, 3, 4, 5, 6, 7, 8, 9, 10, 11, 12] [0, 1] ⟨rfl, rfl, rfl, rfl, by decide⟩ rfl hl.1 (Nat.le_of_ble_eq_true rfl) dX11_cut_53 (fun H locs hP hD hS => ?_)
      have hP := hP.sub (ws' := (w11 ca qC (rC3) (rC4) (rC6) (rC7) (.ref (qP0 0)) (rC11) (rC12) (rC14) (rC15) (rC17) (rC18) (rC19) SC ++ w6 ca qP0 (.ref (qT0 0)) (rP01) SP0 ++ w7 ca qT0 (si ST0 7 ((gi ST0 7) &&& (((1 : Int32) <<< (a1 &&& 31)) ^^^ (-1 : Int32)))))) [0, 1, 2, 3, 4, 5, 6, 7, 8, 9, 10, 11, 12] rfl
      have hD := hD.sub (ws' := (w11 ca qC (rC3) (rC4) (rC6) (rC7) (.ref (qP0 0)) (rC11) (rC12) (rC14) (rC15) (rC17) (rC18) (rC19) SC ++ w6 ca qP0 (.ref (qT0 0)) (rP01) SP0 ++ w7 ca qT0 (si ST0 7 ((gi ST0 7) &&& (((1 : Int32) <<< (a1 &&& 31)) ^^^ (-1 : Int32)))))) [0, 1, 2, 3, 4, 5, 6, 7, 8, 9, 10, 11, 12] rfl rfl
      obtain ⟨z4, hg, hf⟩ := tc_bi hf
      refine tc_iS0 (As := [.int (z3)]) (rest := [.ref (qC 0)]) X hP hD hS (mJ6_bitCount_0f7a4 hg) okJ6_bitCount_0f7a4 wl_X11_284 wt_J6_bitCount_0f7a4 ⟨rfl, rfl, Nat.le_of_ble_eq_true rfl, Nat.le_of_ble_eq_true rfl⟩ rfl hl.1 (Nat.le_of_ble_eq_true rfl) dX11_cut_56 (fun H locs hP hD hS => ?_)
      obtain ⟨z5, hg, hf⟩ := tc_bi hf
      refine tc_iV (As := [.int (z4)]) (rest := []) (b := qC 0) (wc := w11 ca qC (rC3) (rC4) (rC6) (rC7) (.ref (qP0 0)) (rC11) (rC12) (rC14) (rC15) (rC17) (rC18) (rC19) SC) (wr := w6 ca qP0 (.ref (qT0 0)) (rP01) SP0 ++ w7 ca qT0 (si ST0 7 ((gi ST0 7) &&& (((1 : Int32) <<< (a1 &&& 31)) ^^^ (-1 : Int32))))) X hP hD hS (mX11_answer hg) okX11_answer wl_X11_182 wi_X11_answer ws_X11_X11_answer_X11_answer ⟨rfl, rfl, Nat.le_of_ble_eq_true rfl, Nat.le_of_ble_eq_true rfl⟩ 11 0 rfl rfl [0] [1, 2, 3, 4, 5, 6, 7, 8, 9, 10, 11, 12] ⟨rfl, rfl, rfl, rfl, by decide⟩ rfl hl.1 (Nat.le_of_ble_eq_true rfl) dX11_cut_59 (fun H locs hP hD hS => ?_)
      have hP := hP.sub (ws' := (w11 ca qC (rC3) (rC4) (rC6) (rC7) (.ref (qP0 0)) (rC11) (rC12) (rC14) (rC15) (rC17) (rC18) (rC19) z5.2 ++ w6 ca qP0 (.ref (qT0 0)) (rP01) SP0 ++ w7 ca qT0 (si ST0 7 ((gi ST0 7) &&& (((1 : Int32) <<< (a1 &&& 31)) ^^^ (-1 : Int32)))))) [12, 0, 1, 2, 3, 4, 5, 6, 7, 8, 9, 10, 11] rfl
      have hD := hD.sub (ws' := (w11 ca qC (rC3) (rC4) (rC6) (rC7) (.ref (qP0 0)) (rC11) (rC12) (rC14) (rC15) (rC17) (rC18) (rC19) z5.2 ++ w6 ca qP0 (.ref (qT0 0)) (rP01) SP0 ++ w7 ca qT0 (si ST0 7 ((gi ST0 7) &&& (((1 : Int32) <<< (a1 &&& 31)) ^^^ (-1 : Int32)))))) [12, 0, 1, 2, 3, 4, 5, 6, 7, 8, 9, 10, 11] rfl rfl
      obtain rfl := Option.some.inj hf
      exact tc_ri X hP hD hS rfl dX11_cut_62 rfl rfl
    · have hf := tc_pos hc hf
      refine lv_aload_n hx hb dX11_cut_30 rfl (lv_at hl 1 rfl) ?_
      refine lv_bipush (v := (9 : Int32)) hx hb dX11_cut_31 (by decide) ?_
      obtain ⟨z6, hg, hf⟩ := tc_bi hf
      refine tc_iV (As := [.int ((9 : Int32))]) (rest := []) (b := qC 0) (wc := w11 ca qC (rC3) (rC4) (rC6) (rC7) (.ref (qP0 0)) (rC11) (rC12) (rC14) (rC15) (rC17) (rC18) (rC19) SC) (wr := w6 ca qP0 (.ref (qT0 0)) (rP01) SP0 ++ w7 ca qT0 ST0) X hP hD hS (mX11_refuse hg) okX11_refuse wl_X11_121 wi_X11_refuse ws_X11_X11_refuse_X11_refuse ⟨rfl, rfl, Nat.le_of_ble_eq_true rfl, Nat.le_of_ble_eq_true rfl⟩ 11 0 rfl rfl [0] [1, 2, 3, 4, 5, 6, 7, 8, 9, 10, 11, 12] ⟨rfl, rfl, rfl, rfl, by decide⟩ rfl hl.1 (Nat.le_of_ble_eq_true rfl) dX11_cut_33 (fun H locs hP hD hS => ?_)
      have hP := hP.sub (ws' := (w11 ca qC (rC3) (rC4) (rC6) (rC7) (.ref (qP0 0)) (rC11) (rC12) (rC14) (rC15) (rC17) (rC18) (rC19) z6.2 ++ w6 ca qP0 (.ref (qT0 0)) (rP01) SP0 ++ w7 ca qT0 ST0)) [12, 0, 1, 2, 3, 4, 5, 6, 7, 8, 9, 10, 11] rfl
      have hD := hD.sub (ws' := (w11 ca qC (rC3) (rC4) (rC6) (rC7) (.ref (qP0 0)) (rC11) (rC12) (rC14) (rC15) (rC17) (rC18) (rC19) z6.2 ++ w6 ca qP0 (.ref (qT0 0)) (rP01) SP0 ++ w7 ca qT0 ST0)) [12, 0, 1, 2, 3, 4, 5, 6, 7, 8, 9, 10, 11] rfl rfl
      obtain rfl := Option.some.inj hf
      exact tc_ri X hP hD hS rfl dX11_cut_36 rfl rfl
  · have hf := tc_pos hc hf
    refine lv_aload_n hx hb dX11_cut_16 rfl (lv_at hl 1 rfl) ?_
    refine lv_iconst (v := (2 : Int32)) hx hb dX11_cut_17 (by decide) ?_
    obtain ⟨z7, hg, hf⟩ := tc_bi hf
    refine tc_iV (As := [.int ((2 : Int32))]) (rest := []) (b := qC 0) (wc := w11 ca qC (rC3) (rC4) (rC6) (rC7) (.ref (qP0 0)) (rC11) (rC12) (rC14) (rC15) (rC17) (rC18) (rC19) SC) (wr := w6 ca qP0 (.ref (qT0 0)) (rP01) SP0 ++ w7 ca qT0 ST0) X hP hD hS (mX11_refuse hg) okX11_refuse wl_X11_121 wi_X11_refuse ws_X11_X11_refuse_X11_refuse ⟨rfl, rfl, Nat.le_of_ble_eq_true rfl, Nat.le_of_ble_eq_true rfl⟩ 11 0 rfl rfl [0] [1, 2, 3, 4, 5, 6, 7, 8, 9, 10, 11, 12] ⟨rfl, rfl, rfl, rfl, by decide⟩ rfl hl.1 (Nat.le_of_ble_eq_true rfl) dX11_cut_18 (fun H locs hP hD hS => ?_)
    have hP := hP.sub (ws' := (w11 ca qC (rC3) (rC4) (rC6) (rC7) (.ref (qP0 0)) (rC11) (rC12) (rC14) (rC15) (rC17) (rC18) (rC19) z7.2 ++ w6 ca qP0 (.ref (qT0 0)) (rP01) SP0 ++ w7 ca qT0 ST0)) [12, 0, 1, 2, 3, 4, 5, 6, 7, 8, 9, 10, 11] rfl
    have hD := hD.sub (ws' := (w11 ca qC (rC3) (rC4) (rC6) (rC7) (.ref (qP0 0)) (rC11) (rC12) (rC14) (rC15) (rC17) (rC18) (rC19) z7.2 ++ w6 ca qP0 (.ref (qT0 0)) (rP01) SP0 ++ w7 ca qT0 ST0)) [12, 0, 1, 2, 3, 4, 5, 6, 7, 8, 9, 10, 11] rfl rfl
    obtain rfl := Option.some.inj hf
    exact tc_ri X hP hD hS rfl dX11_cut_21 rfl rfl
theorem aw11_6_7_2_6 (ca : Nat → ClassId) (q0 q1 q2 : Nat → Nat) (r0_3 r0_4 r0_6 r0_7 r0_10 r0_11 r0_12 r0_14 r0_15 r0_17 r0_18 r0_19 r1_0 r1_1 : Value) (S0 S1 S2 : ms_T) (i v : Int32) : (w11 ca q0 r0_3 r0_4 r0_6 r0_7 r0_10 r0_11 r0_12 r0_14 r0_15 r0_17 r0_18 r0_19 S0 ++ w6 ca q1 r1_0 r1_1 S1 ++ w7 ca q2 S2 : va_W).set 8 (q2 6, .inl (ca 1, 6, .inl (upd (ra S2 6) i.toNatClampNeg v))) = w11 ca q0 r0_3 r0_4 r0_6 r0_7 r0_10 r0_11 r0_12 r0_14 r0_15 r0_17 r0_18 r0_19 S0 ++ w6 ca q1 r1_0 r1_1 S1 ++ w7 ca q2 (sa S2 6 i v) := rfl
theorem pw11_6_7_2_12 (ca : Nat → ClassId) (q0 q1 q2 : Nat → Nat) (r0_3 r0_4 r0_6 r0_7 r0_10 r0_11 r0_12 r0_14 r0_15 r0_17 r0_18 r0_19 r1_0 r1_1 : Value) (S0 S1 S2 : ms_T) (v : Int32) : (w11 ca q0 r0_3 r0_4 r0_6 r0_7 r0_10 r0_11 r0_12 r0_14 r0_15 r0_17 r0_18 r0_19 S0 ++ w6 ca q1 r1_0 r1_1 S1 ++ w7 ca q2 S2 : va_W).set 2 (q2 0, .inr (7, List.set (.int (gi S2 0) :: .int (gi S2 1) :: .ref (q2 1) :: .ref (q2 2) :: .int (gi S2 4) :: .ref (q2 3) :: .ref (q2 4) :: .int (gi S2 7) :: .int (gi S2 8) :: .ref (q2 5) :: .ref (q2 6) :: .ref (q2 7) :: .int (gi S2 12) :: .int (gi S2 13) :: .ref (q2 8) :: .ref (q2 9) :: .int (gi S2 16) :: .ref (q2 10) :: []) 12 (.int v))) = w11 ca q0 r0_3 r0_4 r0_6 r0_7 r0_10 r0_11 r0_12 r0_14 r0_15 r0_17 r0_18 r0_19 S0 ++ w6 ca q1 r1_0 r1_1 S1 ++ w7 ca q2 (si S2 12 v) := rfl
def fX11_lift_24  (SP0 : ms_T)  (SC : ms_T) (ST0 : ms_T) : Option (Int32 × ms_T × ms_T) :=
  (fX11_refuse SC (2 : Int32)).bind fun z2 =>
  some (z2.1, z2.2, ST0)
def fX11_lift  (SC : ms_T) (SP0 : ms_T) (ST0 : ms_T) (a1 : Int32) (a2 : Int32) : Option (Int32 × ms_T × ms_T) :=
  (fX7_isTalker ST0 a1).bind fun z1 =>
  if z1 = 0 then
    fX11_lift_24 SP0 SC ST0
  else
    (fX7_isHeight ST0 a2).bind fun z3 =>
    if z3 = 0 then
      fX11_lift_24 SP0 SC ST0
    else
      if a2 = 0 then
        (fX11_refuse SC (5 : Int32)).bind fun z7 =>
        some (z7.1, z7.2, ST0)
      else
        if inb a1 6 = true then
          if inb a1 6 = true then
            (fX11_answer SC (ia ST0 6 a1)).bind fun z6 =>
            some (z6.1, z6.2, si (sa ST0 6 a1 a2) 12 ((gi (sa ST0 6 a1 a2) 12) &&& (((1 : Int32) <<< (a1 &&& 31)) ^^^ (-1 : Int32))))
          else none
        else none
abbrev rmX11_lift : Room := { frames := 1, cells := 0, slots := 0, locals := 21 }
theorem okX11_lift : tc_ok yX11_lift cX11_lift 5 (some .int) 2 := ⟨wc_X11_lift, wn_X11, by decide, by decide, by decide +kernel⟩
set_option maxRecDepth 20000 in
theorem tX11_lift_24 {qC : Nat → Nat} {qP0 : Nat → Nat} {qT0 : Nat → Nat} {rC3 : Value} {rC4 : Value} {rC6 : Value} {rC7 : Value} {rC11 : Value} {rC12 : Value} {rC14 : Value} {rC15 : Value} {rC17 : Value} {rC18 : Value} {rC19 : Value} {rP01 : Value} (X : tc_X dC dI ca A RX11 cX11_lift 5 (some .int) p s m args meth c) (z : Int32 × ms_T × ms_T)  (SP0 : ms_T)   : ∀ (SC : ms_T) (ST0 : ms_T), fX11_lift_24 SP0 SC ST0 = some z → ∀ (H : Heap) (locs : List Loc) (ls : Array Slot), va_P (dC, dI) classes (w11 ca qC (rC3) (rC4) (rC6) (rC7) (.ref (qP0 0)) (rC11) (rC12) (rC14) (rC15) (rC17) (rC18) (rC19) SC ++ w6 ca qP0 (.ref (qT0 0)) (rP01) SP0 ++ w7 ca qT0 ST0) H → va_D A (w11 ca qC (rC3) (rC4) (rC6) (rC7) (.ref (qP0 0)) (rC11) (rC12) (rC14) (rC15) (rC17) (rC18) (rC19) SC ++ w6 ca qP0 (.ref (qT0 0)) (rP01) SP0 ++ w7 ca qT0 ST0) → va_S A s.heap H locs → lv_has ls 5 [(0, .ref (qC 0))] → W p l e rmX11_lift s m args below meth c H locs 0 0 (MQ below (tc_QI dC dI ca A (w11 ca qC (rC3) (rC4) (rC6) (rC7) (.ref (qP0 0)) (rC11) (rC12) (rC14) (rC15) (rC17) (rC18) (rC19) z.2.1 ++ w6 ca qP0 (.ref (qT0 0)) (rP01) SP0 ++ w7 ca qT0 z.2.2) (z.1)) args s 0 0 A) (F0 m 24 ls []) := by
  obtain ⟨hx, hb, hr, hml, hown, hts, hlk, hK, hA, hG⟩ := id X
  intro SC ST0 hf H locs ls hP hD hS hl
  unfold fX11_lift_24 at hf
  refine lv_aload_n hx hb dX11_lift_24 rfl (lv_at hl 0 rfl) ?_
  refine lv_iconst (v := (2 : Int32)) hx hb dX11_lift_25 (by decide) ?_
  obtain ⟨z2, hg, hf⟩ := tc_bi hf
  refine tc_iV (As := [.int ((2 : Int32))]) (rest := []) (b := qC 0) (wc := w11 ca qC (rC3) (rC4) (rC6) (rC7) (.ref (qP0 0)) (rC11) (rC12) (rC14) (rC15) (rC17) (rC18) (rC19) SC) (wr := w6 ca qP0 (.ref (qT0 0)) (rP01) SP0 ++ w7 ca qT0 ST0) X hP hD hS (mX11_refuse hg) okX11_refuse wl_X11_121 wi_X11_refuse ws_X11_X11_refuse_X11_refuse ⟨rfl, rfl, Nat.le_of_ble_eq_true rfl, Nat.le_of_ble_eq_true rfl⟩ 11 0 rfl rfl [0] [1, 2, 3, 4, 5, 6, 7, 8, 9, 10, 11, 12] ⟨rfl, rfl, rfl, rfl, by decide⟩ rfl hl.1 (Nat.le_of_ble_eq_true rfl) dX11_lift_26 (fun H locs hP hD hS => ?_)
  have hP := hP.sub (ws' := (w11 ca qC (rC3) (rC4) (rC6) (rC7) (.ref (qP0 0)) (rC11) (rC12) (rC14) (rC15) (rC17) (rC18) (rC19) z2.2 ++ w6 ca qP0 (.ref (qT0 0)) (rP01) SP0 ++ w7 ca qT0 ST0)) [12, 0, 1, 2, 3, 4, 5, 6, 7, 8, 9, 10, 11] rfl
  have hD := hD.sub (ws' := (w11 ca qC (rC3) (rC4) (rC6) (rC7) (.ref (qP0 0)) (rC11) (rC12) (rC14) (rC15) (rC17) (rC18) (rC19) z2.2 ++ w6 ca qP0 (.ref (qT0 0)) (rP01) SP0 ++ w7 ca qT0 ST0)) [12, 0, 1, 2, 3, 4, 5, 6, 7, 8, 9, 10, 11] rfl rfl
  obtain rfl := Option.some.inj hf
  exact tc_ri X hP hD hS rfl dX11_lift_29 rfl rfl
set_option maxRecDepth 20000 in
theorem mX11_lift {qC : Nat → Nat} {qP0 : Nat → Nat} {qT0 : Nat → Nat} {rC3 : Value} {rC4 : Value} {rC6 : Value} {rC7 : Value} {rC11 : Value} {rC12 : Value} {rC14 : Value} {rC15 : Value} {rC17 : Value} {rC18 : Value} {rC19 : Value} {rP01 : Value} {SC : ms_T} {SP0 : ms_T} {ST0 : ms_T} {a1 : Int32} {a2 : Int32} {z : Int32 × ms_T × ms_T}  (hf : fX11_lift SC SP0 ST0 a1 a2 = some z) : tc_MI l dC dI ca yX11_lift cX11_lift 5 (some .int) rmX11_lift [.ref (qC 0), .int (a1), .int (a2)] (w11 ca qC (rC3) (rC4) (rC6) (rC7) (.ref (qP0 0)) (rC11) (rC12) (rC14) (rC15) (rC17) (rC18) (rC19) SC ++ w6 ca qP0 (.ref (qT0 0)) (rP01) SP0 ++ w7 ca qT0 ST0) (w11 ca qC (rC3) (rC4) (rC6) (rC7) (.ref (qP0 0)) (rC11) (rC12) (rC14) (rC15) (rC17) (rC18) (rC19) z.2.1 ++ w6 ca qP0 (.ref (qT0 0)) (rP01) SP0 ++ w7 ca qT0 z.2.2) (z.1) := by
  refine tc_metI (own := RX11) (by decide) rfl ?_ (Nat.le_of_ble_eq_true rfl)
  intro p e s m below meth c A X hP hD hS ls hl
  obtain ⟨hx, hb, hr, hml, hown, hts, hlk, hK, hA, hG⟩ := id X
  unfold fX11_lift at hf
  have hl : lv_has ls 5 [(0, .ref (qC 0)), (1, .int (a1)), (2, .int (a2))] := hl
  refine lv_aload_n hx hb dX11_lift_0 rfl (lv_at hl 0 rfl) ?_
  refine va_get (D := (dC, dI)) (ci := 11) (v := .ref (qP0 0)) (C := RX11) (T := TX11) (N := 20) hx hb hts i_X11 hown hK hP 0 rfl rfl 10 (by decide) (hts _ wf_X11_39) (fun _ h9 => h9) rfl dX11_lift_1 ?_
  refine va_get (D := (dC, dI)) (ci := 6) (v := .ref (qT0 0)) (C := RX6) (T := TX6) (N := 2) hx hb hts i_X6 hown hK hP 1 rfl rfl 0 (by decide) (hts _ wf_X11_152) (fun _ h9 => h9) rfl dX11_lift_4 ?_
  refine lv_astore_n (lv' := [(3, .ref (qT0 0)), (0, .ref (qC 0)), (1, .int (a1)), (2, .int (a2))]) hx hb dX11_lift_7 rfl hl (by decide) rfl (fun ls hl => ?_)
  refine lv_aload_n hx hb dX11_lift_8 rfl (lv_at hl 0 rfl) ?_
  refine lv_iload_n hx hb dX11_lift_9 rfl (lv_at hl 2 rfl) ?_
  obtain ⟨z1, hg, hf⟩ := tc_bi hf
  refine tc_iV (As := [.int (a1)]) (rest := []) (b := qT0 0) (wc := w7 ca qT0 ST0) (wr := w11 ca qC (rC3) (rC4) (rC6) (rC7) (.ref (qP0 0)) (rC11) (rC12) (rC14) (rC15) (rC17) (rC18) (rC19) SC ++ w6 ca qP0 (.ref (qT0 0)) (rP01) SP0) X hP hD hS (mX7_isTalker hg) okX7_isTalker wl_X11_244 wi_X7_isTalker ws_X7_X7_isTalker_X7_isTalker ⟨rfl, rfl, Nat.le_of_ble_eq_true rfl, Nat.le_of_ble_eq_true rfl⟩ 7 0 rfl rfl [2, 3, 4, 5, 6, 7, 8, 9, 10, 11, 12] [0, 1] ⟨rfl, rfl, rfl, rfl, by decide⟩ rfl hl.1 (Nat.le_of_ble_eq_true rfl) dX11_lift_10 (fun H locs hP hD hS => ?_)
  have hP := hP.sub (ws' := (w11 ca qC (rC3) (rC4) (rC6) (rC7) (.ref (qP0 0)) (rC11) (rC12) (rC14) (rC15) (rC17) (rC18) (rC19) SC ++ w6 ca qP0 (.ref (qT0 0)) (rP01) SP0 ++ w7 ca qT0 ST0)) [0, 1, 2, 3, 4, 5, 6, 7, 8, 9, 10, 11, 12] rfl
  have hD := hD.sub (ws' := (w11 ca qC (rC3) (rC4) (rC6) (rC7) (.ref (qP0 0)) (rC11) (rC12) (rC14) (rC15) (rC17) (rC18) (rC19) SC ++ w6 ca qP0 (.ref (qT0 0)) (rP01) SP0 ++ w7 ca qT0 ST0)) [0, 1, 2, 3, 4, 5, 6, 7, 8, 9, 10, 11, 12] rfl rfl
  refine lv_if_eq (tgt := 24) hx hb dX11_lift_13 (by decide) (fun hc => ?_) (fun hc => ?_)
  · have hf := tc_pos hc hf
    exact tX11_lift_24 X z SP0 SC ST0 hf _ _ _ hP hD hS (lv_sub hl [1] rfl)
  · have hf := tc_neg hc hf
    refine lv_aload_n hx hb dX11_lift_16 rfl (lv_at hl 0 rfl) ?_
    refine lv_iload_n hx hb dX11_lift_17 rfl (lv_at hl 3 rfl) ?_
    obtain ⟨z3, hg, hf⟩ := tc_bi hf
    refine tc_iV (As := [.int (a2)]) (rest := []) (b := qT0 0) (wc := w7 ca qT0 ST0) (wr := w11 ca qC (rC3) (rC4) (rC6) (rC7) (.ref (qP0 0)) (rC11) (rC12) (rC14) (rC15) (rC17) (rC18) (rC19) SC ++ w6 ca qP0 (.ref (qT0 0)) (rP01) SP0) X hP hD hS (mX7_isHeight hg) okX7_isHeight wl_X11_289 wi_X7_isHeight ws_X7_X7_isHeight_X7_isHeight ⟨rfl, rfl, Nat.le_of_ble_eq_true rfl, Nat.le_of_ble_eq_true rfl⟩ 7 0 rfl rfl [2, 3, 4, 5, 6, 7, 8, 9, 10, 11, 12] [0, 1] ⟨rfl, rfl, rfl, rfl, by decide⟩ rfl hl.1 (Nat.le_of_ble_eq_true rfl) dX11_lift_18 (fun H locs hP hD hS => ?_)
    have hP := hP.sub (ws' := (w11 ca qC (rC3) (rC4) (rC6) (rC7) (.ref (qP0 0)) (rC11) (rC12) (rC14) (rC15) (rC17) (rC18) (rC19) SC ++ w6 ca qP0 (.ref (qT0 0)) (rP01) SP0 ++ w7 ca qT0 ST0)) [0, 1, 2, 3, 4, 5, 6, 7, 8, 9, 10, 11, 12] rfl
    have hD := hD.sub (ws' := (w11 ca qC (rC3) (rC4) (rC6) (rC7) (.ref (qP0 0)) (rC11) (rC12) (rC14) (rC15) (rC17) (rC18) (rC19) SC ++ w6 ca qP0 (.ref (qT0 0)) (rP01) SP0 ++ w7 ca qT0 ST0)) [0, 1, 2, 3, 4, 5, 6, 7, 8, 9, 10, 11, 12] rfl rfl
    refine lv_if_ne (tgt := 30) hx hb dX11_lift_21 (by decide) (fun hc => ?_) (fun hc => ?_)
    · have hf := tc_neg hc hf
      refine lv_iload_n hx hb dX11_lift_30 rfl (lv_at hl 3 rfl) ?_
      refine lv_if_ne (tgt := 40) hx hb dX11_lift_31 (by decide) (fun hc => ?_) (fun hc => ?_)
      · have hf := tc_neg hc hf
        refine lv_aload_n hx hb dX11_lift_40 rfl (lv_at hl 0 rfl) ?_
        refine va_get (D := (dC, dI)) (ci := 7) (v := .ref (qT0 6)) (C := RX7) (T := TX7) (N := 18) hx hb hts i_X7 hown hK hP 2 rfl rfl 10 (by decide) (hts _ wf_X11_250) (fun _ h9 => h9) rfl dX11_lift_41 ?_
        refine lv_iload_n hx hb dX11_lift_44 rfl (lv_at hl 2 rfl) ?_
        obtain ⟨hi4, hf⟩ := tc_in hf
        refine va_iald hx hb hK hP 8 1 rfl rfl hi4 dX11_lift_45 ?_
        refine lv_istore (lv' := [(4, .int (ia ST0 6 a1)), (3, .ref (qT0 0)), (0, .ref (qC 0)), (1, .int (a1)), (2, .int (a2))]) hx hb dX11_lift_46 hl (by decide) rfl (fun ls hl => ?_)
        refine lv_aload_n hx hb dX11_lift_48 rfl (lv_at hl 1 rfl) ?_
        refine va_get (D := (dC, dI)) (ci := 7) (v := .ref (qT0 6)) (C := RX7) (T := TX7) (N := 18) hx hb hts i_X7 hown hK hP 2 rfl rfl 10 (by decide) (hts _ wf_X11_250) (fun _ h9 => h9) rfl dX11_lift_49 ?_
        refine lv_iload_n hx hb dX11_lift_52 rfl (lv_at hl 3 rfl) ?_
        refine lv_iload_n hx hb dX11_lift_53 rfl (lv_at hl 4 rfl) ?_
        obtain ⟨hi5, hf⟩ := tc_in hf
        refine va_iast hx hb hK hP hD hS 8 1 rfl rfl hi5 dX11_lift_54 (fun H locs hP hD hS => ?_)
        have hP := tc_eP (aw11_6_7_2_6 ca qC qP0 qT0 (rC3) (rC4) (rC6) (rC7) (.ref (qP0 0)) (rC11) (rC12) (rC14) (rC15) (rC17) (rC18) (rC19) (.ref (qT0 0)) (rP01) SC SP0 ST0 a1 a2) hP
        have hD := tc_eD (aw11_6_7_2_6 ca qC qP0 qT0 (rC3) (rC4) (rC6) (rC7) (.ref (qP0 0)) (rC11) (rC12) (rC14) (rC15) (rC17) (rC18) (rC19) (.ref (qT0 0)) (rP01) SC SP0 ST0 a1 a2) hD
        refine lv_aload_n hx hb dX11_lift_55 rfl (lv_at hl 1 rfl) ?_
        refine lv_dup hx hb dX11_lift_56 rfl ?_
        refine va_get (D := (dC, dI)) (ci := 7) (v := .int (gi (sa ST0 6 a1 a2) 12)) (C := RX7) (T := TX7) (N := 18) hx hb hts i_X7 hown hK hP 2 rfl rfl 12 (by decide) (hts _ wf_X11_216) (fun _ h9 => h9) rfl dX11_lift_57 ?_
        refine lv_iconst (v := (1 : Int32)) hx hb dX11_lift_60 (by decide) ?_
        refine lv_iload_n hx hb dX11_lift_61 rfl (lv_at hl 3 rfl) ?_
        refine lv_ishl hx hb dX11_lift_62 ?_
        refine lv_iconst (v := (-1 : Int32)) hx hb dX11_lift_63 (by decide) ?_
        refine lv_ixor hx hb dX11_lift_64 ?_
        refine lv_iand hx hb dX11_lift_65 ?_
        refine va_put (D := (dC, dI)) (ci := 7) (v := .int ((gi (sa ST0 6 a1 a2) 12) &&& (((1 : Int32) <<< (a1 &&& 31)) ^^^ (-1 : Int32)))) (ty := .int) (C := RX7) (T := TX7) (N := 18) hx hb hts i_X7 tyX7 tyX7_ok nmX7 hown hK hP hD hS 2 rfl rfl 12 (by decide) (hts _ wf_X11_216) (fun _ h9 => h9) rfl (tyX7_ok 12 (by decide)) rfl rfl (Nat.le_of_ble_eq_true rfl) dX11_lift_66 (fun H locs hP hD hS => ?_)
        have hP := tc_eP (pw11_6_7_2_12 ca qC qP0 qT0 (rC3) (rC4) (rC6) (rC7) (.ref (qP0 0)) (rC11) (rC12) (rC14) (rC15) (rC17) (rC18) (rC19) (.ref (qT0 0)) (rP01) SC SP0 (sa ST0 6 a1 a2) ((gi (sa ST0 6 a1 a2) 12) &&& (((1 : Int32) <<< (a1 &&& 31)) ^^^ (-1 : Int32)))) hP
        have hD := tc_eD (pw11_6_7_2_12 ca qC qP0 qT0 (rC3) (rC4) (rC6) (rC7) (.ref (qP0 0)) (rC11) (rC12) (rC14) (rC15) (rC17) (rC18) (rC19) (.ref (qT0 0)) (rP01) SC SP0 (sa ST0 6 a1 a2) ((gi (sa ST0 6 a1 a2) 12) &&& (((1 : Int32) <<< (a1 &&& 31)) ^^^ (-1 : Int32)))) hD
        refine lv_aload_n hx hb dX11_lift_69 rfl (lv_at hl 2 rfl) ?_
        refine lv_iload hx hb dX11_lift_70 (lv_at hl 0 rfl) ?_
        obtain ⟨z6, hg, hf⟩ := tc_bi hf
        refine tc_iV (As := [.int (ia ST0 6 a1)]) (rest := []) (b := qC 0) (wc := w11 ca qC (rC3) (rC4) (rC6) (rC7) (.ref (qP0 0)) (rC11) (rC12) (rC14) (rC15) (rC17) (rC18) (rC19) SC) (wr := w6 ca qP0 (.ref (qT0 0)) (rP01) SP0 ++ w7 ca qT0 (si (sa ST0 6 a1 a2) 12 ((gi (sa ST0 6 a1 a2) 12) &&& (((1 : Int32) <<< (a1 &&& 31)) ^^^ (-1 : Int32))))) X hP hD hS (mX11_answer hg) okX11_answer wl_X11_182 wi_X11_answer ws_X11_X11_answer_X11_answer ⟨rfl, rfl, Nat.le_of_ble_eq_true rfl, Nat.le_of_ble_eq_true rfl⟩ 11 0 rfl rfl [0] [1, 2, 3, 4, 5, 6, 7, 8, 9, 10, 11, 12] ⟨rfl, rfl, rfl, rfl, by decide⟩ rfl hl.1 (Nat.le_of_ble_eq_true rfl) dX11_lift_72 (fun H locs hP hD hS => ?_)
        have hP := hP.sub (ws' := (w11 ca qC (rC3) (rC4) (rC6) (rC7) (.ref (qP0 0)) (rC11) (rC12) (rC14) (rC15) (rC17) (rC18) (rC19) z6.2 ++ w6 ca qP0 (.ref (qT0 0)) (rP01) SP0 ++ w7 ca qT0 (si (sa ST0 6 a1 a2) 12 ((gi (sa ST0 6 a1 a2) 12) &&& (((1 : Int32) <<< (a1 &&& 31)) ^^^ (-1 : Int32)))))) [12, 0, 1, 2, 3, 4, 5, 6, 7, 8, 9, 10, 11] rfl
        have hD := hD.sub (ws' := (w11 ca qC (rC3) (rC4) (rC6) (rC7) (.ref (qP0 0)) (rC11) (rC12) (rC14) (rC15) (rC17) (rC18) (rC19) z6.2 ++ w6 ca qP0 (.ref (qT0 0)) (rP01) SP0 ++ w7 ca qT0 (si (sa ST0 6 a1 a2) 12 ((gi (sa ST0 6 a1 a2) 12) &&& (((1 : Int32) <<< (a1 &&& 31)) ^^^ (-1 : Int32)))))) [12, 0, 1, 2, 3, 4, 5, 6, 7, 8, 9, 10, 11] rfl rfl
        obtain rfl := Option.some.inj hf
        exact tc_ri X hP hD hS rfl dX11_lift_75 rfl rfl
      · have hf := tc_pos hc hf
        refine lv_aload_n hx hb dX11_lift_34 rfl (lv_at hl 1 rfl) ?_
        refine lv_iconst (v := (5 : Int32)) hx hb dX11_lift_35 (by decide) ?_
        obtain ⟨z7, hg, hf⟩ := tc_bi hf
        refine tc_iV (As := [.int ((5 : Int32))]) (rest := []) (b := qC 0) (wc := w11 ca qC (rC3) (rC4) (rC6) (rC7) (.ref (qP0 0)) (rC11) (rC12) (rC14) (rC15) (rC17) (rC18) (rC19) SC) (wr := w6 ca qP0 (.ref (qT0 0)) (rP01) SP0 ++ w7 ca qT0 ST0) X hP hD hS (mX11_refuse hg) okX11_refuse wl_X11_121 wi_X11_refuse ws_X11_X11_refuse_X11_refuse ⟨rfl, rfl, Nat.le_of_ble_eq_true rfl, Nat.le_of_ble_eq_true rfl⟩ 11 0 rfl rfl [0] [1, 2, 3, 4, 5, 6, 7, 8, 9, 10, 11, 12] ⟨rfl, rfl, rfl, rfl, by decide⟩ rfl hl.1 (Nat.le_of_ble_eq_true rfl) dX11_lift_36 (fun H locs hP hD hS => ?_)
        have hP := hP.sub (ws' := (w11 ca qC (rC3) (rC4) (rC6) (rC7) (.ref (qP0 0)) (rC11) (rC12) (rC14) (rC15) (rC17) (rC18) (rC19) z7.2 ++ w6 ca qP0 (.ref (qT0 0)) (rP01) SP0 ++ w7 ca qT0 ST0)) [12, 0, 1, 2, 3, 4, 5, 6, 7, 8, 9, 10, 11] rfl
        have hD := hD.sub (ws' := (w11 ca qC (rC3) (rC4) (rC6) (rC7) (.ref (qP0 0)) (rC11) (rC12) (rC14) (rC15) (rC17) (rC18) (rC19) z7.2 ++ w6 ca qP0 (.ref (qT0 0)) (rP01) SP0 ++ w7 ca qT0 ST0)) [12, 0, 1, 2, 3, 4, 5, 6, 7, 8, 9, 10, 11] rfl rfl
        obtain rfl := Option.some.inj hf
        exact tc_ri X hP hD hS rfl dX11_lift_39 rfl rfl
    · have hf := tc_pos hc hf
      exact tX11_lift_24 X z SP0 SC ST0 hf _ _ _ hP hD hS (lv_sub hl [1] rfl)
theorem aw11_6_7_2_2 (ca : Nat → ClassId) (q0 q1 q2 : Nat → Nat) (r0_3 r0_4 r0_6 r0_7 r0_10 r0_11 r0_12 r0_14 r0_15 r0_17 r0_18 r0_19 r1_0 r1_1 : Value) (S0 S1 S2 : ms_T) (i v : Int32) : (w11 ca q0 r0_3 r0_4 r0_6 r0_7 r0_10 r0_11 r0_12 r0_14 r0_15 r0_17 r0_18 r0_19 S0 ++ w6 ca q1 r1_0 r1_1 S1 ++ w7 ca q2 S2 : va_W).set 4 (q2 2, .inl (ca 1, 9, .inl (upd (ra S2 2) i.toNatClampNeg v))) = w11 ca q0 r0_3 r0_4 r0_6 r0_7 r0_10 r0_11 r0_12 r0_14 r0_15 r0_17 r0_18 r0_19 S0 ++ w6 ca q1 r1_0 r1_1 S1 ++ w7 ca q2 (sa S2 2 i v) := rfl
theorem aw11_6_7_2_1 (ca : Nat → ClassId) (q0 q1 q2 : Nat → Nat) (r0_3 r0_4 r0_6 r0_7 r0_10 r0_11 r0_12 r0_14 r0_15 r0_17 r0_18 r0_19 r1_0 r1_1 : Value) (S0 S1 S2 : ms_T) (i v : Int32) : (w11 ca q0 r0_3 r0_4 r0_6 r0_7 r0_10 r0_11 r0_12 r0_14 r0_15 r0_17 r0_18 r0_19 S0 ++ w6 ca q1 r1_0 r1_1 S1 ++ w7 ca q2 S2 : va_W).set 3 (q2 1, .inl (ca 1, 9, .inl (upd (ra S2 1) i.toNatClampNeg v))) = w11 ca q0 r0_3 r0_4 r0_6 r0_7 r0_10 r0_11 r0_12 r0_14 r0_15 r0_17 r0_18 r0_19 S0 ++ w6 ca q1 r1_0 r1_1 S1 ++ w7 ca q2 (sa S2 1 i v) := rfl
def fX11_rewrite_37  (SP0 : ms_T)  (SC : ms_T) (ST0 : ms_T) : Option (Int32 × ms_T × ms_T) :=
  (fX11_refuse SC (5 : Int32)).bind fun z2 =>
  some (z2.1, z2.2, ST0)
def fX11_rewrite_80  (SP0 : ms_T)  (SC : ms_T) (ST0 : ms_T) (v1 : Int32) (v3 : Int32) : Option (Int32 × ms_T × ms_T) :=
  if inb v1 9 = true then
    if inb v1 9 = true then
      (fX11_answer SC (ia ST0 2 v1)).bind fun z5 =>
      some (z5.1, z5.2, sa ST0 2 v1 v3)
    else none
  else none
def fX11_rewrite_80_1  (SP0 : ms_T)  (SC : ms_T) (ST0 : ms_T) (v1 : Int32) (v3 : Int32) : Option (Int32 × ms_T × ms_T) :=
  if inb v1 9 = true then
    if inb v1 9 = true then
      (fX11_answer SC (ia ST0 1 v1)).bind fun z8 =>
      some (z8.1, z8.2, sa ST0 1 v1 v3)
    else none
  else none
def fX11_rewrite_54  (SP0 : ms_T)  (SC : ms_T) (ST0 : ms_T) (v1 : Int32) (v2 : Int32) (v3 : Int32) (t0 : Int32) (t1 : Int32) : Option (Int32 × ms_T × ms_T) :=
  if t1 ≤ t0 then
    if v2 = 0 then
      fX11_rewrite_80_1 SP0 SC ST0 v1 v3
    else
      fX11_rewrite_80 SP0 SC ST0 v1 v3
  else
    (fX11_refuse SC (5 : Int32)).bind fun z9 =>
    some (z9.1, z9.2, ST0)
def fX11_rewrite  (SC : ms_T) (SP0 : ms_T) (ST0 : ms_T) (a1 : Int32) (a2 : Int32) (a3 : Int32) : Option (Int32 × ms_T × ms_T) :=
  (fX7_isTopic ST0 a1).bind fun z1 =>
  if z1 = 0 then
    (fX11_refuse SC (2 : Int32)).bind fun z10 =>
    some (z10.1, z10.2, ST0)
  else
    if a2 < 0 then
      fX11_rewrite_37 SP0 SC ST0
    else
      if (1 : Int32) < a2 then
        fX11_rewrite_37 SP0 SC ST0
      else
        if 0 ≤ a3 then
          if a2 = 0 then
            fX11_rewrite_54 SP0 SC ST0 a1 a2 a3 (20 : Int32) a3
          else
            fX11_rewrite_54 SP0 SC ST0 a1 a2 a3 (3 : Int32) a3
        else
          fX11_rewrite_37 SP0 SC ST0
abbrev rmX11_rewrite : Room := { frames := 1, cells := 0, slots := 0, locals := 21 }
theorem okX11_rewrite : tc_ok yX11_rewrite cX11_rewrite 7 (some .int) 3 := ⟨wc_X11_rewrite, wn_X11, by decide, by decide, by decide +kernel⟩
set_option maxRecDepth 20000 in
theorem tX11_rewrite_37 {qC : Nat → Nat} {qP0 : Nat → Nat} {qT0 : Nat → Nat} {rC3 : Value} {rC4 : Value} {rC6 : Value} {rC7 : Value} {rC11 : Value} {rC12 : Value} {rC14 : Value} {rC15 : Value} {rC17 : Value} {rC18 : Value} {rC19 : Value} {rP01 : Value} (X : tc_X dC dI ca A RX11 cX11_rewrite 7 (some .int) p s m args meth c) (z : Int32 × ms_T × ms_T)  (SP0 : ms_T)   : ∀ (SC : ms_T) (ST0 : ms_T), fX11_rewrite_37 SP0 SC ST0 = some z → ∀ (H : Heap) (locs : List Loc) (ls : Array Slot), va_P (dC, dI) classes (w11 ca qC (rC3) (rC4) (rC6) (rC7) (.ref (qP0 0)) (rC11) (rC12) (rC14) (rC15) (rC17) (rC18) (rC19) SC ++ w6 ca qP0 (.ref (qT0 0)) (rP01) SP0 ++ w7 ca qT0 ST0) H → va_D A (w11 ca qC (rC3) (rC4) (rC6) (rC7) (.ref (qP0 0)) (rC11) (rC12) (rC14) (rC15) (rC17) (rC18) (rC19) SC ++ w6 ca qP0 (.ref (qT0 0)) (rP01) SP0 ++ w7 ca qT0 ST0) → va_S A s.heap H locs → lv_has ls 7 [(0, .ref (qC 0))] → W p l e rmX11_rewrite s m args below meth c H locs 0 0 (MQ below (tc_QI dC dI ca A (w11 ca qC (rC3) (rC4) (rC6) (rC7) (.ref (qP0 0)) (rC11) (rC12) (rC14) (rC15) (rC17) (rC18) (rC19) z.2.1 ++ w6 ca qP0 (.ref (qT0 0)) (rP01) SP0 ++ w7 ca qT0 z.2.2) (z.1)) args s 0 0 A) (F0 m 37 ls []) := by
  obtain ⟨hx, hb, hr, hml, hown, hts, hlk, hK, hA, hG⟩ := id X
  intro SC ST0 hf H locs ls hP hD hS hl
  unfold fX11_rewrite_37 at hf
  refine lv_aload_n hx hb dX11_rewrite_37 rfl (lv_at hl 0 rfl) ?_
  refine lv_iconst (v := (5 : Int32)) hx hb dX11_rewrite_38 (by decide) ?_
  obtain ⟨z2, hg, hf⟩ := tc_bi hf
  refine tc_iV (As := [.int ((5 : Int32))]) (rest := []) (b := qC 0) (wc := w11 ca qC (rC3) (rC4) (rC6) (rC7) (.ref (qP0 0)) (rC11) (rC12) (rC14) (rC15) (rC17) (rC18) (rC19) SC) (wr := w6 ca qP0 (.ref (qT0 0)) (rP01) SP0 ++ w7 ca qT0 ST0) X hP hD hS (mX11_refuse hg) okX11_refuse wl_X11_121 wi_X11_refuse ws_X11_X11_refuse_X11_refuse ⟨rfl, rfl, Nat.le_of_ble_eq_true rfl, Nat.le_of_ble_eq_true rfl⟩ 11 0 rfl rfl [0] [1, 2, 3, 4, 5, 6, 7, 8, 9, 10, 11, 12] ⟨rfl, rfl, rfl, rfl, by decide⟩ rfl hl.1 (Nat.le_of_ble_eq_true rfl) dX11_rewrite_39 (fun H locs hP hD hS => ?_)
  have hP := hP.sub (ws' := (w11 ca qC (rC3) (rC4) (rC6) (rC7) (.ref (qP0 0)) (rC11) (rC12) (rC14) (rC15) (rC17) (rC18) (rC19) z2.2 ++ w6 ca qP0 (.ref (qT0 0)) (rP01) SP0 ++ w7 ca qT0 ST0)) [12, 0, 1, 2, 3, 4, 5, 6, 7, 8, 9, 10, 11] rfl
  have hD := hD.sub (ws' := (w11 ca qC (rC3) (rC4) (rC6) (rC7) (.ref (qP0 0)) (rC11) (rC12) (rC14) (rC15) (rC17) (rC18) (rC19) z2.2 ++ w6 ca qP0 (.ref (qT0 0)) (rP01) SP0 ++ w7 ca qT0 ST0)) [12, 0, 1, 2, 3, 4, 5, 6, 7, 8, 9, 10, 11] rfl rfl
  obtain rfl := Option.some.inj hf
  exact tc_ri X hP hD hS rfl dX11_rewrite_42 rfl rfl
set_option maxRecDepth 20000 in
theorem tX11_rewrite_80 {qC : Nat → Nat} {qP0 : Nat → Nat} {qT0 : Nat → Nat} {rC3 : Value} {rC4 : Value} {rC6 : Value} {rC7 : Value} {rC11 : Value} {rC12 : Value} {rC14 : Value} {rC15 : Value} {rC17 : Value} {rC18 : Value} {rC19 : Value} {rP01 : Value} (X : tc_X dC dI ca A RX11 cX11_rewrite 7 (some .int) p s m args meth c) (z : Int32 × ms_T × ms_T)  (SP0 : ms_T)   : ∀ (SC : ms_T) (ST0 : ms_T) (v1 : Int32) (v3 : Int32), fX11_rewrite_80 SP0 SC ST0 v1 v3 = some z → ∀ (H : Heap) (locs : List Loc) (ls : Array Slot), va_P (dC, dI) classes (w11 ca qC (rC3) (rC4) (rC6) (rC7) (.ref (qP0 0)) (rC11) (rC12) (rC14) (rC15) (rC17) (rC18) (rC19) SC ++ w6 ca qP0 (.ref (qT0 0)) (rP01) SP0 ++ w7 ca qT0 ST0) H → va_D A (w11 ca qC (rC3) (rC4) (rC6) (rC7) (.ref (qP0 0)) (rC11) (rC12) (rC14) (rC15) (rC17) (rC18) (rC19) SC ++ w6 ca qP0 (.ref (qT0 0)) (rP01) SP0 ++ w7 ca qT0 ST0) → va_S A s.heap H locs → lv_has ls 7 [(0, .ref (qC 0)), (1, .int (v1)), (3, .int (v3))] → W p l e rmX11_rewrite s m args below meth c H locs 0 0 (MQ below (tc_QI dC dI ca A (w11 ca qC (rC3) (rC4) (rC6) (rC7) (.ref (qP0 0)) (rC11) (rC12) (rC14) (rC15) (rC17) (rC18) (rC19) z.2.1 ++ w6 ca qP0 (.ref (qT0 0)) (rP01) SP0 ++ w7 ca qT0 z.2.2) (z.1)) args s 0 0 A) (F0 m 80 ls [.ref (qT0 2)]) := by
  obtain ⟨hx, hb, hr, hml, hown, hts, hlk, hK, hA, hG⟩ := id X
  intro SC ST0 v1 v3 hf H locs ls hP hD hS hl
  unfold fX11_rewrite_80 at hf
  refine lv_astore (lv' := [(5, .ref (qT0 2)), (0, .ref (qC 0)), (1, .int (v1)), (3, .int (v3))]) hx hb dX11_rewrite_80 hl (by decide) rfl (fun ls hl => ?_)
  refine lv_aload hx hb dX11_rewrite_82 (lv_at hl 0 rfl) ?_
  refine lv_iload_n hx hb dX11_rewrite_84 rfl (lv_at hl 2 rfl) ?_
  obtain ⟨hi3, hf⟩ := tc_in hf
  refine va_iald hx hb hK hP 4 1 rfl rfl hi3 dX11_rewrite_85 ?_
  refine lv_istore (lv' := [(6, .int (ia ST0 2 v1)), (5, .ref (qT0 2)), (0, .ref (qC 0)), (1, .int (v1)), (3, .int (v3))]) hx hb dX11_rewrite_86 hl (by decide) rfl (fun ls hl => ?_)
  refine lv_aload hx hb dX11_rewrite_88 (lv_at hl 1 rfl) ?_
  refine lv_iload_n hx hb dX11_rewrite_90 rfl (lv_at hl 3 rfl) ?_
  refine lv_iload_n hx hb dX11_rewrite_91 rfl (lv_at hl 4 rfl) ?_
  obtain ⟨hi4, hf⟩ := tc_in hf
  refine va_iast hx hb hK hP hD hS 4 1 rfl rfl hi4 dX11_rewrite_92 (fun H locs hP hD hS => ?_)
  have hP := tc_eP (aw11_6_7_2_2 ca qC qP0 qT0 (rC3) (rC4) (rC6) (rC7) (.ref (qP0 0)) (rC11) (rC12) (rC14) (rC15) (rC17) (rC18) (rC19) (.ref (qT0 0)) (rP01) SC SP0 ST0 v1 v3) hP
  have hD := tc_eD (aw11_6_7_2_2 ca qC qP0 qT0 (rC3) (rC4) (rC6) (rC7) (.ref (qP0 0)) (rC11) (rC12) (rC14) (rC15) (rC17) (rC18) (rC19) (.ref (qT0 0)) (rP01) SC SP0 ST0 v1 v3) hD
  refine lv_aload_n hx hb dX11_rewrite_93 rfl (lv_at hl 2 rfl) ?_
  refine lv_iload hx hb dX11_rewrite_94 (lv_at hl 0 rfl) ?_
  obtain ⟨z5, hg, hf⟩ := tc_bi hf
  refine tc_iV (As := [.int (ia ST0 2 v1)]) (rest := []) (b := qC 0) (wc := w11 ca qC (rC3) (rC4) (rC6) (rC7) (.ref (qP0 0)) (rC11) (rC12) (rC14) (rC15) (rC17) (rC18) (rC19) SC) (wr := w6 ca qP0 (.ref (qT0 0)) (rP01) SP0 ++ w7 ca qT0 (sa ST0 2 v1 v3)) X hP hD hS (mX11_answer hg) okX11_answer wl_X11_182 wi_X11_answer ws_X11_X11_answer_X11_answer ⟨rfl, rfl, Nat.le_of_ble_eq_true rfl, Nat.le_of_ble_eq_true rfl⟩ 11 0 rfl rfl [0] [1, 2, 3, 4, 5, 6, 7, 8, 9, 10, 11, 12] ⟨rfl, rfl, rfl, rfl, by decide⟩ rfl hl.1 (Nat.le_of_ble_eq_true rfl) dX11_rewrite_96 (fun H locs hP hD hS => ?_)
  have hP := hP.sub (ws' := (w11 ca qC (rC3) (rC4) (rC6) (rC7) (.ref (qP0 0)) (rC11) (rC12) (rC14) (rC15) (rC17) (rC18) (rC19) z5.2 ++ w6 ca qP0 (.ref (qT0 0)) (rP01) SP0 ++ w7 ca qT0 (sa ST0 2 v1 v3))) [12, 0, 1, 2, 3, 4, 5, 6, 7, 8, 9, 10, 11] rfl
  have hD := hD.sub (ws' := (w11 ca qC (rC3) (rC4) (rC6) (rC7) (.ref (qP0 0)) (rC11) (rC12) (rC14) (rC15) (rC17) (rC18) (rC19) z5.2 ++ w6 ca qP0 (.ref (qT0 0)) (rP01) SP0 ++ w7 ca qT0 (sa ST0 2 v1 v3))) [12, 0, 1, 2, 3, 4, 5, 6, 7, 8, 9, 10, 11] rfl rfl
  obtain rfl := Option.some.inj hf
  exact tc_ri X hP hD hS rfl dX11_rewrite_99 rfl rfl
set_option maxRecDepth 20000 in
theorem tX11_rewrite_80_1 {qC : Nat → Nat} {qP0 : Nat → Nat} {qT0 : Nat → Nat} {rC3 : Value} {rC4 : Value} {rC6 : Value} {rC7 : Value} {rC11 : Value} {rC12 : Value} {rC14 : Value} {rC15 : Value} {rC17 : Value} {rC18 : Value} {rC19 : Value} {rP01 : Value} (X : tc_X dC dI ca A RX11 cX11_rewrite 7 (some .int) p s m args meth c) (z : Int32 × ms_T × ms_T)  (SP0 : ms_T)   : ∀ (SC : ms_T) (ST0 : ms_T) (v1 : Int32) (v3 : Int32), fX11_rewrite_80_1 SP0 SC ST0 v1 v3 = some z → ∀ (H : Heap) (locs : List Loc) (ls : Array Slot), va_P (dC, dI) classes (w11 ca qC (rC3) (rC4) (rC6) (rC7) (.ref (qP0 0)) (rC11) (rC12) (rC14) (rC15) (rC17) (rC18) (rC19) SC ++ w6 ca qP0 (.ref (qT0 0)) (rP01) SP0 ++ w7 ca qT0 ST0) H → va_D A (w11 ca qC (rC3) (rC4) (rC6) (rC7) (.ref (qP0 0)) (rC11) (rC12) (rC14) (rC15) (rC17) (rC18) (rC19) SC ++ w6 ca qP0 (.ref (qT0 0)) (rP01) SP0 ++ w7 ca qT0 ST0) → va_S A s.heap H locs → lv_has ls 7 [(0, .ref (qC 0)), (1, .int (v1)), (3, .int (v3))] → W p l e rmX11_rewrite s m args below meth c H locs 0 0 (MQ below (tc_QI dC dI ca A (w11 ca qC (rC3) (rC4) (rC6) (rC7) (.ref (qP0 0)) (rC11) (rC12) (rC14) (rC15) (rC17) (rC18) (rC19) z.2.1 ++ w6 ca qP0 (.ref (qT0 0)) (rP01) SP0 ++ w7 ca qT0 z.2.2) (z.1)) args s 0 0 A) (F0 m 80 ls [.ref (qT0 1)]) := by
  obtain ⟨hx, hb, hr, hml, hown, hts, hlk, hK, hA, hG⟩ := id X
  intro SC ST0 v1 v3 hf H locs ls hP hD hS hl
  unfold fX11_rewrite_80_1 at hf
  refine lv_astore (lv' := [(5, .ref (qT0 1)), (0, .ref (qC 0)), (1, .int (v1)), (3, .int (v3))]) hx hb dX11_rewrite_80 hl (by decide) rfl (fun ls hl => ?_)
  refine lv_aload hx hb dX11_rewrite_82 (lv_at hl 0 rfl) ?_
  refine lv_iload_n hx hb dX11_rewrite_84 rfl (lv_at hl 2 rfl) ?_
  obtain ⟨hi6, hf⟩ := tc_in hf
  refine va_iald hx hb hK hP 3 1 rfl rfl hi6 dX11_rewrite_85 ?_
  refine lv_istore (lv' := [(6, .int (ia ST0 1 v1)), (5, .ref (qT0 1)), (0, .ref (qC 0)), (1, .int (v1)), (3, .int (v3))]) hx hb dX11_rewrite_86 hl (by decide) rfl (fun ls hl => ?_)
  refine lv_aload hx hb dX11_rewrite_88 (lv_at hl 1 rfl) ?_
  refine lv_iload_n hx hb dX11_rewrite_90 rfl (lv_at hl 3 rfl) ?_
  refine lv_iload_n hx hb dX11_rewrite_91 rfl (lv_at hl 4 rfl) ?_
  obtain ⟨hi7, hf⟩ := tc_in hf
  refine va_iast hx hb hK hP hD hS 3 1 rfl rfl hi7 dX11_rewrite_92 (fun H locs hP hD hS => ?_)
  have hP := tc_eP (aw11_6_7_2_1 ca qC qP0 qT0 (rC3) (rC4) (rC6) (rC7) (.ref (qP0 0)) (rC11) (rC12) (rC14) (rC15) (rC17) (rC18) (rC19) (.ref (qT0 0)) (rP01) SC SP0 ST0 v1 v3) hP
  have hD := tc_eD (aw11_6_7_2_1 ca qC qP0 qT0 (rC3) (rC4) (rC6) (rC7) (.ref (qP0 0)) (rC11) (rC12) (rC14) (rC15) (rC17) (rC18) (rC19) (.ref (qT0 0)) (rP01) SC SP0 ST0 v1 v3) hD
  refine lv_aload_n hx hb dX11_rewrite_93 rfl (lv_at hl 2 rfl) ?_
  refine lv_iload hx hb dX11_rewrite_94 (lv_at hl 0 rfl) ?_
  obtain ⟨z8, hg, hf⟩ := tc_bi hf
  refine tc_iV (As := [.int (ia ST0 1 v1)]) (rest := []) (b := qC 0) (wc := w11 ca qC (rC3) (rC4) (rC6) (rC7) (.ref (qP0 0)) (rC11) (rC12) (rC14) (rC15) (rC17) (rC18) (rC19) SC) (wr := w6 ca qP0 (.ref (qT0 0)) (rP01) SP0 ++ w7 ca qT0 (sa ST0 1 v1 v3)) X hP hD hS (mX11_answer hg) okX11_answer wl_X11_182 wi_X11_answer ws_X11_X11_answer_X11_answer ⟨rfl, rfl, Nat.le_of_ble_eq_true rfl, Nat.le_of_ble_eq_true rfl⟩ 11 0 rfl rfl [0] [1, 2, 3, 4, 5, 6, 7, 8, 9, 10, 11, 12] ⟨rfl, rfl, rfl, rfl, by decide⟩ rfl hl.1 (Nat.le_of_ble_eq_true rfl) dX11_rewrite_96 (fun H locs hP hD hS => ?_)
  have hP := hP.sub (ws' := (w11 ca qC (rC3) (rC4) (rC6) (rC7) (.ref (qP0 0)) (rC11) (rC12) (rC14) (rC15) (rC17) (rC18) (rC19) z8.2 ++ w6 ca qP0 (.ref (qT0 0)) (rP01) SP0 ++ w7 ca qT0 (sa ST0 1 v1 v3))) [12, 0, 1, 2, 3, 4, 5, 6, 7, 8, 9, 10, 11] rfl
  have hD := hD.sub (ws' := (w11 ca qC (rC3) (rC4) (rC6) (rC7) (.ref (qP0 0)) (rC11) (rC12) (rC14) (rC15) (rC17) (rC18) (rC19) z8.2 ++ w6 ca qP0 (.ref (qT0 0)) (rP01) SP0 ++ w7 ca qT0 (sa ST0 1 v1 v3))) [12, 0, 1, 2, 3, 4, 5, 6, 7, 8, 9, 10, 11] rfl rfl
  obtain rfl := Option.some.inj hf
  exact tc_ri X hP hD hS rfl dX11_rewrite_99 rfl rfl
set_option maxRecDepth 20000 in
theorem tX11_rewrite_54 {qC : Nat → Nat} {qP0 : Nat → Nat} {qT0 : Nat → Nat} {rC3 : Value} {rC4 : Value} {rC6 : Value} {rC7 : Value} {rC11 : Value} {rC12 : Value} {rC14 : Value} {rC15 : Value} {rC17 : Value} {rC18 : Value} {rC19 : Value} {rP01 : Value} (X : tc_X dC dI ca A RX11 cX11_rewrite 7 (some .int) p s m args meth c) (z : Int32 × ms_T × ms_T)  (SP0 : ms_T)   : ∀ (SC : ms_T) (ST0 : ms_T) (v1 : Int32) (v2 : Int32) (v3 : Int32) (t0 : Int32) (t1 : Int32), fX11_rewrite_54 SP0 SC ST0 v1 v2 v3 t0 t1 = some z → ∀ (H : Heap) (locs : List Loc) (ls : Array Slot), va_P (dC, dI) classes (w11 ca qC (rC3) (rC4) (rC6) (rC7) (.ref (qP0 0)) (rC11) (rC12) (rC14) (rC15) (rC17) (rC18) (rC19) SC ++ w6 ca qP0 (.ref (qT0 0)) (rP01) SP0 ++ w7 ca qT0 ST0) H → va_D A (w11 ca qC (rC3) (rC4) (rC6) (rC7) (.ref (qP0 0)) (rC11) (rC12) (rC14) (rC15) (rC17) (rC18) (rC19) SC ++ w6 ca qP0 (.ref (qT0 0)) (rP01) SP0 ++ w7 ca qT0 ST0) → va_S A s.heap H locs → lv_has ls 7 [(0, .ref (qC 0)), (1, .int (v1)), (2, .int (v2)), (3, .int (v3)), (4, .ref (qT0 0))] → W p l e rmX11_rewrite s m args below meth c H locs 0 0 (MQ below (tc_QI dC dI ca A (w11 ca qC (rC3) (rC4) (rC6) (rC7) (.ref (qP0 0)) (rC11) (rC12) (rC14) (rC15) (rC17) (rC18) (rC19) z.2.1 ++ w6 ca qP0 (.ref (qT0 0)) (rP01) SP0 ++ w7 ca qT0 z.2.2) (z.1)) args s 0 0 A) (F0 m 54 ls [.int (t0), .int (t1)]) := by
  obtain ⟨hx, hb, hr, hml, hown, hts, hlk, hK, hA, hG⟩ := id X
  intro SC ST0 v1 v2 v3 t0 t1 hf H locs ls hP hD hS hl
  unfold fX11_rewrite_54 at hf
  refine lv_icmp_le (tgt := 63) hx hb dX11_rewrite_54 (by decide) (fun hc => ?_) (fun hc => ?_)
  · have hf := tc_pos hc hf
    refine lv_iload_n hx hb dX11_rewrite_63 rfl (lv_at hl 2 rfl) ?_
    refine lv_if_ne (tgt := 75) hx hb dX11_rewrite_64 (by decide) (fun hc => ?_) (fun hc => ?_)
    · have hf := tc_neg hc hf
      refine lv_aload hx hb dX11_rewrite_75 (lv_at hl 4 rfl) ?_
      refine va_get (D := (dC, dI)) (ci := 7) (v := .ref (qT0 2)) (C := RX7) (T := TX7) (N := 18) hx hb hts i_X7 hown hK hP 2 rfl rfl 3 (by decide) (hts _ wf_X11_229) (fun _ h9 => h9) rfl dX11_rewrite_77 ?_
      exact tX11_rewrite_80 X z SP0 SC ST0 v1 v3 hf _ _ _ hP hD hS (lv_sub hl [0, 1, 3] rfl)
    · have hf := tc_pos hc hf
      refine lv_aload hx hb dX11_rewrite_67 (lv_at hl 4 rfl) ?_
      refine va_get (D := (dC, dI)) (ci := 7) (v := .ref (qT0 1)) (C := RX7) (T := TX7) (N := 18) hx hb hts i_X7 hown hK hP 2 rfl rfl 2 (by decide) (hts _ wf_X11_225) (fun _ h9 => h9) rfl dX11_rewrite_69 ?_
      refine lv_goto (tgt := 80) hx hb dX11_rewrite_72 (by decide) ?_
      exact tX11_rewrite_80_1 X z SP0 SC ST0 v1 v3 hf _ _ _ hP hD hS (lv_sub hl [0, 1, 3] rfl)
  · have hf := tc_neg hc hf
    refine lv_aload_n hx hb dX11_rewrite_57 rfl (lv_at hl 0 rfl) ?_
    refine lv_iconst (v := (5 : Int32)) hx hb dX11_rewrite_58 (by decide) ?_
    obtain ⟨z9, hg, hf⟩ := tc_bi hf
    refine tc_iV (As := [.int ((5 : Int32))]) (rest := []) (b := qC 0) (wc := w11 ca qC (rC3) (rC4) (rC6) (rC7) (.ref (qP0 0)) (rC11) (rC12) (rC14) (rC15) (rC17) (rC18) (rC19) SC) (wr := w6 ca qP0 (.ref (qT0 0)) (rP01) SP0 ++ w7 ca qT0 ST0) X hP hD hS (mX11_refuse hg) okX11_refuse wl_X11_121 wi_X11_refuse ws_X11_X11_refuse_X11_refuse ⟨rfl, rfl, Nat.le_of_ble_eq_true rfl, Nat.le_of_ble_eq_true rfl⟩ 11 0 rfl rfl [0] [1, 2, 3, 4, 5, 6, 7, 8, 9, 10, 11, 12] ⟨rfl, rfl, rfl, rfl, by decide⟩ rfl hl.1 (Nat.le_of_ble_eq_true rfl) dX11_rewrite_59 (fun H locs hP hD hS => ?_)
    have hP := hP.sub (ws' := (w11 ca qC (rC3) (rC4) (rC6) (rC7) (.ref (qP0 0)) (rC11) (rC12) (rC14) (rC15) (rC17) (rC18) (rC19) z9.2 ++ w6 ca qP0 (.ref (qT0 0)) (rP01) SP0 ++ w7 ca qT0 ST0)) [12, 0, 1, 2, 3, 4, 5, 6, 7, 8, 9, 10, 11] rfl
    have hD := hD.sub (ws' := (w11 ca qC (rC3) (rC4) (rC6) (rC7) (.ref (qP0 0)) (rC11) (rC12) (rC14) (rC15) (rC17) (rC18) (rC19) z9.2 ++ w6 ca qP0 (.ref (qT0 0)) (rP01) SP0 ++ w7 ca qT0 ST0)) [12, 0, 1, 2, 3, 4, 5, 6, 7, 8, 9, 10, 11] rfl rfl
    obtain rfl := Option.some.inj hf
    exact tc_ri X hP hD hS rfl dX11_rewrite_62 rfl rfl
set_option maxRecDepth 20000 in
theorem mX11_rewrite {qC : Nat → Nat} {qP0 : Nat → Nat} {qT0 : Nat → Nat} {rC3 : Value} {rC4 : Value} {rC6 : Value} {rC7 : Value} {rC11 : Value} {rC12 : Value} {rC14 : Value} {rC15 : Value} {rC17 : Value} {rC18 : Value} {rC19 : Value} {rP01 : Value} {SC : ms_T} {SP0 : ms_T} {ST0 : ms_T} {a1 : Int32} {a2 : Int32} {a3 : Int32} {z : Int32 × ms_T × ms_T}  (hf : fX11_rewrite SC SP0 ST0 a1 a2 a3 = some z) : tc_MI l dC dI ca yX11_rewrite cX11_rewrite 7 (some .int) rmX11_rewrite [.ref (qC 0), .int (a1), .int (a2), .int (a3)] (w11 ca qC (rC3) (rC4) (rC6) (rC7) (.ref (qP0 0)) (rC11) (rC12) (rC14) (rC15) (rC17) (rC18) (rC19) SC ++ w6 ca qP0 (.ref (qT0 0)) (rP01) SP0 ++ w7 ca qT0 ST0) (w11 ca qC (rC3) (rC4) (rC6) (rC7) (.ref (qP0 0)) (rC11) (rC12) (rC14) (rC15) (rC17) (rC18) (rC19) z.2.1 ++ w6 ca qP0 (.ref (qT0 0)) (rP01) SP0 ++ w7 ca qT0 z.2.2) (z.1) := by
  refine tc_metI (own := RX11) (by decide) rfl ?_ (Nat.le_of_ble_eq_true rfl)
  intro p e s m below meth c A X hP hD hS ls hl
  obtain ⟨hx, hb, hr, hml, hown, hts, hlk, hK, hA, hG⟩ := id X
  unfold fX11_rewrite at hf
  have hl : lv_has ls 7 [(0, .ref (qC 0)), (1, .int (a1)), (2, .int (a2)), (3, .int (a3))] := hl
  refine lv_aload_n hx hb dX11_rewrite_0 rfl (lv_at hl 0 rfl) ?_
  refine va_get (D := (dC, dI)) (ci := 11) (v := .ref (qP0 0)) (C := RX11) (T := TX11) (N := 20) hx hb hts i_X11 hown hK hP 0 rfl rfl 10 (by decide) (hts _ wf_X11_39) (fun _ h9 => h9) rfl dX11_rewrite_1 ?_
  refine va_get (D := (dC, dI)) (ci := 6) (v := .ref (qT0 0)) (C := RX6) (T := TX6) (N := 2) hx hb hts i_X6 hown hK hP 1 rfl rfl 0 (by decide) (hts _ wf_X11_152) (fun _ h9 => h9) rfl dX11_rewrite_4 ?_
  refine lv_astore (lv' := [(4, .ref (qT0 0)), (0, .ref (qC 0)), (1, .int (a1)), (2, .int (a2)), (3, .int (a3))]) hx hb dX11_rewrite_7 hl (by decide) rfl (fun ls hl => ?_)
  refine lv_aload hx hb dX11_rewrite_9 (lv_at hl 0 rfl) ?_
  refine lv_iload_n hx hb dX11_rewrite_11 rfl (lv_at hl 2 rfl) ?_
  obtain ⟨z1, hg, hf⟩ := tc_bi hf
  refine tc_iV (As := [.int (a1)]) (rest := []) (b := qT0 0) (wc := w7 ca qT0 ST0) (wr := w11 ca qC (rC3) (rC4) (rC6) (rC7) (.ref (qP0 0)) (rC11) (rC12) (rC14) (rC15) (rC17) (rC18) (rC19) SC ++ w6 ca qP0 (.ref (qT0 0)) (rP01) SP0) X hP hD hS (mX7_isTopic hg) okX7_isTopic wl_X11_222 wi_X7_isTopic ws_X7_X7_isTopic_X7_isTopic ⟨rfl, rfl, Nat.le_of_ble_eq_true rfl, Nat.le_of_ble_eq_true rfl⟩ 7 0 rfl rfl [2, 3, 4, 5, 6, 7, 8, 9, 10, 11, 12] [0, 1] ⟨rfl, rfl, rfl, rfl, by decide⟩ rfl hl.1 (Nat.le_of_ble_eq_true rfl) dX11_rewrite_12 (fun H locs hP hD hS => ?_)
  have hP := hP.sub (ws' := (w11 ca qC (rC3) (rC4) (rC6) (rC7) (.ref (qP0 0)) (rC11) (rC12) (rC14) (rC15) (rC17) (rC18) (rC19) SC ++ w6 ca qP0 (.ref (qT0 0)) (rP01) SP0 ++ w7 ca qT0 ST0)) [0, 1, 2, 3, 4, 5, 6, 7, 8, 9, 10, 11, 12] rfl
  have hD := hD.sub (ws' := (w11 ca qC (rC3) (rC4) (rC6) (rC7) (.ref (qP0 0)) (rC11) (rC12) (rC14) (rC15) (rC17) (rC18) (rC19) SC ++ w6 ca qP0 (.ref (qT0 0)) (rP01) SP0 ++ w7 ca qT0 ST0)) [0, 1, 2, 3, 4, 5, 6, 7, 8, 9, 10, 11, 12] rfl rfl
  refine lv_if_ne (tgt := 24) hx hb dX11_rewrite_15 (by decide) (fun hc => ?_) (fun hc => ?_)
  · have hf := tc_neg hc hf
    refine lv_iload_n hx hb dX11_rewrite_24 rfl (lv_at hl 3 rfl) ?_
    refine lv_if_lt (tgt := 37) hx hb dX11_rewrite_25 (by decide) (fun hc => ?_) (fun hc => ?_)
    · have hf := tc_pos hc hf
      exact tX11_rewrite_37 X z SP0 SC ST0 hf _ _ _ hP hD hS (lv_sub hl [1] rfl)
    · have hf := tc_neg hc hf
      refine lv_iload_n hx hb dX11_rewrite_28 rfl (lv_at hl 3 rfl) ?_
      refine lv_iconst (v := (1 : Int32)) hx hb dX11_rewrite_29 (by decide) ?_
      refine lv_icmp_gt (tgt := 37) hx hb dX11_rewrite_30 (by decide) (fun hc => ?_) (fun hc => ?_)
      · have hf := tc_pos hc hf
        exact tX11_rewrite_37 X z SP0 SC ST0 hf _ _ _ hP hD hS (lv_sub hl [1] rfl)
      · have hf := tc_neg hc hf
        refine lv_iload_n hx hb dX11_rewrite_33 rfl (lv_at hl 4 rfl) ?_
        refine lv_if_ge (tgt := 43) hx hb dX11_rewrite_34 (by decide) (fun hc => ?_) (fun hc => ?_)
        · have hf := tc_pos hc hf
          refine lv_iload_n hx hb dX11_rewrite_43 rfl (lv_at hl 4 rfl) ?_
          refine lv_iload_n hx hb dX11_rewrite_44 rfl (lv_at hl 3 rfl) ?_
          refine lv_if_ne (tgt := 53) hx hb dX11_rewrite_45 (by decide) (fun hc => ?_) (fun hc => ?_)
          · have hf := tc_neg hc hf
            refine lv_iconst (v := (3 : Int32)) hx hb dX11_rewrite_53 (by decide) ?_
            exact tX11_rewrite_54 X z SP0 SC ST0 a1 a2 a3 (3 : Int32) a3 hf _ _ _ hP hD hS (lv_sub hl [1, 2, 3, 4, 0] rfl)
          · have hf := tc_pos hc hf
            refine lv_bipush (v := (20 : Int32)) hx hb dX11_rewrite_48 (by decide) ?_
            refine lv_goto (tgt := 54) hx hb dX11_rewrite_50 (by decide) ?_
            exact tX11_rewrite_54 X z SP0 SC ST0 a1 a2 a3 (20 : Int32) a3 hf _ _ _ hP hD hS (lv_sub hl [1, 2, 3, 4, 0] rfl)
        · have hf := tc_neg hc hf
          exact tX11_rewrite_37 X z SP0 SC ST0 hf _ _ _ hP hD hS (lv_sub hl [1] rfl)
  · have hf := tc_pos hc hf
    refine lv_aload_n hx hb dX11_rewrite_18 rfl (lv_at hl 1 rfl) ?_
    refine lv_iconst (v := (2 : Int32)) hx hb dX11_rewrite_19 (by decide) ?_
    obtain ⟨z10, hg, hf⟩ := tc_bi hf
    refine tc_iV (As := [.int ((2 : Int32))]) (rest := []) (b := qC 0) (wc := w11 ca qC (rC3) (rC4) (rC6) (rC7) (.ref (qP0 0)) (rC11) (rC12) (rC14) (rC15) (rC17) (rC18) (rC19) SC) (wr := w6 ca qP0 (.ref (qT0 0)) (rP01) SP0 ++ w7 ca qT0 ST0) X hP hD hS (mX11_refuse hg) okX11_refuse wl_X11_121 wi_X11_refuse ws_X11_X11_refuse_X11_refuse ⟨rfl, rfl, Nat.le_of_ble_eq_true rfl, Nat.le_of_ble_eq_true rfl⟩ 11 0 rfl rfl [0] [1, 2, 3, 4, 5, 6, 7, 8, 9, 10, 11, 12] ⟨rfl, rfl, rfl, rfl, by decide⟩ rfl hl.1 (Nat.le_of_ble_eq_true rfl) dX11_rewrite_20 (fun H locs hP hD hS => ?_)
    have hP := hP.sub (ws' := (w11 ca qC (rC3) (rC4) (rC6) (rC7) (.ref (qP0 0)) (rC11) (rC12) (rC14) (rC15) (rC17) (rC18) (rC19) z10.2 ++ w6 ca qP0 (.ref (qT0 0)) (rP01) SP0 ++ w7 ca qT0 ST0)) [12, 0, 1, 2, 3, 4, 5, 6, 7, 8, 9, 10, 11] rfl
    have hD := hD.sub (ws' := (w11 ca qC (rC3) (rC4) (rC6) (rC7) (.ref (qP0 0)) (rC11) (rC12) (rC14) (rC15) (rC17) (rC18) (rC19) z10.2 ++ w6 ca qP0 (.ref (qT0 0)) (rP01) SP0 ++ w7 ca qT0 ST0)) [12, 0, 1, 2, 3, 4, 5, 6, 7, 8, 9, 10, 11] rfl rfl
    obtain rfl := Option.some.inj hf
    exact tc_ri X hP hD hS rfl dX11_rewrite_23 rfl rfl
def fX11_think_36  (SP0 : ms_T)  (SC : ms_T) (ST0 : ms_T) : Option (Int32 × ms_T × ms_T) :=
  (fX11_refuse SC (5 : Int32)).bind fun z2 =>
  some (z2.1, z2.2, ST0)
def fX11_think  (SC : ms_T) (SP0 : ms_T) (ST0 : ms_T) (a1 : Int32) (a2 : Int32) : Option (Int32 × ms_T × ms_T) :=
  (fX7_isTopic ST0 a1).bind fun z1 =>
  if z1 = 0 then
    (fX11_refuse SC (2 : Int32)).bind fun z6 =>
    some (z6.1, z6.2, ST0)
  else
    if a2 < 0 then
      fX11_think_36 SP0 SC ST0
    else
      if a2 < ((1 : Int32) <<< ((gi ST0 4) &&& 31)) then
        if (gi ST0 4) = (8 : Int32) then
          (fX11_refuse SC (7 : Int32)).bind fun z5 =>
          some (z5.1, z5.2, ST0)
        else
          (fX7_addClaim ST0 a1 a2 (0 : Int64)).bind fun z3 =>
          (fX11_answer SC ((gi z3 4) - (1 : Int32))).bind fun z4 =>
          some (z4.1, z4.2, z3)
      else
        fX11_think_36 SP0 SC ST0
abbrev rmX11_think : Room := { frames := 1, cells := 0, slots := 0, locals := 24 }
theorem okX11_think : tc_ok yX11_think cX11_think 4 (some .int) 2 := ⟨wc_X11_think, wn_X11, by decide, by decide, by decide +kernel⟩
set_option maxRecDepth 20000 in
theorem tX11_think_36 {qC : Nat → Nat} {qP0 : Nat → Nat} {qT0 : Nat → Nat} {rC3 : Value} {rC4 : Value} {rC6 : Value} {rC7 : Value} {rC11 : Value} {rC12 : Value} {rC14 : Value} {rC15 : Value} {rC17 : Value} {rC18 : Value} {rC19 : Value} {rP01 : Value} (X : tc_X dC dI ca A RX11 cX11_think 4 (some .int) p s m args meth c) (z : Int32 × ms_T × ms_T)  (SP0 : ms_T)   : ∀ (SC : ms_T) (ST0 : ms_T), fX11_think_36 SP0 SC ST0 = some z → ∀ (H : Heap) (locs : List Loc) (ls : Array Slot), va_P (dC, dI) classes (w11 ca qC (rC3) (rC4) (rC6) (rC7) (.ref (qP0 0)) (rC11) (rC12) (rC14) (rC15) (rC17) (rC18) (rC19) SC ++ w6 ca qP0 (.ref (qT0 0)) (rP01) SP0 ++ w7 ca qT0 ST0) H → va_D A (w11 ca qC (rC3) (rC4) (rC6) (rC7) (.ref (qP0 0)) (rC11) (rC12) (rC14) (rC15) (rC17) (rC18) (rC19) SC ++ w6 ca qP0 (.ref (qT0 0)) (rP01) SP0 ++ w7 ca qT0 ST0) → va_S A s.heap H locs → lv_has ls 4 [(0, .ref (qC 0))] → W p l e rmX11_think s m args below meth c H locs 0 0 (MQ below (tc_QI dC dI ca A (w11 ca qC (rC3) (rC4) (rC6) (rC7) (.ref (qP0 0)) (rC11) (rC12) (rC14) (rC15) (rC17) (rC18) (rC19) z.2.1 ++ w6 ca qP0 (.ref (qT0 0)) (rP01) SP0 ++ w7 ca qT0 z.2.2) (z.1)) args s 0 0 A) (F0 m 36 ls []) := by
  obtain ⟨hx, hb, hr, hml, hown, hts, hlk, hK, hA, hG⟩ := id X
  intro SC ST0 hf H locs ls hP hD hS hl
  unfold fX11_think_36 at hf
  refine lv_aload_n hx hb dX11_think_36 rfl (lv_at hl 0 rfl) ?_
  refine lv_iconst (v := (5 : Int32)) hx hb dX11_think_37 (by decide) ?_
  obtain ⟨z2, hg, hf⟩ := tc_bi hf
  refine tc_iV (As := [.int ((5 : Int32))]) (rest := []) (b := qC 0) (wc := w11 ca qC (rC3) (rC4) (rC6) (rC7) (.ref (qP0 0)) (rC11) (rC12) (rC14) (rC15) (rC17) (rC18) (rC19) SC) (wr := w6 ca qP0 (.ref (qT0 0)) (rP01) SP0 ++ w7 ca qT0 ST0) X hP hD hS (mX11_refuse hg) okX11_refuse wl_X11_121 wi_X11_refuse ws_X11_X11_refuse_X11_refuse ⟨rfl, rfl, Nat.le_of_ble_eq_true rfl, Nat.le_of_ble_eq_true rfl⟩ 11 0 rfl rfl [0] [1, 2, 3, 4, 5, 6, 7, 8, 9, 10, 11, 12] ⟨rfl, rfl, rfl, rfl, by decide⟩ rfl hl.1 (Nat.le_of_ble_eq_true rfl) dX11_think_38 (fun H locs hP hD hS => ?_)
  have hP := hP.sub (ws' := (w11 ca qC (rC3) (rC4) (rC6) (rC7) (.ref (qP0 0)) (rC11) (rC12) (rC14) (rC15) (rC17) (rC18) (rC19) z2.2 ++ w6 ca qP0 (.ref (qT0 0)) (rP01) SP0 ++ w7 ca qT0 ST0)) [12, 0, 1, 2, 3, 4, 5, 6, 7, 8, 9, 10, 11] rfl
  have hD := hD.sub (ws' := (w11 ca qC (rC3) (rC4) (rC6) (rC7) (.ref (qP0 0)) (rC11) (rC12) (rC14) (rC15) (rC17) (rC18) (rC19) z2.2 ++ w6 ca qP0 (.ref (qT0 0)) (rP01) SP0 ++ w7 ca qT0 ST0)) [12, 0, 1, 2, 3, 4, 5, 6, 7, 8, 9, 10, 11] rfl rfl
  obtain rfl := Option.some.inj hf
  exact tc_ri X hP hD hS rfl dX11_think_41 rfl rfl
set_option maxRecDepth 20000 in
theorem mX11_think {qC : Nat → Nat} {qP0 : Nat → Nat} {qT0 : Nat → Nat} {rC3 : Value} {rC4 : Value} {rC6 : Value} {rC7 : Value} {rC11 : Value} {rC12 : Value} {rC14 : Value} {rC15 : Value} {rC17 : Value} {rC18 : Value} {rC19 : Value} {rP01 : Value} {SC : ms_T} {SP0 : ms_T} {ST0 : ms_T} {a1 : Int32} {a2 : Int32} {z : Int32 × ms_T × ms_T}  (hf : fX11_think SC SP0 ST0 a1 a2 = some z) : tc_MI l dC dI ca yX11_think cX11_think 4 (some .int) rmX11_think [.ref (qC 0), .int (a1), .int (a2)] (w11 ca qC (rC3) (rC4) (rC6) (rC7) (.ref (qP0 0)) (rC11) (rC12) (rC14) (rC15) (rC17) (rC18) (rC19) SC ++ w6 ca qP0 (.ref (qT0 0)) (rP01) SP0 ++ w7 ca qT0 ST0) (w11 ca qC (rC3) (rC4) (rC6) (rC7) (.ref (qP0 0)) (rC11) (rC12) (rC14) (rC15) (rC17) (rC18) (rC19) z.2.1 ++ w6 ca qP0 (.ref (qT0 0)) (rP01) SP0 ++ w7 ca qT0 z.2.2) (z.1) := by
  refine tc_metI (own := RX11) (by decide) rfl ?_ (Nat.le_of_ble_eq_true rfl)
  intro p e s m below meth c A X hP hD hS ls hl
  obtain ⟨hx, hb, hr, hml, hown, hts, hlk, hK, hA, hG⟩ := id X
  unfold fX11_think at hf
  have hl : lv_has ls 4 [(0, .ref (qC 0)), (1, .int (a1)), (2, .int (a2))] := hl
  refine lv_aload_n hx hb dX11_think_0 rfl (lv_at hl 0 rfl) ?_
  refine va_get (D := (dC, dI)) (ci := 11) (v := .ref (qP0 0)) (C := RX11) (T := TX11) (N := 20) hx hb hts i_X11 hown hK hP 0 rfl rfl 10 (by decide) (hts _ wf_X11_39) (fun _ h9 => h9) rfl dX11_think_1 ?_
  refine va_get (D := (dC, dI)) (ci := 6) (v := .ref (qT0 0)) (C := RX6) (T := TX6) (N := 2) hx hb hts i_X6 hown hK hP 1 rfl rfl 0 (by decide) (hts _ wf_X11_152) (fun _ h9 => h9) rfl dX11_think_4 ?_
  refine lv_astore_n (lv' := [(3, .ref (qT0 0)), (0, .ref (qC 0)), (1, .int (a1)), (2, .int (a2))]) hx hb dX11_think_7 rfl hl (by decide) rfl (fun ls hl => ?_)
  refine lv_aload_n hx hb dX11_think_8 rfl (lv_at hl 0 rfl) ?_
  refine lv_iload_n hx hb dX11_think_9 rfl (lv_at hl 2 rfl) ?_
  obtain ⟨z1, hg, hf⟩ := tc_bi hf
  refine tc_iV (As := [.int (a1)]) (rest := []) (b := qT0 0) (wc := w7 ca qT0 ST0) (wr := w11 ca qC (rC3) (rC4) (rC6) (rC7) (.ref (qP0 0)) (rC11) (rC12) (rC14) (rC15) (rC17) (rC18) (rC19) SC ++ w6 ca qP0 (.ref (qT0 0)) (rP01) SP0) X hP hD hS (mX7_isTopic hg) okX7_isTopic wl_X11_222 wi_X7_isTopic ws_X7_X7_isTopic_X7_isTopic ⟨rfl, rfl, Nat.le_of_ble_eq_true rfl, Nat.le_of_ble_eq_true rfl⟩ 7 0 rfl rfl [2, 3, 4, 5, 6, 7, 8, 9, 10, 11, 12] [0, 1] ⟨rfl, rfl, rfl, rfl, by decide⟩ rfl hl.1 (Nat.le_of_ble_eq_true rfl) dX11_think_10 (fun H locs hP hD hS => ?_)
  have hP := hP.sub (ws' := (w11 ca qC (rC3) (rC4) (rC6) (rC7) (.ref (qP0 0)) (rC11) (rC12) (rC14) (rC15) (rC17) (rC18) (rC19) SC ++ w6 ca qP0 (.ref (qT0 0)) (rP01) SP0 ++ w7 ca qT0 ST0)) [0, 1, 2, 3, 4, 5, 6, 7, 8, 9, 10, 11, 12] rfl
  have hD := hD.sub (ws' := (w11 ca qC (rC3) (rC4) (rC6) (rC7) (.ref (qP0 0)) (rC11) (rC12) (rC14) (rC15) (rC17) (rC18) (rC19) SC ++ w6 ca qP0 (.ref (qT0 0)) (rP01) SP0 ++ w7 ca qT0 ST0)) [0, 1, 2, 3, 4, 5, 6, 7, 8, 9, 10, 11, 12] rfl rfl
  refine lv_if_ne (tgt := 22) hx hb dX11_think_13 (by decide) (fun hc => ?_) (fun hc => ?_)
  · have hf := tc_neg hc hf
    refine lv_iload_n hx hb dX11_think_22 rfl (lv_at hl 3 rfl) ?_
    refine lv_if_lt (tgt := 36) hx hb dX11_think_23 (by decide) (fun hc => ?_) (fun hc => ?_)
    · have hf := tc_pos hc hf
      exact tX11_think_36 X z SP0 SC ST0 hf _ _ _ hP hD hS (lv_sub hl [1] rfl)
    · have hf := tc_neg hc hf
      refine lv_iload_n hx hb dX11_think_26 rfl (lv_at hl 3 rfl) ?_
      refine lv_iconst (v := (1 : Int32)) hx hb dX11_think_27 (by decide) ?_
      refine lv_aload_n hx hb dX11_think_28 rfl (lv_at hl 0 rfl) ?_
      refine va_get (D := (dC, dI)) (ci := 7) (v := .int (gi ST0 4)) (C := RX7) (T := TX7) (N := 18) hx hb hts i_X7 hown hK hP 2 rfl rfl 4 (by decide) (hts _ wf_X11_198) (fun _ h9 => h9) rfl dX11_think_29 ?_
      refine lv_ishl hx hb dX11_think_32 ?_
      refine lv_icmp_lt (tgt := 42) hx hb dX11_think_33 (by decide) (fun hc => ?_) (fun hc => ?_)
      · have hf := tc_pos hc hf
        refine lv_aload_n hx hb dX11_think_42 rfl (lv_at hl 0 rfl) ?_
        refine va_get (D := (dC, dI)) (ci := 7) (v := .int (gi ST0 4)) (C := RX7) (T := TX7) (N := 18) hx hb hts i_X7 hown hK hP 2 rfl rfl 4 (by decide) (hts _ wf_X11_198) (fun _ h9 => h9) rfl dX11_think_43 ?_
        refine lv_bipush (v := (8 : Int32)) hx hb dX11_think_46 (by decide) ?_
        refine lv_icmp_ne (tgt := 58) hx hb dX11_think_48 (by decide) (fun hc => ?_) (fun hc => ?_)
        · have hf := tc_neg hc hf
          refine lv_aload_n hx hb dX11_think_58 rfl (lv_at hl 0 rfl) ?_
          refine lv_iload_n hx hb dX11_think_59 rfl (lv_at hl 2 rfl) ?_
          refine lv_iload_n hx hb dX11_think_60 rfl (lv_at hl 3 rfl) ?_
          refine lv_lconst (v := (0 : Int64)) hx hb dX11_think_61 (by decide) ?_
          obtain ⟨z3, hg, hf⟩ := tc_bi hf
          refine tc_vV (As := [.int (a1), .int (a2), .long ((0 : Int64))]) (rest := []) (b := qT0 0) (wc := w7 ca qT0 ST0) (wr := w11 ca qC (rC3) (rC4) (rC6) (rC7) (.ref (qP0 0)) (rC11) (rC12) (rC14) (rC15) (rC17) (rC18) (rC19) SC ++ w6 ca qP0 (.ref (qT0 0)) (rP01) SP0) X hP hD hS (mX7_addClaim hg) okX7_addClaim wl_X11_292 wi_X7_addClaim ws_X7_X7_addClaim_X7_addClaim ⟨rfl, rfl, Nat.le_of_ble_eq_true rfl, Nat.le_of_ble_eq_true rfl⟩ 7 0 rfl rfl [2, 3, 4, 5, 6, 7, 8, 9, 10, 11, 12] [0, 1] ⟨rfl, rfl, rfl, rfl, by decide⟩ rfl hl.1 (Nat.le_of_ble_eq_true rfl) dX11_think_62 (fun H locs hP hD hS => ?_)
          have hP := hP.sub (ws' := (w11 ca qC (rC3) (rC4) (rC6) (rC7) (.ref (qP0 0)) (rC11) (rC12) (rC14) (rC15) (rC17) (rC18) (rC19) SC ++ w6 ca qP0 (.ref (qT0 0)) (rP01) SP0 ++ w7 ca qT0 z3)) [0, 1, 2, 3, 4, 5, 6, 7, 8, 9, 10, 11, 12] rfl
          have hD := hD.sub (ws' := (w11 ca qC (rC3) (rC4) (rC6) (rC7) (.ref (qP0 0)) (rC11) (rC12) (rC14) (rC15) (rC17) (rC18) (rC19) SC ++ w6 ca qP0 (.ref (qT0 0)) (rP01) SP0 ++ w7 ca qT0 z3)) [0, 1, 2, 3, 4, 5, 6, 7, 8, 9, 10, 11, 12] rfl rfl
          refine lv_aload_n hx hb dX11_think_65 rfl (lv_at hl 1 rfl) ?_
          refine lv_aload_n hx hb dX11_think_66 rfl (lv_at hl 0 rfl) ?_
          refine va_get (D := (dC, dI)) (ci := 7) (v := .int (gi z3 4)) (C := RX7) (T := TX7) (N := 18) hx hb hts i_X7 hown hK hP 2 rfl rfl 4 (by decide) (hts _ wf_X11_198) (fun _ h9 => h9) rfl dX11_think_67 ?_
          refine lv_iconst (v := (1 : Int32)) hx hb dX11_think_70 (by decide) ?_
          refine lv_isub hx hb dX11_think_71 ?_
          obtain ⟨z4, hg, hf⟩ := tc_bi hf
          refine tc_iV (As := [.int ((gi z3 4) - (1 : Int32))]) (rest := []) (b := qC 0) (wc := w11 ca qC (rC3) (rC4) (rC6) (rC7) (.ref (qP0 0)) (rC11) (rC12) (rC14) (rC15) (rC17) (rC18) (rC19) SC) (wr := w6 ca qP0 (.ref (qT0 0)) (rP01) SP0 ++ w7 ca qT0 z3) X hP hD hS (mX11_answer hg) okX11_answer wl_X11_182 wi_X11_answer ws_X11_X11_answer_X11_answer ⟨rfl, rfl, Nat.le_of_ble_eq_true rfl, Nat.le_of_ble_eq_true rfl⟩ 11 0 rfl rfl [0] [1, 2, 3, 4, 5, 6, 7, 8, 9, 10, 11, 12] ⟨rfl, rfl, rfl, rfl, by decide⟩ rfl hl.1 (Nat.le_of_ble_eq_true rfl) dX11_think_72 (fun H locs hP hD hS => ?_)
          have hP := hP.sub (ws' := (w11 ca qC (rC3) (rC4) (rC6) (rC7) (.ref (qP0 0)) (rC11) (rC12) (rC14) (rC15) (rC17) (rC18) (rC19) z4.2 ++ w6 ca qP0 (.ref (qT0 0)) (rP01) SP0 ++ w7 ca qT0 z3)) [12, 0, 1, 2, 3, 4, 5, 6, 7, 8, 9, 10, 11] rfl
          have hD := hD.sub (ws' := (w11 ca qC (rC3) (rC4) (rC6) (rC7) (.ref (qP0 0)) (rC11) (rC12) (rC14) (rC15) (rC17) (rC18) (rC19) z4.2 ++ w6 ca qP0 (.ref (qT0 0)) (rP01) SP0 ++ w7 ca qT0 z3)) [12, 0, 1, 2, 3, 4, 5, 6, 7, 8, 9, 10, 11] rfl rfl
          obtain rfl := Option.some.inj hf
          exact tc_ri X hP hD hS rfl dX11_think_75 rfl rfl
        · have hf := tc_pos hc hf
          refine lv_aload_n hx hb dX11_think_51 rfl (lv_at hl 1 rfl) ?_
          refine lv_bipush (v := (7 : Int32)) hx hb dX11_think_52 (by decide) ?_
          obtain ⟨z5, hg, hf⟩ := tc_bi hf
          refine tc_iV (As := [.int ((7 : Int32))]) (rest := []) (b := qC 0) (wc := w11 ca qC (rC3) (rC4) (rC6) (rC7) (.ref (qP0 0)) (rC11) (rC12) (rC14) (rC15) (rC17) (rC18) (rC19) SC) (wr := w6 ca qP0 (.ref (qT0 0)) (rP01) SP0 ++ w7 ca qT0 ST0) X hP hD hS (mX11_refuse hg) okX11_refuse wl_X11_121 wi_X11_refuse ws_X11_X11_refuse_X11_refuse ⟨rfl, rfl, Nat.le_of_ble_eq_true rfl, Nat.le_of_ble_eq_true rfl⟩ 11 0 rfl rfl [0] [1, 2, 3, 4, 5, 6, 7, 8, 9, 10, 11, 12] ⟨rfl, rfl, rfl, rfl, by decide⟩ rfl hl.1 (Nat.le_of_ble_eq_true rfl) dX11_think_54 (fun H locs hP hD hS => ?_)
          have hP := hP.sub (ws' := (w11 ca qC (rC3) (rC4) (rC6) (rC7) (.ref (qP0 0)) (rC11) (rC12) (rC14) (rC15) (rC17) (rC18) (rC19) z5.2 ++ w6 ca qP0 (.ref (qT0 0)) (rP01) SP0 ++ w7 ca qT0 ST0)) [12, 0, 1, 2, 3, 4, 5, 6, 7, 8, 9, 10, 11] rfl
          have hD := hD.sub (ws' := (w11 ca qC (rC3) (rC4) (rC6) (rC7) (.ref (qP0 0)) (rC11) (rC12) (rC14) (rC15) (rC17) (rC18) (rC19) z5.2 ++ w6 ca qP0 (.ref (qT0 0)) (rP01) SP0 ++ w7 ca qT0 ST0)) [12, 0, 1, 2, 3, 4, 5, 6, 7, 8, 9, 10, 11] rfl rfl
          obtain rfl := Option.some.inj hf
          exact tc_ri X hP hD hS rfl dX11_think_57 rfl rfl
      · have hf := tc_neg hc hf
        exact tX11_think_36 X z SP0 SC ST0 hf _ _ _ hP hD hS (lv_sub hl [1] rfl)
  · have hf := tc_pos hc hf
    refine lv_aload_n hx hb dX11_think_16 rfl (lv_at hl 1 rfl) ?_
    refine lv_iconst (v := (2 : Int32)) hx hb dX11_think_17 (by decide) ?_
    obtain ⟨z6, hg, hf⟩ := tc_bi hf
    refine tc_iV (As := [.int ((2 : Int32))]) (rest := []) (b := qC 0) (wc := w11 ca qC (rC3) (rC4) (rC6) (rC7) (.ref (qP0 0)) (rC11) (rC12) (rC14) (rC15) (rC17) (rC18) (rC19) SC) (wr := w6 ca qP0 (.ref (qT0 0)) (rP01) SP0 ++ w7 ca qT0 ST0) X hP hD hS (mX11_refuse hg) okX11_refuse wl_X11_121 wi_X11_refuse ws_X11_X11_refuse_X11_refuse ⟨rfl, rfl, Nat.le_of_ble_eq_true rfl, Nat.le_of_ble_eq_true rfl⟩ 11 0 rfl rfl [0] [1, 2, 3, 4, 5, 6, 7, 8, 9, 10, 11, 12] ⟨rfl, rfl, rfl, rfl, by decide⟩ rfl hl.1 (Nat.le_of_ble_eq_true rfl) dX11_think_18 (fun H locs hP hD hS => ?_)
    have hP := hP.sub (ws' := (w11 ca qC (rC3) (rC4) (rC6) (rC7) (.ref (qP0 0)) (rC11) (rC12) (rC14) (rC15) (rC17) (rC18) (rC19) z6.2 ++ w6 ca qP0 (.ref (qT0 0)) (rP01) SP0 ++ w7 ca qT0 ST0)) [12, 0, 1, 2, 3, 4, 5, 6, 7, 8, 9, 10, 11] rfl
    have hD := hD.sub (ws' := (w11 ca qC (rC3) (rC4) (rC6) (rC7) (.ref (qP0 0)) (rC11) (rC12) (rC14) (rC15) (rC17) (rC18) (rC19) z6.2 ++ w6 ca qP0 (.ref (qT0 0)) (rP01) SP0 ++ w7 ca qT0 ST0)) [12, 0, 1, 2, 3, 4, 5, 6, 7, 8, 9, 10, 11] rfl rfl
    obtain rfl := Option.some.inj hf
    exact tc_ri X hP hD hS rfl dX11_think_21 rfl rfl
def fX11_anger_24  (SP0 : ms_T)  (SC : ms_T) (ST0 : ms_T) : Option (Int32 × ms_T × ms_T) :=
  (fX11_refuse SC (2 : Int32)).bind fun z2 =>
  some (z2.1, z2.2, ST0)
def fX11_anger  (SC : ms_T) (SP0 : ms_T) (ST0 : ms_T) (a1 : Int32) (a2 : Int32) : Option (Int32 × ms_T × ms_T) :=
  (fX7_isTalker ST0 a1).bind fun z1 =>
  if z1 = 0 then
    fX11_anger_24 SP0 SC ST0
  else
    (fX7_isTalker ST0 a2).bind fun z3 =>
    if z3 = 0 then
      fX11_anger_24 SP0 SC ST0
    else
      if a1 = a2 then
        (fX11_refuse SC (5 : Int32)).bind fun z9 =>
        some (z9.1, z9.2, ST0)
      else
        if (gi ST0 13) = (10 : Int32) then
          (fX11_refuse SC (7 : Int32)).bind fun z8 =>
          some (z8.1, z8.2, ST0)
        else
          (fX7_isFeud ST0 a1 a2).bind fun z4 =>
          if z4 = 0 then
            (fX7_addFeud ST0 a1 a2).bind fun z5 =>
            (fX11_answer SC ((gi z5 13) - (1 : Int32))).bind fun z6 =>
            some (z6.1, z6.2, z5)
          else
            (fX11_refuse SC (9 : Int32)).bind fun z7 =>
            some (z7.1, z7.2, ST0)
abbrev rmX11_anger : Room := { frames := 1, cells := 0, slots := 0, locals := 23 }
theorem okX11_anger : tc_ok yX11_anger cX11_anger 4 (some .int) 2 := ⟨wc_X11_anger, wn_X11, by decide, by decide, by decide +kernel⟩
set_option maxRecDepth 20000 in
theorem tX11_anger_24 {qC : Nat → Nat} {qP0 : Nat → Nat} {qT0 : Nat → Nat} {rC3 : Value} {rC4 : Value} {rC6 : Value} {rC7 : Value} {rC11 : Value} {rC12 : Value} {rC14 : Value} {rC15 : Value} {rC17 : Value} {rC18 : Value} {rC19 : Value} {rP01 : Value} (X : tc_X dC dI ca A RX11 cX11_anger 4 (some .int) p s m args meth c) (z : Int32 × ms_T × ms_T)  (SP0 : ms_T)   : ∀ (SC : ms_T) (ST0 : ms_T), fX11_anger_24 SP0 SC ST0 = some z → ∀ (H : Heap) (locs : List Loc) (ls : Array Slot), va_P (dC, dI) classes (w11 ca qC (rC3) (rC4) (rC6) (rC7) (.ref (qP0 0)) (rC11) (rC12) (rC14) (rC15) (rC17) (rC18) (rC19) SC ++ w6 ca qP0 (.ref (qT0 0)) (rP01) SP0 ++ w7 ca qT0 ST0) H → va_D A (w11 ca qC (rC3) (rC4) (rC6) (rC7) (.ref (qP0 0)) (rC11) (rC12) (rC14) (rC15) (rC17) (rC18) (rC19) SC ++ w6 ca qP0 (.ref (qT0 0)) (rP01) SP0 ++ w7 ca qT0 ST0) → va_S A s.heap H locs → lv_has ls 4 [(0, .ref (qC 0))] → W p l e rmX11_anger s m args below meth c H locs 0 0 (MQ below (tc_QI dC dI ca A (w11 ca qC (rC3) (rC4) (rC6) (rC7) (.ref (qP0 0)) (rC11) (rC12) (rC14) (rC15) (rC17) (rC18) (rC19) z.2.1 ++ w6 ca qP0 (.ref (qT0 0)) (rP01) SP0 ++ w7 ca qT0 z.2.2) (z.1)) args s 0 0 A) (F0 m 24 ls []) := by
  obtain ⟨hx, hb, hr, hml, hown, hts, hlk, hK, hA, hG⟩ := id X
  intro SC ST0 hf H locs ls hP hD hS hl
  unfold fX11_anger_24 at hf
  refine lv_aload_n hx hb dX11_anger_24 rfl (lv_at hl 0 rfl) ?_
  refine lv_iconst (v := (2 : Int32)) hx hb dX11_anger_25 (by decide) ?_
  obtain ⟨z2, hg, hf⟩ := tc_bi hf
  refine tc_iV (As := [.int ((2 : Int32))]) (rest := []) (b := qC 0) (wc := w11 ca qC (rC3) (rC4) (rC6) (rC7) (.ref (qP0 0)) (rC11) (rC12) (rC14) (rC15) (rC17) (rC18) (rC19) SC) (wr := w6 ca qP0 (.ref (qT0 0)) (rP01) SP0 ++ w7 ca qT0 ST0) X hP hD hS (mX11_refuse hg) okX11_refuse wl_X11_121 wi_X11_refuse ws_X11_X11_refuse_X11_refuse ⟨rfl, rfl, Nat.le_of_ble_eq_true rfl, Nat.le_of_ble_eq_true rfl⟩ 11 0 rfl rfl [0] [1, 2, 3, 4, 5, 6, 7, 8, 9, 10, 11, 12] ⟨rfl, rfl, rfl, rfl, by decide⟩ rfl hl.1 (Nat.le_of_ble_eq_true rfl) dX11_anger_26 (fun H locs hP hD hS => ?_)
  have hP := hP.sub (ws' := (w11 ca qC (rC3) (rC4) (rC6) (rC7) (.ref (qP0 0)) (rC11) (rC12) (rC14) (rC15) (rC17) (rC18) (rC19) z2.2 ++ w6 ca qP0 (.ref (qT0 0)) (rP01) SP0 ++ w7 ca qT0 ST0)) [12, 0, 1, 2, 3, 4, 5, 6, 7, 8, 9, 10, 11] rfl
  have hD := hD.sub (ws' := (w11 ca qC (rC3) (rC4) (rC6) (rC7) (.ref (qP0 0)) (rC11) (rC12) (rC14) (rC15) (rC17) (rC18) (rC19) z2.2 ++ w6 ca qP0 (.ref (qT0 0)) (rP01) SP0 ++ w7 ca qT0 ST0)) [12, 0, 1, 2, 3, 4, 5, 6, 7, 8, 9, 10, 11] rfl rfl
  obtain rfl := Option.some.inj hf
  exact tc_ri X hP hD hS rfl dX11_anger_29 rfl rfl
set_option maxRecDepth 20000 in
theorem mX11_anger {qC : Nat → Nat} {qP0 : Nat → Nat} {qT0 : Nat → Nat} {rC3 : Value} {rC4 : Value} {rC6 : Value} {rC7 : Value} {rC11 : Value} {rC12 : Value} {rC14 : Value} {rC15 : Value} {rC17 : Value} {rC18 : Value} {rC19 : Value} {rP01 : Value} {SC : ms_T} {SP0 : ms_T} {ST0 : ms_T} {a1 : Int32} {a2 : Int32} {z : Int32 × ms_T × ms_T}  (hf : fX11_anger SC SP0 ST0 a1 a2 = some z) : tc_MI l dC dI ca yX11_anger cX11_anger 4 (some .int) rmX11_anger [.ref (qC 0), .int (a1), .int (a2)] (w11 ca qC (rC3) (rC4) (rC6) (rC7) (.ref (qP0 0)) (rC11) (rC12) (rC14) (rC15) (rC17) (rC18) (rC19) SC ++ w6 ca qP0 (.ref (qT0 0)) (rP01) SP0 ++ w7 ca qT0 ST0) (w11 ca qC (rC3) (rC4) (rC6) (rC7) (.ref (qP0 0)) (rC11) (rC12) (rC14) (rC15) (rC17) (rC18) (rC19) z.2.1 ++ w6 ca qP0 (.ref (qT0 0)) (rP01) SP0 ++ w7 ca qT0 z.2.2) (z.1) := by
  refine tc_metI (own := RX11) (by decide) rfl ?_ (Nat.le_of_ble_eq_true rfl)
  intro p e s m below meth c A X hP hD hS ls hl
  obtain ⟨hx, hb, hr, hml, hown, hts, hlk, hK, hA, hG⟩ := id X
  unfold fX11_anger at hf
  have hl : lv_has ls 4 [(0, .ref (qC 0)), (1, .int (a1)), (2, .int (a2))] := hl
  refine lv_aload_n hx hb dX11_anger_0 rfl (lv_at hl 0 rfl) ?_
  refine va_get (D := (dC, dI)) (ci := 11) (v := .ref (qP0 0)) (C := RX11) (T := TX11) (N := 20) hx hb hts i_X11 hown hK hP 0 rfl rfl 10 (by decide) (hts _ wf_X11_39) (fun _ h9 => h9) rfl dX11_anger_1 ?_
  refine va_get (D := (dC, dI)) (ci := 6) (v := .ref (qT0 0)) (C := RX6) (T := TX6) (N := 2) hx hb hts i_X6 hown hK hP 1 rfl rfl 0 (by decide) (hts _ wf_X11_152) (fun _ h9 => h9) rfl dX11_anger_4 ?_
  refine lv_astore_n (lv' := [(3, .ref (qT0 0)), (0, .ref (qC 0)), (1, .int (a1)), (2, .int (a2))]) hx hb dX11_anger_7 rfl hl (by decide) rfl (fun ls hl => ?_)
  refine lv_aload_n hx hb dX11_anger_8 rfl (lv_at hl 0 rfl) ?_
  refine lv_iload_n hx hb dX11_anger_9 rfl (lv_at hl 2 rfl) ?_
  obtain ⟨z1, hg, hf⟩ := tc_bi hf
  refine tc_iV (As := [.int (a1)]) (rest := []) (b := qT0 0) (wc := w7 ca qT0 ST0) (wr := w11 ca qC (rC3) (rC4) (rC6) (rC7) (.ref (qP0 0)) (rC11) (rC12) (rC14) (rC15) (rC17) (rC18) (rC19) SC ++ w6 ca qP0 (.ref (qT0 0)) (rP01) SP0) X hP hD hS (mX7_isTalker hg) okX7_isTalker wl_X11_244 wi_X7_isTalker ws_X7_X7_isTalker_X7_isTalker ⟨rfl, rfl, Nat.le_of_ble_eq_true rfl, Nat.le_of_ble_eq_true rfl⟩ 7 0 rfl rfl [2, 3, 4, 5, 6, 7, 8, 9, 10, 11, 12] [0, 1] ⟨rfl, rfl, rfl, rfl, by decide⟩ rfl hl.1 (Nat.le_of_ble_eq_true rfl) dX11_anger_10 (fun H locs hP hD hS => ?_)
  have hP := hP.sub (ws' := (w11 ca qC (rC3) (rC4) (rC6) (rC7) (.ref (qP0 0)) (rC11) (rC12) (rC14) (rC15) (rC17) (rC18) (rC19) SC ++ w6 ca qP0 (.ref (qT0 0)) (rP01) SP0 ++ w7 ca qT0 ST0)) [0, 1, 2, 3, 4, 5, 6, 7, 8, 9, 10, 11, 12] rfl
  have hD := hD.sub (ws' := (w11 ca qC (rC3) (rC4) (rC6) (rC7) (.ref (qP0 0)) (rC11) (rC12) (rC14) (rC15) (rC17) (rC18) (rC19) SC ++ w6 ca qP0 (.ref (qT0 0)) (rP01) SP0 ++ w7 ca qT0 ST0)) [0, 1, 2, 3, 4, 5, 6, 7, 8, 9, 10, 11, 12] rfl rfl
  refine lv_if_eq (tgt := 24) hx hb dX11_anger_13 (by decide) (fun hc => ?_) (fun hc => ?_)
  · have hf := tc_pos hc hf
    exact tX11_anger_24 X z SP0 SC ST0 hf _ _ _ hP hD hS (lv_sub hl [1] rfl)
  · have hf := tc_neg hc hf
    refine lv_aload_n hx hb dX11_anger_16 rfl (lv_at hl 0 rfl) ?_
    refine lv_iload_n hx hb dX11_anger_17 rfl (lv_at hl 3 rfl) ?_
    obtain ⟨z3, hg, hf⟩ := tc_bi hf
    refine tc_iV (As := [.int (a2)]) (rest := []) (b := qT0 0) (wc := w7 ca qT0 ST0) (wr := w11 ca qC (rC3) (rC4) (rC6) (rC7) (.ref (qP0 0)) (rC11) (rC12) (rC14) (rC15) (rC17) (rC18) (rC19) SC ++ w6 ca qP0 (.ref (qT0 0)) (rP01) SP0) X hP hD hS (mX7_isTalker hg) okX7_isTalker wl_X11_244 wi_X7_isTalker ws_X7_X7_isTalker_X7_isTalker ⟨rfl, rfl, Nat.le_of_ble_eq_true rfl, Nat.le_of_ble_eq_true rfl⟩ 7 0 rfl rfl [2, 3, 4, 5, 6, 7, 8, 9, 10, 11, 12] [0, 1] ⟨rfl, rfl, rfl, rfl, by decide⟩ rfl hl.1 (Nat.le_of_ble_eq_true rfl) dX11_anger_18 (fun H locs hP hD hS => ?_)
    have hP := hP.sub (ws' := (w11 ca qC (rC3) (rC4) (rC6) (rC7) (.ref (qP0 0)) (rC11) (rC12) (rC14) (rC15) (rC17) (rC18) (rC19) SC ++ w6 ca qP0 (.ref (qT0 0)) (rP01) SP0 ++ w7 ca qT0 ST0)) [0, 1, 2, 3, 4, 5, 6, 7, 8, 9, 10, 11, 12] rfl
    have hD := hD.sub (ws' := (w11 ca qC (rC3) (rC4) (rC6) (rC7) (.ref (qP0 0)) (rC11) (rC12) (rC14) (rC15) (rC17) (rC18) (rC19) SC ++ w6 ca qP0 (.ref (qT0 0)) (rP01) SP0 ++ w7 ca qT0 ST0)) [0, 1, 2, 3, 4, 5, 6, 7, 8, 9, 10, 11, 12] rfl rfl
    refine lv_if_ne (tgt := 30) hx hb dX11_anger_21 (by decide) (fun hc => ?_) (fun hc => ?_)
    · have hf := tc_neg hc hf
      refine lv_iload_n hx hb dX11_anger_30 rfl (lv_at hl 2 rfl) ?_
      refine lv_iload_n hx hb dX11_anger_31 rfl (lv_at hl 3 rfl) ?_
      refine lv_icmp_ne (tgt := 41) hx hb dX11_anger_32 (by decide) (fun hc => ?_) (fun hc => ?_)
      · have hf := tc_neg hc hf
        refine lv_aload_n hx hb dX11_anger_41 rfl (lv_at hl 0 rfl) ?_
        refine va_get (D := (dC, dI)) (ci := 7) (v := .int (gi ST0 13)) (C := RX7) (T := TX7) (N := 18) hx hb hts i_X7 hown hK hP 2 rfl rfl 13 (by decide) (hts _ wf_X11_201) (fun _ h9 => h9) rfl dX11_anger_42 ?_
        refine lv_bipush (v := (10 : Int32)) hx hb dX11_anger_45 (by decide) ?_
        refine lv_icmp_ne (tgt := 57) hx hb dX11_anger_47 (by decide) (fun hc => ?_) (fun hc => ?_)
        · have hf := tc_neg hc hf
          refine lv_aload_n hx hb dX11_anger_57 rfl (lv_at hl 0 rfl) ?_
          refine lv_iload_n hx hb dX11_anger_58 rfl (lv_at hl 2 rfl) ?_
          refine lv_iload_n hx hb dX11_anger_59 rfl (lv_at hl 3 rfl) ?_
          obtain ⟨z4, hg, hf⟩ := tc_bi hf
          refine tc_iV (As := [.int (a1), .int (a2)]) (rest := []) (b := qT0 0) (wc := w7 ca qT0 ST0) (wr := w11 ca qC (rC3) (rC4) (rC6) (rC7) (.ref (qP0 0)) (rC11) (rC12) (rC14) (rC15) (rC17) (rC18) (rC19) SC ++ w6 ca qP0 (.ref (qT0 0)) (rP01) SP0) X hP hD hS (mX7_isFeud hg) okX7_isFeud wl_X11_296 wi_X7_isFeud ws_X7_X7_isFeud_X7_isFeud ⟨rfl, rfl, Nat.le_of_ble_eq_true rfl, Nat.le_of_ble_eq_true rfl⟩ 7 0 rfl rfl [2, 3, 4, 5, 6, 7, 8, 9, 10, 11, 12] [0, 1] ⟨rfl, rfl, rfl, rfl, by decide⟩ rfl hl.1 (Nat.le_of_ble_eq_true rfl) dX11_anger_60 (fun H locs hP hD hS => ?_)
          have hP := hP.sub (ws' := (w11 ca qC (rC3) (rC4) (rC6) (rC7) (.ref (qP0 0)) (rC11) (rC12) (rC14) (rC15) (rC17) (rC18) (rC19) SC ++ w6 ca qP0 (.ref (qT0 0)) (rP01) SP0 ++ w7 ca qT0 ST0)) [0, 1, 2, 3, 4, 5, 6, 7, 8, 9, 10, 11, 12] rfl
          have hD := hD.sub (ws' := (w11 ca qC (rC3) (rC4) (rC6) (rC7) (.ref (qP0 0)) (rC11) (rC12) (rC14) (rC15) (rC17) (rC18) (rC19) SC ++ w6 ca qP0 (.ref (qT0 0)) (rP01) SP0 ++ w7 ca qT0 ST0)) [0, 1, 2, 3, 4, 5, 6, 7, 8, 9, 10, 11, 12] rfl rfl
          refine lv_if_eq (tgt := 73) hx hb dX11_anger_63 (by decide) (fun hc => ?_) (fun hc => ?_)
          · have hf := tc_pos hc hf
            refine lv_aload_n hx hb dX11_anger_73 rfl (lv_at hl 0 rfl) ?_
            refine lv_iload_n hx hb dX11_anger_74 rfl (lv_at hl 2 rfl) ?_
            refine lv_iload_n hx hb dX11_anger_75 rfl (lv_at hl 3 rfl) ?_
            obtain ⟨z5, hg, hf⟩ := tc_bi hf
            refine tc_vV (As := [.int (a1), .int (a2)]) (rest := []) (b := qT0 0) (wc := w7 ca qT0 ST0) (wr := w11 ca qC (rC3) (rC4) (rC6) (rC7) (.ref (qP0 0)) (rC11) (rC12) (rC14) (rC15) (rC17) (rC18) (rC19) SC ++ w6 ca qP0 (.ref (qT0 0)) (rP01) SP0) X hP hD hS (mX7_addFeud hg) okX7_addFeud wl_X11_299 wi_X7_addFeud ws_X7_X7_addFeud_X7_addFeud ⟨rfl, rfl, Nat.le_of_ble_eq_true rfl, Nat.le_of_ble_eq_true rfl⟩ 7 0 rfl rfl [2, 3, 4, 5, 6, 7, 8, 9, 10, 11, 12] [0, 1] ⟨rfl, rfl, rfl, rfl, by decide⟩ rfl hl.1 (Nat.le_of_ble_eq_true rfl) dX11_anger_76 (fun H locs hP hD hS => ?_)
            have hP := hP.sub (ws' := (w11 ca qC (rC3) (rC4) (rC6) (rC7) (.ref (qP0 0)) (rC11) (rC12) (rC14) (rC15) (rC17) (rC18) (rC19) SC ++ w6 ca qP0 (.ref (qT0 0)) (rP01) SP0 ++ w7 ca qT0 z5)) [0, 1, 2, 3, 4, 5, 6, 7, 8, 9, 10, 11, 12] rfl
            have hD := hD.sub (ws' := (w11 ca qC (rC3) (rC4) (rC6) (rC7) (.ref (qP0 0)) (rC11) (rC12) (rC14) (rC15) (rC17) (rC18) (rC19) SC ++ w6 ca qP0 (.ref (qT0 0)) (rP01) SP0 ++ w7 ca qT0 z5)) [0, 1, 2, 3, 4, 5, 6, 7, 8, 9, 10, 11, 12] rfl rfl
            refine lv_aload_n hx hb dX11_anger_79 rfl (lv_at hl 1 rfl) ?_
            refine lv_aload_n hx hb dX11_anger_80 rfl (lv_at hl 0 rfl) ?_
            refine va_get (D := (dC, dI)) (ci := 7) (v := .int (gi z5 13)) (C := RX7) (T := TX7) (N := 18) hx hb hts i_X7 hown hK hP 2 rfl rfl 13 (by decide) (hts _ wf_X11_201) (fun _ h9 => h9) rfl dX11_anger_81 ?_
            refine lv_iconst (v := (1 : Int32)) hx hb dX11_anger_84 (by decide) ?_
            refine lv_isub hx hb dX11_anger_85 ?_
            obtain ⟨z6, hg, hf⟩ := tc_bi hf
            refine tc_iV (As := [.int ((gi z5 13) - (1 : Int32))]) (rest := []) (b := qC 0) (wc := w11 ca qC (rC3) (rC4) (rC6) (rC7) (.ref (qP0 0)) (rC11) (rC12) (rC14) (rC15) (rC17) (rC18) (rC19) SC) (wr := w6 ca qP0 (.ref (qT0 0)) (rP01) SP0 ++ w7 ca qT0 z5) X hP hD hS (mX11_answer hg) okX11_answer wl_X11_182 wi_X11_answer ws_X11_X11_answer_X11_answer ⟨rfl, rfl, Nat.le_of_ble_eq_true rfl, Nat.le_of_ble_eq_true rfl⟩ 11 0 rfl rfl [0] [1, 2, 3, 4, 5, 6, 7, 8, 9, 10, 11, 12] ⟨rfl, rfl, rfl, rfl, by decide⟩ rfl hl.1 (Nat.le_of_ble_eq_true rfl) dX11_anger_86 (fun H locs hP hD hS => ?_)
            have hP := hP.sub (ws' := (w11 ca qC (rC3) (rC4) (rC6) (rC7) (.ref (qP0 0)) (rC11) (rC12) (rC14) (rC15) (rC17) (rC18) (rC19) z6.2 ++ w6 ca qP0 (.ref (qT0 0)) (rP01) SP0 ++ w7 ca qT0 z5)) [12, 0, 1, 2, 3, 4, 5, 6, 7, 8, 9, 10, 11] rfl
            have hD := hD.sub (ws' := (w11 ca qC (rC3) (rC4) (rC6) (rC7) (.ref (qP0 0)) (rC11) (rC12) (rC14) (rC15) (rC17) (rC18) (rC19) z6.2 ++ w6 ca qP0 (.ref (qT0 0)) (rP01) SP0 ++ w7 ca qT0 z5)) [12, 0, 1, 2, 3, 4, 5, 6, 7, 8, 9, 10, 11] rfl rfl
            obtain rfl := Option.some.inj hf
            exact tc_ri X hP hD hS rfl dX11_anger_89 rfl rfl
          · have hf := tc_neg hc hf
            refine lv_aload_n hx hb dX11_anger_66 rfl (lv_at hl 1 rfl) ?_
            refine lv_bipush (v := (9 : Int32)) hx hb dX11_anger_67 (by decide) ?_
            obtain ⟨z7, hg, hf⟩ := tc_bi hf
            refine tc_iV (As := [.int ((9 : Int32))]) (rest := []) (b := qC 0) (wc := w11 ca qC (rC3) (rC4) (rC6) (rC7) (.ref (qP0 0)) (rC11) (rC12) (rC14) (rC15) (rC17) (rC18) (rC19) SC) (wr := w6 ca qP0 (.ref (qT0 0)) (rP01) SP0 ++ w7 ca qT0 ST0) X hP hD hS (mX11_refuse hg) okX11_refuse wl_X11_121 wi_X11_refuse ws_X11_X11_refuse_X11_refuse ⟨rfl, rfl, Nat.le_of_ble_eq_true rfl, Nat.le_of_ble_eq_true rfl⟩ 11 0 rfl rfl [0] [1, 2, 3, 4, 5, 6, 7, 8, 9, 10, 11, 12] ⟨rfl, rfl, rfl, rfl, by decide⟩ rfl hl.1 (Nat.le_of_ble_eq_true rfl) dX11_anger_69 (fun H locs hP hD hS => ?_)
            have hP := hP.sub (ws' := (w11 ca qC (rC3) (rC4) (rC6) (rC7) (.ref (qP0 0)) (rC11) (rC12) (rC14) (rC15) (rC17) (rC18) (rC19) z7.2 ++ w6 ca qP0 (.ref (qT0 0)) (rP01) SP0 ++ w7 ca qT0 ST0)) [12, 0, 1, 2, 3, 4, 5, 6, 7, 8, 9, 10, 11] rfl
            have hD := hD.sub (ws' := (w11 ca qC (rC3) (rC4) (rC6) (rC7) (.ref (qP0 0)) (rC11) (rC12) (rC14) (rC15) (rC17) (rC18) (rC19) z7.2 ++ w6 ca qP0 (.ref (qT0 0)) (rP01) SP0 ++ w7 ca qT0 ST0)) [12, 0, 1, 2, 3, 4, 5, 6, 7, 8, 9, 10, 11] rfl rfl
            obtain rfl := Option.some.inj hf
            exact tc_ri X hP hD hS rfl dX11_anger_72 rfl rfl
        · have hf := tc_pos hc hf
          refine lv_aload_n hx hb dX11_anger_50 rfl (lv_at hl 1 rfl) ?_
          refine lv_bipush (v := (7 : Int32)) hx hb dX11_anger_51 (by decide) ?_
          obtain ⟨z8, hg, hf⟩ := tc_bi hf
          refine tc_iV (As := [.int ((7 : Int32))]) (rest := []) (b := qC 0) (wc := w11 ca qC (rC3) (rC4) (rC6) (rC7) (.ref (qP0 0)) (rC11) (rC12) (rC14) (rC15) (rC17) (rC18) (rC19) SC) (wr := w6 ca qP0 (.ref (qT0 0)) (rP01) SP0 ++ w7 ca qT0 ST0) X hP hD hS (mX11_refuse hg) okX11_refuse wl_X11_121 wi_X11_refuse ws_X11_X11_refuse_X11_refuse ⟨rfl, rfl, Nat.le_of_ble_eq_true rfl, Nat.le_of_ble_eq_true rfl⟩ 11 0 rfl rfl [0] [1, 2, 3, 4, 5, 6, 7, 8, 9, 10, 11, 12] ⟨rfl, rfl, rfl, rfl, by decide⟩ rfl hl.1 (Nat.le_of_ble_eq_true rfl) dX11_anger_53 (fun H locs hP hD hS => ?_)
          have hP := hP.sub (ws' := (w11 ca qC (rC3) (rC4) (rC6) (rC7) (.ref (qP0 0)) (rC11) (rC12) (rC14) (rC15) (rC17) (rC18) (rC19) z8.2 ++ w6 ca qP0 (.ref (qT0 0)) (rP01) SP0 ++ w7 ca qT0 ST0)) [12, 0, 1, 2, 3, 4, 5, 6, 7, 8, 9, 10, 11] rfl
          have hD := hD.sub (ws' := (w11 ca qC (rC3) (rC4) (rC6) (rC7) (.ref (qP0 0)) (rC11) (rC12) (rC14) (rC15) (rC17) (rC18) (rC19) z8.2 ++ w6 ca qP0 (.ref (qT0 0)) (rP01) SP0 ++ w7 ca qT0 ST0)) [12, 0, 1, 2, 3, 4, 5, 6, 7, 8, 9, 10, 11] rfl rfl
          obtain rfl := Option.some.inj hf
          exact tc_ri X hP hD hS rfl dX11_anger_56 rfl rfl
      · have hf := tc_pos hc hf
        refine lv_aload_n hx hb dX11_anger_35 rfl (lv_at hl 1 rfl) ?_
        refine lv_iconst (v := (5 : Int32)) hx hb dX11_anger_36 (by decide) ?_
        obtain ⟨z9, hg, hf⟩ := tc_bi hf
        refine tc_iV (As := [.int ((5 : Int32))]) (rest := []) (b := qC 0) (wc := w11 ca qC (rC3) (rC4) (rC6) (rC7) (.ref (qP0 0)) (rC11) (rC12) (rC14) (rC15) (rC17) (rC18) (rC19) SC) (wr := w6 ca qP0 (.ref (qT0 0)) (rP01) SP0 ++ w7 ca qT0 ST0) X hP hD hS (mX11_refuse hg) okX11_refuse wl_X11_121 wi_X11_refuse ws_X11_X11_refuse_X11_refuse ⟨rfl, rfl, Nat.le_of_ble_eq_true rfl, Nat.le_of_ble_eq_true rfl⟩ 11 0 rfl rfl [0] [1, 2, 3, 4, 5, 6, 7, 8, 9, 10, 11, 12] ⟨rfl, rfl, rfl, rfl, by decide⟩ rfl hl.1 (Nat.le_of_ble_eq_true rfl) dX11_anger_37 (fun H locs hP hD hS => ?_)
        have hP := hP.sub (ws' := (w11 ca qC (rC3) (rC4) (rC6) (rC7) (.ref (qP0 0)) (rC11) (rC12) (rC14) (rC15) (rC17) (rC18) (rC19) z9.2 ++ w6 ca qP0 (.ref (qT0 0)) (rP01) SP0 ++ w7 ca qT0 ST0)) [12, 0, 1, 2, 3, 4, 5, 6, 7, 8, 9, 10, 11] rfl
        have hD := hD.sub (ws' := (w11 ca qC (rC3) (rC4) (rC6) (rC7) (.ref (qP0 0)) (rC11) (rC12) (rC14) (rC15) (rC17) (rC18) (rC19) z9.2 ++ w6 ca qP0 (.ref (qT0 0)) (rP01) SP0 ++ w7 ca qT0 ST0)) [12, 0, 1, 2, 3, 4, 5, 6, 7, 8, 9, 10, 11] rfl rfl
        obtain rfl := Option.some.inj hf
        exact tc_ri X hP hD hS rfl dX11_anger_40 rfl rfl
    · have hf := tc_pos hc hf
      exact tX11_anger_24 X z SP0 SC ST0 hf _ _ _ hP hD hS (lv_sub hl [1] rfl)
theorem pw11_6_7_2_0 (ca : Nat → ClassId) (q0 q1 q2 : Nat → Nat) (r0_3 r0_4 r0_6 r0_7 r0_10 r0_11 r0_12 r0_14 r0_15 r0_17 r0_18 r0_19 r1_0 r1_1 : Value) (S0 S1 S2 : ms_T) (v : Int32) : (w11 ca q0 r0_3 r0_4 r0_6 r0_7 r0_10 r0_11 r0_12 r0_14 r0_15 r0_17 r0_18 r0_19 S0 ++ w6 ca q1 r1_0 r1_1 S1 ++ w7 ca q2 S2 : va_W).set 2 (q2 0, .inr (7, List.set (.int (gi S2 0) :: .int (gi S2 1) :: .ref (q2 1) :: .ref (q2 2) :: .int (gi S2 4) :: .ref (q2 3) :: .ref (q2 4) :: .int (gi S2 7) :: .int (gi S2 8) :: .ref (q2 5) :: .ref (q2 6) :: .ref (q2 7) :: .int (gi S2 12) :: .int (gi S2 13) :: .ref (q2 8) :: .ref (q2 9) :: .int (gi S2 16) :: .ref (q2 10) :: []) 0 (.int v))) = w11 ca q0 r0_3 r0_4 r0_6 r0_7 r0_10 r0_11 r0_12 r0_14 r0_15 r0_17 r0_18 r0_19 S0 ++ w6 ca q1 r1_0 r1_1 S1 ++ w7 ca q2 (si S2 0 v) := rfl
def fX11_rule_10  (SP0 : ms_T)  (SC : ms_T) (ST0 : ms_T) : Option (Int32 × ms_T × ms_T) :=
  (fX11_deny SC (5 : Int32)).bind fun z1 =>
  if z1.1 &&& 1 = z1.1 then
    some (z1.1, z1.2, ST0)
  else none
def fX11_rule  (SC : ms_T) (SP0 : ms_T) (ST0 : ms_T) (a1 : Int32) : Option (Int32 × ms_T × ms_T) :=
  if a1 < 0 then
    fX11_rule_10 SP0 SC ST0
  else
    if a1 ≤ (16 : Int32) then
      (fX11_grant SC).bind fun z2 =>
      if z2.1 &&& 1 = z2.1 then
        some (z2.1, z2.2, si ST0 0 a1)
      else none
    else
      fX11_rule_10 SP0 SC ST0
abbrev rmX11_rule : Room := { frames := 1, cells := 0, slots := 0, locals := 21 }
theorem okX11_rule : tc_ok yX11_rule cX11_rule 2 (some .boolean) 1 := ⟨wc_X11_rule, wn_X11, by decide, by decide, by decide +kernel⟩
set_option maxRecDepth 20000 in
theorem tX11_rule_10 {qC : Nat → Nat} {qP0 : Nat → Nat} {qT0 : Nat → Nat} {rC3 : Value} {rC4 : Value} {rC6 : Value} {rC7 : Value} {rC11 : Value} {rC12 : Value} {rC14 : Value} {rC15 : Value} {rC17 : Value} {rC18 : Value} {rC19 : Value} {rP01 : Value} (X : tc_X dC dI ca A RX11 cX11_rule 2 (some .boolean) p s m args meth c) (z : Int32 × ms_T × ms_T)  (SP0 : ms_T)   : ∀ (SC : ms_T) (ST0 : ms_T), fX11_rule_10 SP0 SC ST0 = some z → ∀ (H : Heap) (locs : List Loc) (ls : Array Slot), va_P (dC, dI) classes (w11 ca qC (rC3) (rC4) (rC6) (rC7) (.ref (qP0 0)) (rC11) (rC12) (rC14) (rC15) (rC17) (rC18) (rC19) SC ++ w6 ca qP0 (.ref (qT0 0)) (rP01) SP0 ++ w7 ca qT0 ST0) H → va_D A (w11 ca qC (rC3) (rC4) (rC6) (rC7) (.ref (qP0 0)) (rC11) (rC12) (rC14) (rC15) (rC17) (rC18) (rC19) SC ++ w6 ca qP0 (.ref (qT0 0)) (rP01) SP0 ++ w7 ca qT0 ST0) → va_S A s.heap H locs → lv_has ls 2 [(0, .ref (qC 0))] → W p l e rmX11_rule s m args below meth c H locs 0 0 (MQ below (tc_QI dC dI ca A (w11 ca qC (rC3) (rC4) (rC6) (rC7) (.ref (qP0 0)) (rC11) (rC12) (rC14) (rC15) (rC17) (rC18) (rC19) z.2.1 ++ w6 ca qP0 (.ref (qT0 0)) (rP01) SP0 ++ w7 ca qT0 z.2.2) (z.1)) args s 0 0 A) (F0 m 10 ls []) := by
  obtain ⟨hx, hb, hr, hml, hown, hts, hlk, hK, hA, hG⟩ := id X
  intro SC ST0 hf H locs ls hP hD hS hl
  unfold fX11_rule_10 at hf
  refine lv_aload_n hx hb dX11_rule_10 rfl (lv_at hl 0 rfl) ?_
  refine lv_iconst (v := (5 : Int32)) hx hb dX11_rule_11 (by decide) ?_
  obtain ⟨z1, hg, hf⟩ := tc_bi hf
  refine tc_iV (As := [.int ((5 : Int32))]) (rest := []) (b := qC 0) (wc := w11 ca qC (rC3) (rC4) (rC6) (rC7) (.ref (qP0 0)) (rC11) (rC12) (rC14) (rC15) (rC17) (rC18) (rC19) SC) (wr := w6 ca qP0 (.ref (qT0 0)) (rP01) SP0 ++ w7 ca qT0 ST0) X hP hD hS (mX11_deny hg) okX11_deny wl_X11_102 wi_X11_deny ws_X11_X11_deny_X11_deny ⟨rfl, rfl, Nat.le_of_ble_eq_true rfl, Nat.le_of_ble_eq_true rfl⟩ 11 0 rfl rfl [0] [1, 2, 3, 4, 5, 6, 7, 8, 9, 10, 11, 12] ⟨rfl, rfl, rfl, rfl, by decide⟩ rfl hl.1 (Nat.le_of_ble_eq_true rfl) dX11_rule_12 (fun H locs hP hD hS => ?_)
  have hP := hP.sub (ws' := (w11 ca qC (rC3) (rC4) (rC6) (rC7) (.ref (qP0 0)) (rC11) (rC12) (rC14) (rC15) (rC17) (rC18) (rC19) z1.2 ++ w6 ca qP0 (.ref (qT0 0)) (rP01) SP0 ++ w7 ca qT0 ST0)) [12, 0, 1, 2, 3, 4, 5, 6, 7, 8, 9, 10, 11] rfl
  have hD := hD.sub (ws' := (w11 ca qC (rC3) (rC4) (rC6) (rC7) (.ref (qP0 0)) (rC11) (rC12) (rC14) (rC15) (rC17) (rC18) (rC19) z1.2 ++ w6 ca qP0 (.ref (qT0 0)) (rP01) SP0 ++ w7 ca qT0 ST0)) [12, 0, 1, 2, 3, 4, 5, 6, 7, 8, 9, 10, 11] rfl rfl
  obtain ⟨hz1, hf⟩ := tc_ck hf
  obtain rfl := Option.some.inj hf
  exact tc_rz X hP hD hS rfl dX11_rule_15 hz1 rfl rfl
set_option maxRecDepth 20000 in
theorem mX11_rule {qC : Nat → Nat} {qP0 : Nat → Nat} {qT0 : Nat → Nat} {rC3 : Value} {rC4 : Value} {rC6 : Value} {rC7 : Value} {rC11 : Value} {rC12 : Value} {rC14 : Value} {rC15 : Value} {rC17 : Value} {rC18 : Value} {rC19 : Value} {rP01 : Value} {SC : ms_T} {SP0 : ms_T} {ST0 : ms_T} {a1 : Int32} {z : Int32 × ms_T × ms_T}  (hf : fX11_rule SC SP0 ST0 a1 = some z) : tc_MI l dC dI ca yX11_rule cX11_rule 2 (some .boolean) rmX11_rule [.ref (qC 0), .int (a1)] (w11 ca qC (rC3) (rC4) (rC6) (rC7) (.ref (qP0 0)) (rC11) (rC12) (rC14) (rC15) (rC17) (rC18) (rC19) SC ++ w6 ca qP0 (.ref (qT0 0)) (rP01) SP0 ++ w7 ca qT0 ST0) (w11 ca qC (rC3) (rC4) (rC6) (rC7) (.ref (qP0 0)) (rC11) (rC12) (rC14) (rC15) (rC17) (rC18) (rC19) z.2.1 ++ w6 ca qP0 (.ref (qT0 0)) (rP01) SP0 ++ w7 ca qT0 z.2.2) (z.1) := by
  refine tc_metI (own := RX11) (by decide) rfl ?_ (Nat.le_of_ble_eq_true rfl)
  intro p e s m below meth c A X hP hD hS ls hl
  obtain ⟨hx, hb, hr, hml, hown, hts, hlk, hK, hA, hG⟩ := id X
  unfold fX11_rule at hf
  have hl : lv_has ls 2 [(0, .ref (qC 0)), (1, .int (a1))] := hl
  refine lv_iload_n hx hb dX11_rule_0 rfl (lv_at hl 1 rfl) ?_
  refine lv_if_lt (tgt := 10) hx hb dX11_rule_1 (by decide) (fun hc => ?_) (fun hc => ?_)
  · have hf := tc_pos hc hf
    exact tX11_rule_10 X z SP0 SC ST0 hf _ _ _ hP hD hS (lv_sub hl [0] rfl)
  · have hf := tc_neg hc hf
    refine lv_iload_n hx hb dX11_rule_4 rfl (lv_at hl 1 rfl) ?_
    refine lv_bipush (v := (16 : Int32)) hx hb dX11_rule_5 (by decide) ?_
    refine lv_icmp_le (tgt := 16) hx hb dX11_rule_7 (by decide) (fun hc => ?_) (fun hc => ?_)
    · have hf := tc_pos hc hf
      refine lv_aload_n hx hb dX11_rule_16 rfl (lv_at hl 0 rfl) ?_
      refine va_get (D := (dC, dI)) (ci := 11) (v := .ref (qP0 0)) (C := RX11) (T := TX11) (N := 20) hx hb hts i_X11 hown hK hP 0 rfl rfl 10 (by decide) (hts _ wf_X11_39) (fun _ h9 => h9) rfl dX11_rule_17 ?_
      refine va_get (D := (dC, dI)) (ci := 6) (v := .ref (qT0 0)) (C := RX6) (T := TX6) (N := 2) hx hb hts i_X6 hown hK hP 1 rfl rfl 0 (by decide) (hts _ wf_X11_152) (fun _ h9 => h9) rfl dX11_rule_20 ?_
      refine lv_iload_n hx hb dX11_rule_23 rfl (lv_at hl 1 rfl) ?_
      refine va_put (D := (dC, dI)) (ci := 7) (v := .int (a1)) (ty := .int) (C := RX7) (T := TX7) (N := 18) hx hb hts i_X7 tyX7 tyX7_ok nmX7 hown hK hP hD hS 2 rfl rfl 0 (by decide) (hts _ wf_X11_203) (fun _ h9 => h9) rfl (tyX7_ok 0 (by decide)) rfl rfl (Nat.le_of_ble_eq_true rfl) dX11_rule_24 (fun H locs hP hD hS => ?_)
      have hP := tc_eP (pw11_6_7_2_0 ca qC qP0 qT0 (rC3) (rC4) (rC6) (rC7) (.ref (qP0 0)) (rC11) (rC12) (rC14) (rC15) (rC17) (rC18) (rC19) (.ref (qT0 0)) (rP01) SC SP0 ST0 a1) hP
      have hD := tc_eD (pw11_6_7_2_0 ca qC qP0 qT0 (rC3) (rC4) (rC6) (rC7) (.ref (qP0 0)) (rC11) (rC12) (rC14) (rC15) (rC17) (rC18) (rC19) (.ref (qT0 0)) (rP01) SC SP0 ST0 a1) hD
      refine lv_aload_n hx hb dX11_rule_27 rfl (lv_at hl 0 rfl) ?_
      obtain ⟨z2, hg, hf⟩ := tc_bi hf
      refine tc_iV (As := []) (rest := []) (b := qC 0) (wc := w11 ca qC (rC3) (rC4) (rC6) (rC7) (.ref (qP0 0)) (rC11) (rC12) (rC14) (rC15) (rC17) (rC18) (rC19) SC) (wr := w6 ca qP0 (.ref (qT0 0)) (rP01) SP0 ++ w7 ca qT0 (si ST0 0 a1)) X hP hD hS (mX11_grant hg) okX11_grant wl_X11_109 wi_X11_grant ws_X11_X11_grant_X11_grant ⟨rfl, rfl, Nat.le_of_ble_eq_true rfl, Nat.le_of_ble_eq_true rfl⟩ 11 0 rfl rfl [0] [1, 2, 3, 4, 5, 6, 7, 8, 9, 10, 11, 12] ⟨rfl, rfl, rfl, rfl, by decide⟩ rfl hl.1 (Nat.le_of_ble_eq_true rfl) dX11_rule_28 (fun H locs hP hD hS => ?_)
      have hP := hP.sub (ws' := (w11 ca qC (rC3) (rC4) (rC6) (rC7) (.ref (qP0 0)) (rC11) (rC12) (rC14) (rC15) (rC17) (rC18) (rC19) z2.2 ++ w6 ca qP0 (.ref (qT0 0)) (rP01) SP0 ++ w7 ca qT0 (si ST0 0 a1))) [12, 0, 1, 2, 3, 4, 5, 6, 7, 8, 9, 10, 11] rfl
      have hD := hD.sub (ws' := (w11 ca qC (rC3) (rC4) (rC6) (rC7) (.ref (qP0 0)) (rC11) (rC12) (rC14) (rC15) (rC17) (rC18) (rC19) z2.2 ++ w6 ca qP0 (.ref (qT0 0)) (rP01) SP0 ++ w7 ca qT0 (si ST0 0 a1))) [12, 0, 1, 2, 3, 4, 5, 6, 7, 8, 9, 10, 11] rfl rfl
      obtain ⟨hz1, hf⟩ := tc_ck hf
      obtain rfl := Option.some.inj hf
      exact tc_rz X hP hD hS rfl dX11_rule_31 hz1 rfl rfl
    · have hf := tc_neg hc hf
      exact tX11_rule_10 X z SP0 SC ST0 hf _ _ _ hP hD hS (lv_sub hl [0] rfl)
def fX11_holdsUp  (SC : ms_T) (SP0 : ms_T) (ST0 : ms_T) (a1 : Int32) : Option (Int32 × ms_T) :=
  (fX7_isClaim ST0 a1).bind fun z1 =>
  if z1 = 0 then
    (fX11_refuse SC (2 : Int32)).bind fun z5 =>
    some (z5.1, z5.2)
  else
    (fX7_fewestProps ST0 a1).bind fun z2 =>
    (fJ6_bitCount_0f7a4 z2).bind fun z3 =>
    (fX11_answer SC z3).bind fun z4 =>
    some (z4.1, z4.2)
abbrev rmX11_holdsUp : Room := { frames := 3, cells := 0, slots := 0, locals := 67 }
theorem okX11_holdsUp : tc_ok yX11_holdsUp cX11_holdsUp 2 (some .int) 1 := ⟨wc_X11_holdsUp, wn_X11, by decide, by decide, by decide +kernel⟩
set_option maxRecDepth 20000 in
theorem mX11_holdsUp {qC : Nat → Nat} {qP0 : Nat → Nat} {qT0 : Nat → Nat} {rC3 : Value} {rC4 : Value} {rC6 : Value} {rC7 : Value} {rC11 : Value} {rC12 : Value} {rC14 : Value} {rC15 : Value} {rC17 : Value} {rC18 : Value} {rC19 : Value} {rP01 : Value} {SC : ms_T} {SP0 : ms_T} {ST0 : ms_T} {a1 : Int32} {z : Int32 × ms_T}  (hf : fX11_holdsUp SC SP0 ST0 a1 = some z) : tc_MI l dC dI ca yX11_holdsUp cX11_holdsUp 2 (some .int) rmX11_holdsUp [.ref (qC 0), .int (a1)] (w11 ca qC (rC3) (rC4) (rC6) (rC7) (.ref (qP0 0)) (rC11) (rC12) (rC14) (rC15) (rC17) (rC18) (rC19) SC ++ w6 ca qP0 (.ref (qT0 0)) (rP01) SP0 ++ w7 ca qT0 ST0) (w11 ca qC (rC3) (rC4) (rC6) (rC7) (.ref (qP0 0)) (rC11) (rC12) (rC14) (rC15) (rC17) (rC18) (rC19) z.2 ++ w6 ca qP0 (.ref (qT0 0)) (rP01) SP0 ++ w7 ca qT0 ST0) (z.1) := by
  refine tc_metI (own := RX11) (by decide) rfl ?_ (Nat.le_of_ble_eq_true rfl)
  intro p e s m below meth c A X hP hD hS ls hl
  obtain ⟨hx, hb, hr, hml, hown, hts, hlk, hK, hA, hG⟩ := id X
  unfold fX11_holdsUp at hf
  have hl : lv_has ls 2 [(0, .ref (qC 0)), (1, .int (a1))] := hl
  refine lv_aload_n hx hb dX11_holdsUp_0 rfl (lv_at hl 0 rfl) ?_
  refine va_get (D := (dC, dI)) (ci := 11) (v := .ref (qP0 0)) (C := RX11) (T := TX11) (N := 20) hx hb hts i_X11 hown hK hP 0 rfl rfl 10 (by decide) (hts _ wf_X11_39) (fun _ h9 => h9) rfl dX11_holdsUp_1 ?_
  refine va_get (D := (dC, dI)) (ci := 6) (v := .ref (qT0 0)) (C := RX6) (T := TX6) (N := 2) hx hb hts i_X6 hown hK hP 1 rfl rfl 0 (by decide) (hts _ wf_X11_152) (fun _ h9 => h9) rfl dX11_holdsUp_4 ?_
  refine lv_iload_n hx hb dX11_holdsUp_7 rfl (lv_at hl 1 rfl) ?_
  obtain ⟨z1, hg, hf⟩ := tc_bi hf
  refine tc_iV (As := [.int (a1)]) (rest := []) (b := qT0 0) (wc := w7 ca qT0 ST0) (wr := w11 ca qC (rC3) (rC4) (rC6) (rC7) (.ref (qP0 0)) (rC11) (rC12) (rC14) (rC15) (rC17) (rC18) (rC19) SC ++ w6 ca qP0 (.ref (qT0 0)) (rP01) SP0) X hP hD hS (mX7_isClaim hg) okX7_isClaim wl_X11_235 wi_X7_isClaim ws_X7_X7_isClaim_X7_isClaim ⟨rfl, rfl, Nat.le_of_ble_eq_true rfl, Nat.le_of_ble_eq_true rfl⟩ 7 0 rfl rfl [2, 3, 4, 5, 6, 7, 8, 9, 10, 11, 12] [0, 1] ⟨rfl, rfl, rfl, rfl, by decide⟩ rfl hl.1 (Nat.le_of_ble_eq_true rfl) dX11_holdsUp_8 (fun H locs hP hD hS => ?_)
  have hP := hP.sub (ws' := (w11 ca qC (rC3) (rC4) (rC6) (rC7) (.ref (qP0 0)) (rC11) (rC12) (rC14) (rC15) (rC17) (rC18) (rC19) SC ++ w6 ca qP0 (.ref (qT0 0)) (rP01) SP0 ++ w7 ca qT0 ST0)) [0, 1, 2, 3, 4, 5, 6, 7, 8, 9, 10, 11, 12] rfl
  have hD := hD.sub (ws' := (w11 ca qC (rC3) (rC4) (rC6) (rC7) (.ref (qP0 0)) (rC11) (rC12) (rC14) (rC15) (rC17) (rC18) (rC19) SC ++ w6 ca qP0 (.ref (qT0 0)) (rP01) SP0 ++ w7 ca qT0 ST0)) [0, 1, 2, 3, 4, 5, 6, 7, 8, 9, 10, 11, 12] rfl rfl
  refine lv_if_ne (tgt := 20) hx hb dX11_holdsUp_11 (by decide) (fun hc => ?_) (fun hc => ?_)
  · have hf := tc_neg hc hf
    refine lv_aload_n hx hb dX11_holdsUp_20 rfl (lv_at hl 0 rfl) ?_
    refine lv_aload_n hx hb dX11_holdsUp_21 rfl (lv_at hl 0 rfl) ?_
    refine va_get (D := (dC, dI)) (ci := 11) (v := .ref (qP0 0)) (C := RX11) (T := TX11) (N := 20) hx hb hts i_X11 hown hK hP 0 rfl rfl 10 (by decide) (hts _ wf_X11_39) (fun _ h9 => h9) rfl dX11_holdsUp_22 ?_
    refine va_get (D := (dC, dI)) (ci := 6) (v := .ref (qT0 0)) (C := RX6) (T := TX6) (N := 2) hx hb hts i_X6 hown hK hP 1 rfl rfl 0 (by decide) (hts _ wf_X11_152) (fun _ h9 => h9) rfl dX11_holdsUp_25 ?_
    refine lv_iload_n hx hb dX11_holdsUp_28 rfl (lv_at hl 1 rfl) ?_
    obtain ⟨z2, hg, hf⟩ := tc_bi hf
    refine tc_iV (As := [.int (a1)]) (rest := [.ref (qC 0)]) (b := qT0 0) (wc := w7 ca qT0 ST0) (wr := w11 ca qC (rC3) (rC4) (rC6) (rC7) (.ref (qP0 0)) (rC11) (rC12) (rC14) (rC15) (rC17) (rC18) (rC19) SC ++ w6 ca qP0 (.ref (qT0 0)) (rP01) SP0) X hP hD hS (mX7_fewestProps hg) okX7_fewestProps wl_X11_302 wi_X7_fewestProps ws_X7_X7_fewestProps_X7_fewestProps ⟨rfl, rfl, Nat.le_of_ble_eq_true rfl, Nat.le_of_ble_eq_true rfl⟩ 7 0 rfl rfl [2, 3, 4, 5, 6, 7, 8, 9, 10, 11, 12] [0, 1] ⟨rfl, rfl, rfl, rfl, by decide⟩ rfl hl.1 (Nat.le_of_ble_eq_true rfl) dX11_holdsUp_29 (fun H locs hP hD hS => ?_)
    have hP := hP.sub (ws' := (w11 ca qC (rC3) (rC4) (rC6) (rC7) (.ref (qP0 0)) (rC11) (rC12) (rC14) (rC15) (rC17) (rC18) (rC19) SC ++ w6 ca qP0 (.ref (qT0 0)) (rP01) SP0 ++ w7 ca qT0 ST0)) [0, 1, 2, 3, 4, 5, 6, 7, 8, 9, 10, 11, 12] rfl
    have hD := hD.sub (ws' := (w11 ca qC (rC3) (rC4) (rC6) (rC7) (.ref (qP0 0)) (rC11) (rC12) (rC14) (rC15) (rC17) (rC18) (rC19) SC ++ w6 ca qP0 (.ref (qT0 0)) (rP01) SP0 ++ w7 ca qT0 ST0)) [0, 1, 2, 3, 4, 5, 6, 7, 8, 9, 10, 11, 12] rfl rfl
    obtain ⟨z3, hg, hf⟩ := tc_bi hf
    refine tc_iS0 (As := [.int (z2)]) (rest := [.ref (qC 0)]) X hP hD hS (mJ6_bitCount_0f7a4 hg) okJ6_bitCount_0f7a4 wl_X11_284 wt_J6_bitCount_0f7a4 ⟨rfl, rfl, Nat.le_of_ble_eq_true rfl, Nat.le_of_ble_eq_true rfl⟩ rfl hl.1 (Nat.le_of_ble_eq_true rfl) dX11_holdsUp_32 (fun H locs hP hD hS => ?_)
    obtain ⟨z4, hg, hf⟩ := tc_bi hf
    refine tc_iV (As := [.int (z3)]) (rest := []) (b := qC 0) (wc := w11 ca qC (rC3) (rC4) (rC6) (rC7) (.ref (qP0 0)) (rC11) (rC12) (rC14) (rC15) (rC17) (rC18) (rC19) SC) (wr := w6 ca qP0 (.ref (qT0 0)) (rP01) SP0 ++ w7 ca qT0 ST0) X hP hD hS (mX11_answer hg) okX11_answer wl_X11_182 wi_X11_answer ws_X11_X11_answer_X11_answer ⟨rfl, rfl, Nat.le_of_ble_eq_true rfl, Nat.le_of_ble_eq_true rfl⟩ 11 0 rfl rfl [0] [1, 2, 3, 4, 5, 6, 7, 8, 9, 10, 11, 12] ⟨rfl, rfl, rfl, rfl, by decide⟩ rfl hl.1 (Nat.le_of_ble_eq_true rfl) dX11_holdsUp_35 (fun H locs hP hD hS => ?_)
    have hP := hP.sub (ws' := (w11 ca qC (rC3) (rC4) (rC6) (rC7) (.ref (qP0 0)) (rC11) (rC12) (rC14) (rC15) (rC17) (rC18) (rC19) z4.2 ++ w6 ca qP0 (.ref (qT0 0)) (rP01) SP0 ++ w7 ca qT0 ST0)) [12, 0, 1, 2, 3, 4, 5, 6, 7, 8, 9, 10, 11] rfl
    have hD := hD.sub (ws' := (w11 ca qC (rC3) (rC4) (rC6) (rC7) (.ref (qP0 0)) (rC11) (rC12) (rC14) (rC15) (rC17) (rC18) (rC19) z4.2 ++ w6 ca qP0 (.ref (qT0 0)) (rP01) SP0 ++ w7 ca qT0 ST0)) [12, 0, 1, 2, 3, 4, 5, 6, 7, 8, 9, 10, 11] rfl rfl
    obtain rfl := Option.some.inj hf
    exact tc_ri X hP hD hS rfl dX11_holdsUp_38 rfl rfl
  · have hf := tc_pos hc hf
    refine lv_aload_n hx hb dX11_holdsUp_14 rfl (lv_at hl 0 rfl) ?_
    refine lv_iconst (v := (2 : Int32)) hx hb dX11_holdsUp_15 (by decide) ?_
    obtain ⟨z5, hg, hf⟩ := tc_bi hf
    refine tc_iV (As := [.int ((2 : Int32))]) (rest := []) (b := qC 0) (wc := w11 ca qC (rC3) (rC4) (rC6) (rC7) (.ref (qP0 0)) (rC11) (rC12) (rC14) (rC15) (rC17) (rC18) (rC19) SC) (wr := w6 ca qP0 (.ref (qT0 0)) (rP01) SP0 ++ w7 ca qT0 ST0) X hP hD hS (mX11_refuse hg) okX11_refuse wl_X11_121 wi_X11_refuse ws_X11_X11_refuse_X11_refuse ⟨rfl, rfl, Nat.le_of_ble_eq_true rfl, Nat.le_of_ble_eq_true rfl⟩ 11 0 rfl rfl [0] [1, 2, 3, 4, 5, 6, 7, 8, 9, 10, 11, 12] ⟨rfl, rfl, rfl, rfl, by decide⟩ rfl hl.1 (Nat.le_of_ble_eq_true rfl) dX11_holdsUp_16 (fun H locs hP hD hS => ?_)
    have hP := hP.sub (ws' := (w11 ca qC (rC3) (rC4) (rC6) (rC7) (.ref (qP0 0)) (rC11) (rC12) (rC14) (rC15) (rC17) (rC18) (rC19) z5.2 ++ w6 ca qP0 (.ref (qT0 0)) (rP01) SP0 ++ w7 ca qT0 ST0)) [12, 0, 1, 2, 3, 4, 5, 6, 7, 8, 9, 10, 11] rfl
    have hD := hD.sub (ws' := (w11 ca qC (rC3) (rC4) (rC6) (rC7) (.ref (qP0 0)) (rC11) (rC12) (rC14) (rC15) (rC17) (rC18) (rC19) z5.2 ++ w6 ca qP0 (.ref (qT0 0)) (rP01) SP0 ++ w7 ca qT0 ST0)) [12, 0, 1, 2, 3, 4, 5, 6, 7, 8, 9, 10, 11] rfl rfl
    obtain rfl := Option.some.inj hf
    exact tc_ri X hP hD hS rfl dX11_holdsUp_19 rfl rfl
def fX11_holdsUpSet  (SC : ms_T) (SP0 : ms_T) (ST0 : ms_T) (a1 : Int32) : Option (Int32 × ms_T) :=
  (fX7_isClaim ST0 a1).bind fun z1 =>
  if z1 = 0 then
    (fX11_refuse SC (2 : Int32)).bind fun z4 =>
    some (z4.1, z4.2)
  else
    (fX7_fewestProps ST0 a1).bind fun z2 =>
    (fX11_answer SC z2).bind fun z3 =>
    some (z3.1, z3.2)
abbrev rmX11_holdsUpSet : Room := { frames := 3, cells := 0, slots := 0, locals := 67 }
theorem okX11_holdsUpSet : tc_ok yX11_holdsUpSet cX11_holdsUpSet 2 (some .int) 1 := ⟨wc_X11_holdsUpSet, wn_X11, by decide, by decide, by decide +kernel⟩
set_option maxRecDepth 20000 in
theorem mX11_holdsUpSet {qC : Nat → Nat} {qP0 : Nat → Nat} {qT0 : Nat → Nat} {rC3 : Value} {rC4 : Value} {rC6 : Value} {rC7 : Value} {rC11 : Value} {rC12 : Value} {rC14 : Value} {rC15 : Value} {rC17 : Value} {rC18 : Value} {rC19 : Value} {rP01 : Value} {SC : ms_T} {SP0 : ms_T} {ST0 : ms_T} {a1 : Int32} {z : Int32 × ms_T}  (hf : fX11_holdsUpSet SC SP0 ST0 a1 = some z) : tc_MI l dC dI ca yX11_holdsUpSet cX11_holdsUpSet 2 (some .int) rmX11_holdsUpSet [.ref (qC 0), .int (a1)] (w11 ca qC (rC3) (rC4) (rC6) (rC7) (.ref (qP0 0)) (rC11) (rC12) (rC14) (rC15) (rC17) (rC18) (rC19) SC ++ w6 ca qP0 (.ref (qT0 0)) (rP01) SP0 ++ w7 ca qT0 ST0) (w11 ca qC (rC3) (rC4) (rC6) (rC7) (.ref (qP0 0)) (rC11) (rC12) (rC14) (rC15) (rC17) (rC18) (rC19) z.2 ++ w6 ca qP0 (.ref (qT0 0)) (rP01) SP0 ++ w7 ca qT0 ST0) (z.1) := by
  refine tc_metI (own := RX11) (by decide) rfl ?_ (Nat.le_of_ble_eq_true rfl)
  intro p e s m below meth c A X hP hD hS ls hl
  obtain ⟨hx, hb, hr, hml, hown, hts, hlk, hK, hA, hG⟩ := id X
  unfold fX11_holdsUpSet at hf
  have hl : lv_has ls 2 [(0, .ref (qC 0)), (1, .int (a1))] := hl
  refine lv_aload_n hx hb dX11_holdsUpSet_0 rfl (lv_at hl 0 rfl) ?_
  refine va_get (D := (dC, dI)) (ci := 11) (v := .ref (qP0 0)) (C := RX11) (T := TX11) (N := 20) hx hb hts i_X11 hown hK hP 0 rfl rfl 10 (by decide) (hts _ wf_X11_39) (fun _ h9 => h9) rfl dX11_holdsUpSet_1 ?_
  refine va_get (D := (dC, dI)) (ci := 6) (v := .ref (qT0 0)) (C := RX6) (T := TX6) (N := 2) hx hb hts i_X6 hown hK hP 1 rfl rfl 0 (by decide) (hts _ wf_X11_152) (fun _ h9 => h9) rfl dX11_holdsUpSet_4 ?_
  refine lv_iload_n hx hb dX11_holdsUpSet_7 rfl (lv_at hl 1 rfl) ?_
  obtain ⟨z1, hg, hf⟩ := tc_bi hf
  refine tc_iV (As := [.int (a1)]) (rest := []) (b := qT0 0) (wc := w7 ca qT0 ST0) (wr := w11 ca qC (rC3) (rC4) (rC6) (rC7) (.ref (qP0 0)) (rC11) (rC12) (rC14) (rC15) (rC17) (rC18) (rC19) SC ++ w6 ca qP0 (.ref (qT0 0)) (rP01) SP0) X hP hD hS (mX7_isClaim hg) okX7_isClaim wl_X11_235 wi_X7_isClaim ws_X7_X7_isClaim_X7_isClaim ⟨rfl, rfl, Nat.le_of_ble_eq_true rfl, Nat.le_of_ble_eq_true rfl⟩ 7 0 rfl rfl [2, 3, 4, 5, 6, 7, 8, 9, 10, 11, 12] [0, 1] ⟨rfl, rfl, rfl, rfl, by decide⟩ rfl hl.1 (Nat.le_of_ble_eq_true rfl) dX11_holdsUpSet_8 (fun H locs hP hD hS => ?_)
  have hP := hP.sub (ws' := (w11 ca qC (rC3) (rC4) (rC6) (rC7) (.ref (qP0 0)) (rC11) (rC12) (rC14) (rC15) (rC17) (rC18) (rC19) SC ++ w6 ca qP0 (.ref (qT0 0)) (rP01) SP0 ++ w7 ca qT0 ST0)) [0, 1, 2, 3, 4, 5, 6, 7, 8, 9, 10, 11, 12] rfl
  have hD := hD.sub (ws' := (w11 ca qC (rC3) (rC4) (rC6) (rC7) (.ref (qP0 0)) (rC11) (rC12) (rC14) (rC15) (rC17) (rC18) (rC19) SC ++ w6 ca qP0 (.ref (qT0 0)) (rP01) SP0 ++ w7 ca qT0 ST0)) [0, 1, 2, 3, 4, 5, 6, 7, 8, 9, 10, 11, 12] rfl rfl
  refine lv_if_ne (tgt := 20) hx hb dX11_holdsUpSet_11 (by decide) (fun hc => ?_) (fun hc => ?_)
  · have hf := tc_neg hc hf
    refine lv_aload_n hx hb dX11_holdsUpSet_20 rfl (lv_at hl 0 rfl) ?_
    refine lv_aload_n hx hb dX11_holdsUpSet_21 rfl (lv_at hl 0 rfl) ?_
    refine va_get (D := (dC, dI)) (ci := 11) (v := .ref (qP0 0)) (C := RX11) (T := TX11) (N := 20) hx hb hts i_X11 hown hK hP 0 rfl rfl 10 (by decide) (hts _ wf_X11_39) (fun _ h9 => h9) rfl dX11_holdsUpSet_22 ?_
    refine va_get (D := (dC, dI)) (ci := 6) (v := .ref (qT0 0)) (C := RX6) (T := TX6) (N := 2) hx hb hts i_X6 hown hK hP 1 rfl rfl 0 (by decide) (hts _ wf_X11_152) (fun _ h9 => h9) rfl dX11_holdsUpSet_25 ?_
    refine lv_iload_n hx hb dX11_holdsUpSet_28 rfl (lv_at hl 1 rfl) ?_
    obtain ⟨z2, hg, hf⟩ := tc_bi hf
    refine tc_iV (As := [.int (a1)]) (rest := [.ref (qC 0)]) (b := qT0 0) (wc := w7 ca qT0 ST0) (wr := w11 ca qC (rC3) (rC4) (rC6) (rC7) (.ref (qP0 0)) (rC11) (rC12) (rC14) (rC15) (rC17) (rC18) (rC19) SC ++ w6 ca qP0 (.ref (qT0 0)) (rP01) SP0) X hP hD hS (mX7_fewestProps hg) okX7_fewestProps wl_X11_302 wi_X7_fewestProps ws_X7_X7_fewestProps_X7_fewestProps ⟨rfl, rfl, Nat.le_of_ble_eq_true rfl, Nat.le_of_ble_eq_true rfl⟩ 7 0 rfl rfl [2, 3, 4, 5, 6, 7, 8, 9, 10, 11, 12] [0, 1] ⟨rfl, rfl, rfl, rfl, by decide⟩ rfl hl.1 (Nat.le_of_ble_eq_true rfl) dX11_holdsUpSet_29 (fun H locs hP hD hS => ?_)
    have hP := hP.sub (ws' := (w11 ca qC (rC3) (rC4) (rC6) (rC7) (.ref (qP0 0)) (rC11) (rC12) (rC14) (rC15) (rC17) (rC18) (rC19) SC ++ w6 ca qP0 (.ref (qT0 0)) (rP01) SP0 ++ w7 ca qT0 ST0)) [0, 1, 2, 3, 4, 5, 6, 7, 8, 9, 10, 11, 12] rfl
    have hD := hD.sub (ws' := (w11 ca qC (rC3) (rC4) (rC6) (rC7) (.ref (qP0 0)) (rC11) (rC12) (rC14) (rC15) (rC17) (rC18) (rC19) SC ++ w6 ca qP0 (.ref (qT0 0)) (rP01) SP0 ++ w7 ca qT0 ST0)) [0, 1, 2, 3, 4, 5, 6, 7, 8, 9, 10, 11, 12] rfl rfl
    obtain ⟨z3, hg, hf⟩ := tc_bi hf
    refine tc_iV (As := [.int (z2)]) (rest := []) (b := qC 0) (wc := w11 ca qC (rC3) (rC4) (rC6) (rC7) (.ref (qP0 0)) (rC11) (rC12) (rC14) (rC15) (rC17) (rC18) (rC19) SC) (wr := w6 ca qP0 (.ref (qT0 0)) (rP01) SP0 ++ w7 ca qT0 ST0) X hP hD hS (mX11_answer hg) okX11_answer wl_X11_182 wi_X11_answer ws_X11_X11_answer_X11_answer ⟨rfl, rfl, Nat.le_of_ble_eq_true rfl, Nat.le_of_ble_eq_true rfl⟩ 11 0 rfl rfl [0] [1, 2, 3, 4, 5, 6, 7, 8, 9, 10, 11, 12] ⟨rfl, rfl, rfl, rfl, by decide⟩ rfl hl.1 (Nat.le_of_ble_eq_true rfl) dX11_holdsUpSet_32 (fun H locs hP hD hS => ?_)
    have hP := hP.sub (ws' := (w11 ca qC (rC3) (rC4) (rC6) (rC7) (.ref (qP0 0)) (rC11) (rC12) (rC14) (rC15) (rC17) (rC18) (rC19) z3.2 ++ w6 ca qP0 (.ref (qT0 0)) (rP01) SP0 ++ w7 ca qT0 ST0)) [12, 0, 1, 2, 3, 4, 5, 6, 7, 8, 9, 10, 11] rfl
    have hD := hD.sub (ws' := (w11 ca qC (rC3) (rC4) (rC6) (rC7) (.ref (qP0 0)) (rC11) (rC12) (rC14) (rC15) (rC17) (rC18) (rC19) z3.2 ++ w6 ca qP0 (.ref (qT0 0)) (rP01) SP0 ++ w7 ca qT0 ST0)) [12, 0, 1, 2, 3, 4, 5, 6, 7, 8, 9, 10, 11] rfl rfl
    obtain rfl := Option.some.inj hf
    exact tc_ri X hP hD hS rfl dX11_holdsUpSet_35 rfl rfl
  · have hf := tc_pos hc hf
    refine lv_aload_n hx hb dX11_holdsUpSet_14 rfl (lv_at hl 0 rfl) ?_
    refine lv_iconst (v := (2 : Int32)) hx hb dX11_holdsUpSet_15 (by decide) ?_
    obtain ⟨z4, hg, hf⟩ := tc_bi hf
    refine tc_iV (As := [.int ((2 : Int32))]) (rest := []) (b := qC 0) (wc := w11 ca qC (rC3) (rC4) (rC6) (rC7) (.ref (qP0 0)) (rC11) (rC12) (rC14) (rC15) (rC17) (rC18) (rC19) SC) (wr := w6 ca qP0 (.ref (qT0 0)) (rP01) SP0 ++ w7 ca qT0 ST0) X hP hD hS (mX11_refuse hg) okX11_refuse wl_X11_121 wi_X11_refuse ws_X11_X11_refuse_X11_refuse ⟨rfl, rfl, Nat.le_of_ble_eq_true rfl, Nat.le_of_ble_eq_true rfl⟩ 11 0 rfl rfl [0] [1, 2, 3, 4, 5, 6, 7, 8, 9, 10, 11, 12] ⟨rfl, rfl, rfl, rfl, by decide⟩ rfl hl.1 (Nat.le_of_ble_eq_true rfl) dX11_holdsUpSet_16 (fun H locs hP hD hS => ?_)
    have hP := hP.sub (ws' := (w11 ca qC (rC3) (rC4) (rC6) (rC7) (.ref (qP0 0)) (rC11) (rC12) (rC14) (rC15) (rC17) (rC18) (rC19) z4.2 ++ w6 ca qP0 (.ref (qT0 0)) (rP01) SP0 ++ w7 ca qT0 ST0)) [12, 0, 1, 2, 3, 4, 5, 6, 7, 8, 9, 10, 11] rfl
    have hD := hD.sub (ws' := (w11 ca qC (rC3) (rC4) (rC6) (rC7) (.ref (qP0 0)) (rC11) (rC12) (rC14) (rC15) (rC17) (rC18) (rC19) z4.2 ++ w6 ca qP0 (.ref (qT0 0)) (rP01) SP0 ++ w7 ca qT0 ST0)) [12, 0, 1, 2, 3, 4, 5, 6, 7, 8, 9, 10, 11] rfl rfl
    obtain rfl := Option.some.inj hf
    exact tc_ri X hP hD hS rfl dX11_holdsUpSet_19 rfl rfl
def fX11_bringsDown  (SC : ms_T) (SP0 : ms_T) (ST0 : ms_T) (a1 : Int32) : Option (Int32 × ms_T) :=
  (fX7_isClaim ST0 a1).bind fun z1 =>
  if z1 = 0 then
    (fX11_refuse SC (2 : Int32)).bind fun z6 =>
    some (z6.1, z6.2)
  else
    (fX7_standing ST0).bind fun z2 =>
    if ((z2 >>> (a1 &&& 31)) &&& (1 : Int32)) = 0 then
      (fX11_refuse SC (9 : Int32)).bind fun z5 =>
      some (z5.1, z5.2)
    else
      (fX7_standingBy ST0 (gi ST0 7) a1).bind fun z3 =>
      (fX11_answer SC (z2 &&& (z3 ^^^ (-1 : Int32)))).bind fun z4 =>
      some (z4.1, z4.2)
abbrev rmX11_bringsDown : Room := { frames := 2, cells := 0, slots := 0, locals := 45 }
theorem okX11_bringsDown : tc_ok yX11_bringsDown cX11_bringsDown 4 (some .int) 1 := ⟨wc_X11_bringsDown, wn_X11, by decide, by decide, by decide +kernel⟩
set_option maxRecDepth 20000 in
theorem mX11_bringsDown {qC : Nat → Nat} {qP0 : Nat → Nat} {qT0 : Nat → Nat} {rC3 : Value} {rC4 : Value} {rC6 : Value} {rC7 : Value} {rC11 : Value} {rC12 : Value} {rC14 : Value} {rC15 : Value} {rC17 : Value} {rC18 : Value} {rC19 : Value} {rP01 : Value} {SC : ms_T} {SP0 : ms_T} {ST0 : ms_T} {a1 : Int32} {z : Int32 × ms_T}  (hf : fX11_bringsDown SC SP0 ST0 a1 = some z) : tc_MI l dC dI ca yX11_bringsDown cX11_bringsDown 4 (some .int) rmX11_bringsDown [.ref (qC 0), .int (a1)] (w11 ca qC (rC3) (rC4) (rC6) (rC7) (.ref (qP0 0)) (rC11) (rC12) (rC14) (rC15) (rC17) (rC18) (rC19) SC ++ w6 ca qP0 (.ref (qT0 0)) (rP01) SP0 ++ w7 ca qT0 ST0) (w11 ca qC (rC3) (rC4) (rC6) (rC7) (.ref (qP0 0)) (rC11) (rC12) (rC14) (rC15) (rC17) (rC18) (rC19) z.2 ++ w6 ca qP0 (.ref (qT0 0)) (rP01) SP0 ++ w7 ca qT0 ST0) (z.1) := by
  refine tc_metI (own := RX11) (by decide) rfl ?_ (Nat.le_of_ble_eq_true rfl)
  intro p e s m below meth c A X hP hD hS ls hl
  obtain ⟨hx, hb, hr, hml, hown, hts, hlk, hK, hA, hG⟩ := id X
  unfold fX11_bringsDown at hf
  have hl : lv_has ls 4 [(0, .ref (qC 0)), (1, .int (a1))] := hl
  refine lv_aload_n hx hb dX11_bringsDown_0 rfl (lv_at hl 0 rfl) ?_
  refine va_get (D := (dC, dI)) (ci := 11) (v := .ref (qP0 0)) (C := RX11) (T := TX11) (N := 20) hx hb hts i_X11 hown hK hP 0 rfl rfl 10 (by decide) (hts _ wf_X11_39) (fun _ h9 => h9) rfl dX11_bringsDown_1 ?_
  refine va_get (D := (dC, dI)) (ci := 6) (v := .ref (qT0 0)) (C := RX6) (T := TX6) (N := 2) hx hb hts i_X6 hown hK hP 1 rfl rfl 0 (by decide) (hts _ wf_X11_152) (fun _ h9 => h9) rfl dX11_bringsDown_4 ?_
  refine lv_astore_n (lv' := [(2, .ref (qT0 0)), (0, .ref (qC 0)), (1, .int (a1))]) hx hb dX11_bringsDown_7 rfl hl (by decide) rfl (fun ls hl => ?_)
  refine lv_aload_n hx hb dX11_bringsDown_8 rfl (lv_at hl 0 rfl) ?_
  refine lv_iload_n hx hb dX11_bringsDown_9 rfl (lv_at hl 2 rfl) ?_
  obtain ⟨z1, hg, hf⟩ := tc_bi hf
  refine tc_iV (As := [.int (a1)]) (rest := []) (b := qT0 0) (wc := w7 ca qT0 ST0) (wr := w11 ca qC (rC3) (rC4) (rC6) (rC7) (.ref (qP0 0)) (rC11) (rC12) (rC14) (rC15) (rC17) (rC18) (rC19) SC ++ w6 ca qP0 (.ref (qT0 0)) (rP01) SP0) X hP hD hS (mX7_isClaim hg) okX7_isClaim wl_X11_235 wi_X7_isClaim ws_X7_X7_isClaim_X7_isClaim ⟨rfl, rfl, Nat.le_of_ble_eq_true rfl, Nat.le_of_ble_eq_true rfl⟩ 7 0 rfl rfl [2, 3, 4, 5, 6, 7, 8, 9, 10, 11, 12] [0, 1] ⟨rfl, rfl, rfl, rfl, by decide⟩ rfl hl.1 (Nat.le_of_ble_eq_true rfl) dX11_bringsDown_10 (fun H locs hP hD hS => ?_)
  have hP := hP.sub (ws' := (w11 ca qC (rC3) (rC4) (rC6) (rC7) (.ref (qP0 0)) (rC11) (rC12) (rC14) (rC15) (rC17) (rC18) (rC19) SC ++ w6 ca qP0 (.ref (qT0 0)) (rP01) SP0 ++ w7 ca qT0 ST0)) [0, 1, 2, 3, 4, 5, 6, 7, 8, 9, 10, 11, 12] rfl
  have hD := hD.sub (ws' := (w11 ca qC (rC3) (rC4) (rC6) (rC7) (.ref (qP0 0)) (rC11) (rC12) (rC14) (rC15) (rC17) (rC18) (rC19) SC ++ w6 ca qP0 (.ref (qT0 0)) (rP01) SP0 ++ w7 ca qT0 ST0)) [0, 1, 2, 3, 4, 5, 6, 7, 8, 9, 10, 11, 12] rfl rfl
  refine lv_if_ne (tgt := 22) hx hb dX11_bringsDown_13 (by decide) (fun hc => ?_) (fun hc => ?_)
  · have hf := tc_neg hc hf
    refine lv_aload_n hx hb dX11_bringsDown_22 rfl (lv_at hl 0 rfl) ?_
    obtain ⟨z2, hg, hf⟩ := tc_bi hf
    refine tc_iV (As := []) (rest := []) (b := qT0 0) (wc := w7 ca qT0 ST0) (wr := w11 ca qC (rC3) (rC4) (rC6) (rC7) (.ref (qP0 0)) (rC11) (rC12) (rC14) (rC15) (rC17) (rC18) (rC19) SC ++ w6 ca qP0 (.ref (qT0 0)) (rP01) SP0) X hP hD hS (mX7_standing hg) okX7_standing wl_X11_209 wi_X7_standing ws_X7_X7_standing_X7_standing ⟨rfl, rfl, Nat.le_of_ble_eq_true rfl, Nat.le_of_ble_eq_true rfl⟩ 7 0 rfl rfl [2, 3, 4, 5, 6, 7, 8, 9, 10, 11, 12] [0, 1] ⟨rfl, rfl, rfl, rfl, by decide⟩ rfl hl.1 (Nat.le_of_ble_eq_true rfl) dX11_bringsDown_23 (fun H locs hP hD hS => ?_)
    have hP := hP.sub (ws' := (w11 ca qC (rC3) (rC4) (rC6) (rC7) (.ref (qP0 0)) (rC11) (rC12) (rC14) (rC15) (rC17) (rC18) (rC19) SC ++ w6 ca qP0 (.ref (qT0 0)) (rP01) SP0 ++ w7 ca qT0 ST0)) [0, 1, 2, 3, 4, 5, 6, 7, 8, 9, 10, 11, 12] rfl
    have hD := hD.sub (ws' := (w11 ca qC (rC3) (rC4) (rC6) (rC7) (.ref (qP0 0)) (rC11) (rC12) (rC14) (rC15) (rC17) (rC18) (rC19) SC ++ w6 ca qP0 (.ref (qT0 0)) (rP01) SP0 ++ w7 ca qT0 ST0)) [0, 1, 2, 3, 4, 5, 6, 7, 8, 9, 10, 11, 12] rfl rfl
    refine lv_istore_n (lv' := [(3, .int (z2)), (2, .ref (qT0 0)), (0, .ref (qC 0)), (1, .int (a1))]) hx hb dX11_bringsDown_26 rfl hl (by decide) rfl (fun ls hl => ?_)
    refine lv_iload_n hx hb dX11_bringsDown_27 rfl (lv_at hl 0 rfl) ?_
    refine lv_iload_n hx hb dX11_bringsDown_28 rfl (lv_at hl 3 rfl) ?_
    refine lv_ishr hx hb dX11_bringsDown_29 ?_
    refine lv_iconst (v := (1 : Int32)) hx hb dX11_bringsDown_30 (by decide) ?_
    refine lv_iand hx hb dX11_bringsDown_31 ?_
    refine lv_if_ne (tgt := 42) hx hb dX11_bringsDown_32 (by decide) (fun hc => ?_) (fun hc => ?_)
    · have hf := tc_neg hc hf
      refine lv_aload_n hx hb dX11_bringsDown_42 rfl (lv_at hl 2 rfl) ?_
      refine lv_iload_n hx hb dX11_bringsDown_43 rfl (lv_at hl 0 rfl) ?_
      refine lv_aload_n hx hb dX11_bringsDown_44 rfl (lv_at hl 1 rfl) ?_
      refine lv_aload_n hx hb dX11_bringsDown_45 rfl (lv_at hl 1 rfl) ?_
      refine va_get (D := (dC, dI)) (ci := 7) (v := .int (gi ST0 7)) (C := RX7) (T := TX7) (N := 18) hx hb hts i_X7 hown hK hP 2 rfl rfl 7 (by decide) (hts _ wf_X11_213) (fun _ h9 => h9) rfl dX11_bringsDown_46 ?_
      refine lv_iload_n hx hb dX11_bringsDown_49 rfl (lv_at hl 3 rfl) ?_
      obtain ⟨z3, hg, hf⟩ := tc_bi hf
      refine tc_iV (As := [.int (gi ST0 7), .int (a1)]) (rest := [.int (z2), .ref (qC 0)]) (b := qT0 0) (wc := w7 ca qT0 ST0) (wr := w11 ca qC (rC3) (rC4) (rC6) (rC7) (.ref (qP0 0)) (rC11) (rC12) (rC14) (rC15) (rC17) (rC18) (rC19) SC ++ w6 ca qP0 (.ref (qT0 0)) (rP01) SP0) X hP hD hS (mX7_standingBy hg) okX7_standingBy wl_X11_305 wi_X7_standingBy ws_X7_X7_standingBy_X7_standingBy ⟨rfl, rfl, Nat.le_of_ble_eq_true rfl, Nat.le_of_ble_eq_true rfl⟩ 7 0 rfl rfl [2, 3, 4, 5, 6, 7, 8, 9, 10, 11, 12] [0, 1] ⟨rfl, rfl, rfl, rfl, by decide⟩ rfl hl.1 (Nat.le_of_ble_eq_true rfl) dX11_bringsDown_50 (fun H locs hP hD hS => ?_)
      have hP := hP.sub (ws' := (w11 ca qC (rC3) (rC4) (rC6) (rC7) (.ref (qP0 0)) (rC11) (rC12) (rC14) (rC15) (rC17) (rC18) (rC19) SC ++ w6 ca qP0 (.ref (qT0 0)) (rP01) SP0 ++ w7 ca qT0 ST0)) [0, 1, 2, 3, 4, 5, 6, 7, 8, 9, 10, 11, 12] rfl
      have hD := hD.sub (ws' := (w11 ca qC (rC3) (rC4) (rC6) (rC7) (.ref (qP0 0)) (rC11) (rC12) (rC14) (rC15) (rC17) (rC18) (rC19) SC ++ w6 ca qP0 (.ref (qT0 0)) (rP01) SP0 ++ w7 ca qT0 ST0)) [0, 1, 2, 3, 4, 5, 6, 7, 8, 9, 10, 11, 12] rfl rfl
      refine lv_iconst (v := (-1 : Int32)) hx hb dX11_bringsDown_53 (by decide) ?_
      refine lv_ixor hx hb dX11_bringsDown_54 ?_
      refine lv_iand hx hb dX11_bringsDown_55 ?_
      obtain ⟨z4, hg, hf⟩ := tc_bi hf
      refine tc_iV (As := [.int (z2 &&& (z3 ^^^ (-1 : Int32)))]) (rest := []) (b := qC 0) (wc := w11 ca qC (rC3) (rC4) (rC6) (rC7) (.ref (qP0 0)) (rC11) (rC12) (rC14) (rC15) (rC17) (rC18) (rC19) SC) (wr := w6 ca qP0 (.ref (qT0 0)) (rP01) SP0 ++ w7 ca qT0 ST0) X hP hD hS (mX11_answer hg) okX11_answer wl_X11_182 wi_X11_answer ws_X11_X11_answer_X11_answer ⟨rfl, rfl, Nat.le_of_ble_eq_true rfl, Nat.le_of_ble_eq_true rfl⟩ 11 0 rfl rfl [0] [1, 2, 3, 4, 5, 6, 7, 8, 9, 10, 11, 12] ⟨rfl, rfl, rfl, rfl, by decide⟩ rfl hl.1 (Nat.le_of_ble_eq_true rfl) dX11_bringsDown_56 (fun H locs hP hD hS => ?_)
      have hP := hP.sub (ws' := (w11 ca qC (rC3) (rC4) (rC6) (rC7) (.ref (qP0 0)) (rC11) (rC12) (rC14) (rC15) (rC17) (rC18) (rC19) z4.2 ++ w6 ca qP0 (.ref (qT0 0)) (rP01) SP0 ++ w7 ca qT0 ST0)) [12, 0, 1, 2, 3, 4, 5, 6, 7, 8, 9, 10, 11] rfl
      have hD := hD.sub (ws' := (w11 ca qC (rC3) (rC4) (rC6) (rC7) (.ref (qP0 0)) (rC11) (rC12) (rC14) (rC15) (rC17) (rC18) (rC19) z4.2 ++ w6 ca qP0 (.ref (qT0 0)) (rP01) SP0 ++ w7 ca qT0 ST0)) [12, 0, 1, 2, 3, 4, 5, 6, 7, 8, 9, 10, 11] rfl rfl
      obtain rfl := Option.some.inj hf
      exact tc_ri X hP hD hS rfl dX11_bringsDown_59 rfl rfl
    · have hf := tc_pos hc hf
      refine lv_aload_n hx hb dX11_bringsDown_35 rfl (lv_at hl 2 rfl) ?_
      refine lv_bipush (v := (9 : Int32)) hx hb dX11_bringsDown_36 (by decide) ?_
      obtain ⟨z5, hg, hf⟩ := tc_bi hf
      refine tc_iV (As := [.int ((9 : Int32))]) (rest := []) (b := qC 0) (wc := w11 ca qC (rC3) (rC4) (rC6) (rC7) (.ref (qP0 0)) (rC11) (rC12) (rC14) (rC15) (rC17) (rC18) (rC19) SC) (wr := w6 ca qP0 (.ref (qT0 0)) (rP01) SP0 ++ w7 ca qT0 ST0) X hP hD hS (mX11_refuse hg) okX11_refuse wl_X11_121 wi_X11_refuse ws_X11_X11_refuse_X11_refuse ⟨rfl, rfl, Nat.le_of_ble_eq_true rfl, Nat.le_of_ble_eq_true rfl⟩ 11 0 rfl rfl [0] [1, 2, 3, 4, 5, 6, 7, 8, 9, 10, 11, 12] ⟨rfl, rfl, rfl, rfl, by decide⟩ rfl hl.1 (Nat.le_of_ble_eq_true rfl) dX11_bringsDown_38 (fun H locs hP hD hS => ?_)
      have hP := hP.sub (ws' := (w11 ca qC (rC3) (rC4) (rC6) (rC7) (.ref (qP0 0)) (rC11) (rC12) (rC14) (rC15) (rC17) (rC18) (rC19) z5.2 ++ w6 ca qP0 (.ref (qT0 0)) (rP01) SP0 ++ w7 ca qT0 ST0)) [12, 0, 1, 2, 3, 4, 5, 6, 7, 8, 9, 10, 11] rfl
      have hD := hD.sub (ws' := (w11 ca qC (rC3) (rC4) (rC6) (rC7) (.ref (qP0 0)) (rC11) (rC12) (rC14) (rC15) (rC17) (rC18) (rC19) z5.2 ++ w6 ca qP0 (.ref (qT0 0)) (rP01) SP0 ++ w7 ca qT0 ST0)) [12, 0, 1, 2, 3, 4, 5, 6, 7, 8, 9, 10, 11] rfl rfl
      obtain rfl := Option.some.inj hf
      exact tc_ri X hP hD hS rfl dX11_bringsDown_41 rfl rfl
  · have hf := tc_pos hc hf
    refine lv_aload_n hx hb dX11_bringsDown_16 rfl (lv_at hl 1 rfl) ?_
    refine lv_iconst (v := (2 : Int32)) hx hb dX11_bringsDown_17 (by decide) ?_
    obtain ⟨z6, hg, hf⟩ := tc_bi hf
    refine tc_iV (As := [.int ((2 : Int32))]) (rest := []) (b := qC 0) (wc := w11 ca qC (rC3) (rC4) (rC6) (rC7) (.ref (qP0 0)) (rC11) (rC12) (rC14) (rC15) (rC17) (rC18) (rC19) SC) (wr := w6 ca qP0 (.ref (qT0 0)) (rP01) SP0 ++ w7 ca qT0 ST0) X hP hD hS (mX11_refuse hg) okX11_refuse wl_X11_121 wi_X11_refuse ws_X11_X11_refuse_X11_refuse ⟨rfl, rfl, Nat.le_of_ble_eq_true rfl, Nat.le_of_ble_eq_true rfl⟩ 11 0 rfl rfl [0] [1, 2, 3, 4, 5, 6, 7, 8, 9, 10, 11, 12] ⟨rfl, rfl, rfl, rfl, by decide⟩ rfl hl.1 (Nat.le_of_ble_eq_true rfl) dX11_bringsDown_18 (fun H locs hP hD hS => ?_)
    have hP := hP.sub (ws' := (w11 ca qC (rC3) (rC4) (rC6) (rC7) (.ref (qP0 0)) (rC11) (rC12) (rC14) (rC15) (rC17) (rC18) (rC19) z6.2 ++ w6 ca qP0 (.ref (qT0 0)) (rP01) SP0 ++ w7 ca qT0 ST0)) [12, 0, 1, 2, 3, 4, 5, 6, 7, 8, 9, 10, 11] rfl
    have hD := hD.sub (ws' := (w11 ca qC (rC3) (rC4) (rC6) (rC7) (.ref (qP0 0)) (rC11) (rC12) (rC14) (rC15) (rC17) (rC18) (rC19) z6.2 ++ w6 ca qP0 (.ref (qT0 0)) (rP01) SP0 ++ w7 ca qT0 ST0)) [12, 0, 1, 2, 3, 4, 5, 6, 7, 8, 9, 10, 11] rfl rfl
    obtain rfl := Option.some.inj hf
    exact tc_ri X hP hD hS rfl dX11_bringsDown_21 rfl rfl
def fX11_wayStatus  (SC : ms_T) (SP0 : ms_T) (ST0 : ms_T) (a1 : Int32) (a2 : Int32) : Option (Int32) :=
  (fX7_isHeight ST0 a1).bind fun z1 =>
  if z1 = 0 then
    some ((2 : Int32))
  else
    (fX7_isHeight ST0 a2).bind fun z2 =>
    if z2 = 0 then
      some ((2 : Int32))
    else
      if a1 = 0 then
        some ((5 : Int32))
      else
        some ((0 : Int32))
abbrev rmX11_wayStatus : Room := { frames := 1, cells := 0, slots := 0, locals := 21 }
theorem okX11_wayStatus : tc_ok yX11_wayStatus cX11_wayStatus 3 (some .int) 2 := ⟨wc_X11_wayStatus, wn_X11, by decide, by decide, by decide +kernel⟩
set_option maxRecDepth 20000 in
theorem mX11_wayStatus {qC : Nat → Nat} {qP0 : Nat → Nat} {qT0 : Nat → Nat} {rC3 : Value} {rC4 : Value} {rC6 : Value} {rC7 : Value} {rC11 : Value} {rC12 : Value} {rC14 : Value} {rC15 : Value} {rC17 : Value} {rC18 : Value} {rC19 : Value} {rP01 : Value} {SC : ms_T} {SP0 : ms_T} {ST0 : ms_T} {a1 : Int32} {a2 : Int32} {z : Int32}  (hf : fX11_wayStatus SC SP0 ST0 a1 a2 = some z) : tc_MI l dC dI ca yX11_wayStatus cX11_wayStatus 3 (some .int) rmX11_wayStatus [.ref (qC 0), .int (a1), .int (a2)] (w11 ca qC (rC3) (rC4) (rC6) (rC7) (.ref (qP0 0)) (rC11) (rC12) (rC14) (rC15) (rC17) (rC18) (rC19) SC ++ w6 ca qP0 (.ref (qT0 0)) (rP01) SP0 ++ w7 ca qT0 ST0) (w11 ca qC (rC3) (rC4) (rC6) (rC7) (.ref (qP0 0)) (rC11) (rC12) (rC14) (rC15) (rC17) (rC18) (rC19) SC ++ w6 ca qP0 (.ref (qT0 0)) (rP01) SP0 ++ w7 ca qT0 ST0) (z) := by
  refine tc_metI (own := RX11) (by decide) rfl ?_ (Nat.le_of_ble_eq_true rfl)
  intro p e s m below meth c A X hP hD hS ls hl
  obtain ⟨hx, hb, hr, hml, hown, hts, hlk, hK, hA, hG⟩ := id X
  unfold fX11_wayStatus at hf
  have hl : lv_has ls 3 [(0, .ref (qC 0)), (1, .int (a1)), (2, .int (a2))] := hl
  refine lv_aload_n hx hb dX11_wayStatus_0 rfl (lv_at hl 0 rfl) ?_
  refine va_get (D := (dC, dI)) (ci := 11) (v := .ref (qP0 0)) (C := RX11) (T := TX11) (N := 20) hx hb hts i_X11 hown hK hP 0 rfl rfl 10 (by decide) (hts _ wf_X11_39) (fun _ h9 => h9) rfl dX11_wayStatus_1 ?_
  refine va_get (D := (dC, dI)) (ci := 6) (v := .ref (qT0 0)) (C := RX6) (T := TX6) (N := 2) hx hb hts i_X6 hown hK hP 1 rfl rfl 0 (by decide) (hts _ wf_X11_152) (fun _ h9 => h9) rfl dX11_wayStatus_4 ?_
  refine lv_iload_n hx hb dX11_wayStatus_7 rfl (lv_at hl 1 rfl) ?_
  obtain ⟨z1, hg, hf⟩ := tc_bi hf
  refine tc_iV (As := [.int (a1)]) (rest := []) (b := qT0 0) (wc := w7 ca qT0 ST0) (wr := w11 ca qC (rC3) (rC4) (rC6) (rC7) (.ref (qP0 0)) (rC11) (rC12) (rC14) (rC15) (rC17) (rC18) (rC19) SC ++ w6 ca qP0 (.ref (qT0 0)) (rP01) SP0) X hP hD hS (mX7_isHeight hg) okX7_isHeight wl_X11_289 wi_X7_isHeight ws_X7_X7_isHeight_X7_isHeight ⟨rfl, rfl, Nat.le_of_ble_eq_true rfl, Nat.le_of_ble_eq_true rfl⟩ 7 0 rfl rfl [2, 3, 4, 5, 6, 7, 8, 9, 10, 11, 12] [0, 1] ⟨rfl, rfl, rfl, rfl, by decide⟩ rfl hl.1 (Nat.le_of_ble_eq_true rfl) dX11_wayStatus_8 (fun H locs hP hD hS => ?_)
  have hP := hP.sub (ws' := (w11 ca qC (rC3) (rC4) (rC6) (rC7) (.ref (qP0 0)) (rC11) (rC12) (rC14) (rC15) (rC17) (rC18) (rC19) SC ++ w6 ca qP0 (.ref (qT0 0)) (rP01) SP0 ++ w7 ca qT0 ST0)) [0, 1, 2, 3, 4, 5, 6, 7, 8, 9, 10, 11, 12] rfl
  have hD := hD.sub (ws' := (w11 ca qC (rC3) (rC4) (rC6) (rC7) (.ref (qP0 0)) (rC11) (rC12) (rC14) (rC15) (rC17) (rC18) (rC19) SC ++ w6 ca qP0 (.ref (qT0 0)) (rP01) SP0 ++ w7 ca qT0 ST0)) [0, 1, 2, 3, 4, 5, 6, 7, 8, 9, 10, 11, 12] rfl rfl
  refine lv_if_eq (tgt := 28) hx hb dX11_wayStatus_11 (by decide) (fun hc => ?_) (fun hc => ?_)
  · have hf := tc_pos hc hf
    refine lv_iconst (v := (2 : Int32)) hx hb dX11_wayStatus_28 (by decide) ?_
    obtain rfl := Option.some.inj hf
    exact tc_ri X hP hD hS rfl dX11_wayStatus_29 rfl rfl
  · have hf := tc_neg hc hf
    refine lv_aload_n hx hb dX11_wayStatus_14 rfl (lv_at hl 0 rfl) ?_
    refine va_get (D := (dC, dI)) (ci := 11) (v := .ref (qP0 0)) (C := RX11) (T := TX11) (N := 20) hx hb hts i_X11 hown hK hP 0 rfl rfl 10 (by decide) (hts _ wf_X11_39) (fun _ h9 => h9) rfl dX11_wayStatus_15 ?_
    refine va_get (D := (dC, dI)) (ci := 6) (v := .ref (qT0 0)) (C := RX6) (T := TX6) (N := 2) hx hb hts i_X6 hown hK hP 1 rfl rfl 0 (by decide) (hts _ wf_X11_152) (fun _ h9 => h9) rfl dX11_wayStatus_18 ?_
    refine lv_iload_n hx hb dX11_wayStatus_21 rfl (lv_at hl 2 rfl) ?_
    obtain ⟨z2, hg, hf⟩ := tc_bi hf
    refine tc_iV (As := [.int (a2)]) (rest := []) (b := qT0 0) (wc := w7 ca qT0 ST0) (wr := w11 ca qC (rC3) (rC4) (rC6) (rC7) (.ref (qP0 0)) (rC11) (rC12) (rC14) (rC15) (rC17) (rC18) (rC19) SC ++ w6 ca qP0 (.ref (qT0 0)) (rP01) SP0) X hP hD hS (mX7_isHeight hg) okX7_isHeight wl_X11_289 wi_X7_isHeight ws_X7_X7_isHeight_X7_isHeight ⟨rfl, rfl, Nat.le_of_ble_eq_true rfl, Nat.le_of_ble_eq_true rfl⟩ 7 0 rfl rfl [2, 3, 4, 5, 6, 7, 8, 9, 10, 11, 12] [0, 1] ⟨rfl, rfl, rfl, rfl, by decide⟩ rfl hl.1 (Nat.le_of_ble_eq_true rfl) dX11_wayStatus_22 (fun H locs hP hD hS => ?_)
    have hP := hP.sub (ws' := (w11 ca qC (rC3) (rC4) (rC6) (rC7) (.ref (qP0 0)) (rC11) (rC12) (rC14) (rC15) (rC17) (rC18) (rC19) SC ++ w6 ca qP0 (.ref (qT0 0)) (rP01) SP0 ++ w7 ca qT0 ST0)) [0, 1, 2, 3, 4, 5, 6, 7, 8, 9, 10, 11, 12] rfl
    have hD := hD.sub (ws' := (w11 ca qC (rC3) (rC4) (rC6) (rC7) (.ref (qP0 0)) (rC11) (rC12) (rC14) (rC15) (rC17) (rC18) (rC19) SC ++ w6 ca qP0 (.ref (qT0 0)) (rP01) SP0 ++ w7 ca qT0 ST0)) [0, 1, 2, 3, 4, 5, 6, 7, 8, 9, 10, 11, 12] rfl rfl
    refine lv_if_ne (tgt := 30) hx hb dX11_wayStatus_25 (by decide) (fun hc => ?_) (fun hc => ?_)
    · have hf := tc_neg hc hf
      refine lv_iload_n hx hb dX11_wayStatus_30 rfl (lv_at hl 1 rfl) ?_
      refine lv_if_ne (tgt := 38) hx hb dX11_wayStatus_31 (by decide) (fun hc => ?_) (fun hc => ?_)
      · have hf := tc_neg hc hf
        refine lv_iconst (v := (0 : Int32)) hx hb dX11_wayStatus_38 (by decide) ?_
        obtain rfl := Option.some.inj hf
        exact tc_ri X hP hD hS rfl dX11_wayStatus_39 rfl rfl
      · have hf := tc_pos hc hf
        refine lv_iconst (v := (5 : Int32)) hx hb dX11_wayStatus_34 (by decide) ?_
        refine lv_goto (tgt := 39) hx hb dX11_wayStatus_35 (by decide) ?_
        obtain rfl := Option.some.inj hf
        exact tc_ri X hP hD hS rfl dX11_wayStatus_39 rfl rfl
    · have hf := tc_pos hc hf
      refine lv_iconst (v := (2 : Int32)) hx hb dX11_wayStatus_28 (by decide) ?_
      obtain rfl := Option.some.inj hf
      exact tc_ri X hP hD hS rfl dX11_wayStatus_29 rfl rfl
def fX11_way  (SC : ms_T) (SP0 : ms_T) (ST0 : ms_T) (SW : ms_T) (a1 : Int32) (a2 : Int32) : Option (Int32 × ms_T × ms_T) :=
  (fX11_wayStatus SC SP0 ST0 a1 a2).bind fun z1 =>
  if z1 = 0 then
    (fX10_sayingsTo SW ST0 a1 a2).bind fun z2 =>
    if z2.1 = (-1 : Int32) then
      (fX11_refuse SC (8 : Int32)).bind fun z4 =>
      some (z4.1, z4.2, z2.2)
    else
      (fX11_answer SC z2.1).bind fun z3 =>
      some (z3.1, z3.2, z2.2)
  else
    (fX11_refuse SC z1).bind fun z5 =>
    some (z5.1, z5.2, SW)
abbrev rmX11_way : Room := { frames := 4, cells := 0, slots := 0, locals := 96 }
theorem okX11_way : tc_ok yX11_way cX11_way 5 (some .int) 2 := ⟨wc_X11_way, wn_X11, by decide, by decide, by decide +kernel⟩
set_option maxRecDepth 20000 in
theorem mX11_way {qC : Nat → Nat} {qP0 : Nat → Nat} {qT0 : Nat → Nat} {qW : Nat → Nat} {rC3 : Value} {rC4 : Value} {rC6 : Value} {rC7 : Value} {rC11 : Value} {rC12 : Value} {rC14 : Value} {rC15 : Value} {rC18 : Value} {rC19 : Value} {rP01 : Value} {rW0 : Value} {SC : ms_T} {SP0 : ms_T} {ST0 : ms_T} {SW : ms_T} {a1 : Int32} {a2 : Int32} {z : Int32 × ms_T × ms_T}  (hf : fX11_way SC SP0 ST0 SW a1 a2 = some z) : tc_MIx l dC dI ca yX11_way cX11_way 5 (some .int) rmX11_way [.ref (qC 0), .int (a1), .int (a2)] (w11 ca qC (rC3) (rC4) (rC6) (rC7) (.ref (qP0 0)) (rC11) (rC12) (rC14) (rC15) (.ref (qW 0)) (rC18) (rC19) SC ++ w6 ca qP0 (.ref (qT0 0)) (rP01) SP0 ++ w7 ca qT0 ST0 ++ w10 ca qW (rW0) SW) (fun u => (w11 ca qC (rC3) (rC4) (rC6) (rC7) (.ref (qP0 0)) (rC11) (rC12) (rC14) (rC15) (.ref (qW 0)) (rC18) (rC19) z.2.1 ++ w6 ca qP0 (.ref (qT0 0)) (rP01) SP0 ++ w7 ca qT0 ST0 ++ w10 ca qW (u 0) z.2.2)) (z.1) := by
  refine tc_metIx (own := RX11) (by decide) rfl ?_ (Nat.le_of_ble_eq_true rfl)
  intro p e s m below meth c A X hP hD hS ls hl
  obtain ⟨hx, hb, hr, hml, hown, hts, hlk, hK, hA, hG⟩ := id X
  unfold fX11_way at hf
  have hl : lv_has ls 5 [(0, .ref (qC 0)), (1, .int (a1)), (2, .int (a2))] := hl
  refine lv_aload_n hx hb dX11_way_0 rfl (lv_at hl 0 rfl) ?_
  refine lv_iload_n hx hb dX11_way_1 rfl (lv_at hl 1 rfl) ?_
  refine lv_iload_n hx hb dX11_way_2 rfl (lv_at hl 2 rfl) ?_
  obtain ⟨z1, hg, hf⟩ := tc_bi hf
  refine tc_iV (As := [.int (a1), .int (a2)]) (rest := []) (b := qC 0) (wc := w11 ca qC (rC3) (rC4) (rC6) (rC7) (.ref (qP0 0)) (rC11) (rC12) (rC14) (rC15) (.ref (qW 0)) (rC18) (rC19) SC ++ w6 ca qP0 (.ref (qT0 0)) (rP01) SP0 ++ w7 ca qT0 ST0) (wr := w10 ca qW (rW0) SW) X hP hD hS (mX11_wayStatus hg) okX11_wayStatus wl_X11_308 wi_X11_wayStatus ws_X11_X11_wayStatus_X11_wayStatus ⟨rfl, rfl, Nat.le_of_ble_eq_true rfl, Nat.le_of_ble_eq_true rfl⟩ 11 0 rfl rfl [0, 1, 2, 3, 4, 5, 6, 7, 8, 9, 10, 11, 12] [13, 14, 15] ⟨rfl, rfl, rfl, rfl, by decide⟩ rfl hl.1 (Nat.le_of_ble_eq_true rfl) dX11_way_3 (fun H locs hP hD hS => ?_)
  have hP := hP.sub (ws' := (w11 ca qC (rC3) (rC4) (rC6) (rC7) (.ref (qP0 0)) (rC11) (rC12) (rC14) (rC15) (.ref (qW 0)) (rC18) (rC19) SC ++ w6 ca qP0 (.ref (qT0 0)) (rP01) SP0 ++ w7 ca qT0 ST0 ++ w10 ca qW (rW0) SW)) [3, 4, 5, 6, 7, 8, 9, 10, 11, 12, 13, 14, 15, 0, 1, 2] rfl
  have hD := hD.sub (ws' := (w11 ca qC (rC3) (rC4) (rC6) (rC7) (.ref (qP0 0)) (rC11) (rC12) (rC14) (rC15) (.ref (qW 0)) (rC18) (rC19) SC ++ w6 ca qP0 (.ref (qT0 0)) (rP01) SP0 ++ w7 ca qT0 ST0 ++ w10 ca qW (rW0) SW)) [3, 4, 5, 6, 7, 8, 9, 10, 11, 12, 13, 14, 15, 0, 1, 2] rfl rfl
  refine lv_istore_n (lv' := [(3, .int (z1)), (0, .ref (qC 0)), (1, .int (a1)), (2, .int (a2))]) hx hb dX11_way_6 rfl hl (by decide) rfl (fun ls hl => ?_)
  refine lv_iload_n hx hb dX11_way_7 rfl (lv_at hl 0 rfl) ?_
  refine lv_if_eq (tgt := 17) hx hb dX11_way_8 (by decide) (fun hc => ?_) (fun hc => ?_)
  · have hf := tc_pos hc hf
    refine lv_aload_n hx hb dX11_way_17 rfl (lv_at hl 1 rfl) ?_
    refine va_get (D := (dC, dI)) (ci := 11) (v := .ref (qW 0)) (C := RX11) (T := TX11) (N := 20) hx hb hts i_X11 hown hK hP 0 rfl rfl 17 (by decide) (hts _ wf_X11_63) (fun _ h9 => h9) rfl dX11_way_18 ?_
    refine lv_aload_n hx hb dX11_way_21 rfl (lv_at hl 1 rfl) ?_
    refine va_get (D := (dC, dI)) (ci := 11) (v := .ref (qP0 0)) (C := RX11) (T := TX11) (N := 20) hx hb hts i_X11 hown hK hP 0 rfl rfl 10 (by decide) (hts _ wf_X11_39) (fun _ h9 => h9) rfl dX11_way_22 ?_
    refine va_get (D := (dC, dI)) (ci := 6) (v := .ref (qT0 0)) (C := RX6) (T := TX6) (N := 2) hx hb hts i_X6 hown hK hP 1 rfl rfl 0 (by decide) (hts _ wf_X11_152) (fun _ h9 => h9) rfl dX11_way_25 ?_
    refine lv_iload_n hx hb dX11_way_28 rfl (lv_at hl 2 rfl) ?_
    refine lv_iload_n hx hb dX11_way_29 rfl (lv_at hl 3 rfl) ?_
    obtain ⟨z2, hg, hf⟩ := tc_bi hf
    refine tc_iV (As := [.ref (qT0 0), .int (a1), .int (a2)]) (rest := []) (b := qW 0) (wc := w10 ca qW (rW0) SW ++ w7 ca qT0 ST0) (wr := w11 ca qC (rC3) (rC4) (rC6) (rC7) (.ref (qP0 0)) (rC11) (rC12) (rC14) (rC15) (.ref (qW 0)) (rC18) (rC19) SC ++ w6 ca qP0 (.ref (qT0 0)) (rP01) SP0) X hP hD hS (mX10_sayingsTo hg) okX10_sayingsTo wl_X11_311 wi_X10_sayingsTo ws_X10_X10_sayingsTo_X10_sayingsTo ⟨rfl, rfl, Nat.le_of_ble_eq_true rfl, Nat.le_of_ble_eq_true rfl⟩ 10 0 rfl rfl [13, 14, 15, 2, 3, 4, 5, 6, 7, 8, 9, 10, 11, 12] [0, 1] ⟨rfl, rfl, rfl, rfl, by decide⟩ rfl hl.1 (Nat.le_of_ble_eq_true rfl) dX11_way_30 (fun H locs hP hD hS => ?_)
    have hP := hP.sub (ws' := (w11 ca qC (rC3) (rC4) (rC6) (rC7) (.ref (qP0 0)) (rC11) (rC12) (rC14) (rC15) (.ref (qW 0)) (rC18) (rC19) SC ++ w6 ca qP0 (.ref (qT0 0)) (rP01) SP0 ++ w7 ca qT0 ST0 ++ w10 ca qW (.ref (qT0 0)) z2.2)) [0, 1, 5, 6, 7, 8, 9, 10, 11, 12, 13, 14, 15, 2, 3, 4] rfl
    have hD := hD.sub (ws' := (w11 ca qC (rC3) (rC4) (rC6) (rC7) (.ref (qP0 0)) (rC11) (rC12) (rC14) (rC15) (.ref (qW 0)) (rC18) (rC19) SC ++ w6 ca qP0 (.ref (qT0 0)) (rP01) SP0 ++ w7 ca qT0 ST0 ++ w10 ca qW (.ref (qT0 0)) z2.2)) [0, 1, 5, 6, 7, 8, 9, 10, 11, 12, 13, 14, 15, 2, 3, 4] rfl rfl
    refine lv_istore (lv' := [(4, .int (z2.1)), (3, .int (z1)), (0, .ref (qC 0)), (1, .int (a1)), (2, .int (a2))]) hx hb dX11_way_33 hl (by decide) rfl (fun ls hl => ?_)
    refine lv_iload hx hb dX11_way_35 (lv_at hl 0 rfl) ?_
    refine lv_iconst (v := (-1 : Int32)) hx hb dX11_way_37 (by decide) ?_
    refine lv_icmp_ne (tgt := 50) hx hb dX11_way_38 (by decide) (fun hc => ?_) (fun hc => ?_)
    · have hf := tc_neg hc hf
      refine lv_aload_n hx hb dX11_way_50 rfl (lv_at hl 2 rfl) ?_
      refine lv_iload hx hb dX11_way_51 (lv_at hl 0 rfl) ?_
      obtain ⟨z3, hg, hf⟩ := tc_bi hf
      refine tc_iV (As := [.int (z2.1)]) (rest := []) (b := qC 0) (wc := w11 ca qC (rC3) (rC4) (rC6) (rC7) (.ref (qP0 0)) (rC11) (rC12) (rC14) (rC15) (.ref (qW 0)) (rC18) (rC19) SC) (wr := w6 ca qP0 (.ref (qT0 0)) (rP01) SP0 ++ w7 ca qT0 ST0 ++ w10 ca qW (.ref (qT0 0)) z2.2) X hP hD hS (mX11_answer hg) okX11_answer wl_X11_182 wi_X11_answer ws_X11_X11_answer_X11_answer ⟨rfl, rfl, Nat.le_of_ble_eq_true rfl, Nat.le_of_ble_eq_true rfl⟩ 11 0 rfl rfl [0] [1, 2, 3, 4, 5, 6, 7, 8, 9, 10, 11, 12, 13, 14, 15] ⟨rfl, rfl, rfl, rfl, by decide⟩ rfl hl.1 (Nat.le_of_ble_eq_true rfl) dX11_way_53 (fun H locs hP hD hS => ?_)
      have hP := hP.sub (ws' := (w11 ca qC (rC3) (rC4) (rC6) (rC7) (.ref (qP0 0)) (rC11) (rC12) (rC14) (rC15) (.ref (qW 0)) (rC18) (rC19) z3.2 ++ w6 ca qP0 (.ref (qT0 0)) (rP01) SP0 ++ w7 ca qT0 ST0 ++ w10 ca qW (.ref (qT0 0)) z2.2)) [15, 0, 1, 2, 3, 4, 5, 6, 7, 8, 9, 10, 11, 12, 13, 14] rfl
      have hD := hD.sub (ws' := (w11 ca qC (rC3) (rC4) (rC6) (rC7) (.ref (qP0 0)) (rC11) (rC12) (rC14) (rC15) (.ref (qW 0)) (rC18) (rC19) z3.2 ++ w6 ca qP0 (.ref (qT0 0)) (rP01) SP0 ++ w7 ca qT0 ST0 ++ w10 ca qW (.ref (qT0 0)) z2.2)) [15, 0, 1, 2, 3, 4, 5, 6, 7, 8, 9, 10, 11, 12, 13, 14] rfl rfl
      obtain rfl := Option.some.inj hf
      exact tc_rix X hP hD hS rfl dX11_way_56 (fun _ => .ref (qT0 0)) rfl rfl
    · have hf := tc_pos hc hf
      refine lv_aload_n hx hb dX11_way_41 rfl (lv_at hl 2 rfl) ?_
      refine lv_bipush (v := (8 : Int32)) hx hb dX11_way_42 (by decide) ?_
      obtain ⟨z4, hg, hf⟩ := tc_bi hf
      refine tc_iV (As := [.int ((8 : Int32))]) (rest := []) (b := qC 0) (wc := w11 ca qC (rC3) (rC4) (rC6) (rC7) (.ref (qP0 0)) (rC11) (rC12) (rC14) (rC15) (.ref (qW 0)) (rC18) (rC19) SC) (wr := w6 ca qP0 (.ref (qT0 0)) (rP01) SP0 ++ w7 ca qT0 ST0 ++ w10 ca qW (.ref (qT0 0)) z2.2) X hP hD hS (mX11_refuse hg) okX11_refuse wl_X11_121 wi_X11_refuse ws_X11_X11_refuse_X11_refuse ⟨rfl, rfl, Nat.le_of_ble_eq_true rfl, Nat.le_of_ble_eq_true rfl⟩ 11 0 rfl rfl [0] [1, 2, 3, 4, 5, 6, 7, 8, 9, 10, 11, 12, 13, 14, 15] ⟨rfl, rfl, rfl, rfl, by decide⟩ rfl hl.1 (Nat.le_of_ble_eq_true rfl) dX11_way_44 (fun H locs hP hD hS => ?_)
      have hP := hP.sub (ws' := (w11 ca qC (rC3) (rC4) (rC6) (rC7) (.ref (qP0 0)) (rC11) (rC12) (rC14) (rC15) (.ref (qW 0)) (rC18) (rC19) z4.2 ++ w6 ca qP0 (.ref (qT0 0)) (rP01) SP0 ++ w7 ca qT0 ST0 ++ w10 ca qW (.ref (qT0 0)) z2.2)) [15, 0, 1, 2, 3, 4, 5, 6, 7, 8, 9, 10, 11, 12, 13, 14] rfl
      have hD := hD.sub (ws' := (w11 ca qC (rC3) (rC4) (rC6) (rC7) (.ref (qP0 0)) (rC11) (rC12) (rC14) (rC15) (.ref (qW 0)) (rC18) (rC19) z4.2 ++ w6 ca qP0 (.ref (qT0 0)) (rP01) SP0 ++ w7 ca qT0 ST0 ++ w10 ca qW (.ref (qT0 0)) z2.2)) [15, 0, 1, 2, 3, 4, 5, 6, 7, 8, 9, 10, 11, 12, 13, 14] rfl rfl
      refine lv_goto (tgt := 56) hx hb dX11_way_47 (by decide) ?_
      obtain rfl := Option.some.inj hf
      exact tc_rix X hP hD hS rfl dX11_way_56 (fun _ => .ref (qT0 0)) rfl rfl
  · have hf := tc_neg hc hf
    refine lv_aload_n hx hb dX11_way_11 rfl (lv_at hl 1 rfl) ?_
    refine lv_iload_n hx hb dX11_way_12 rfl (lv_at hl 0 rfl) ?_
    obtain ⟨z5, hg, hf⟩ := tc_bi hf
    refine tc_iV (As := [.int (z1)]) (rest := []) (b := qC 0) (wc := w11 ca qC (rC3) (rC4) (rC6) (rC7) (.ref (qP0 0)) (rC11) (rC12) (rC14) (rC15) (.ref (qW 0)) (rC18) (rC19) SC) (wr := w6 ca qP0 (.ref (qT0 0)) (rP01) SP0 ++ w7 ca qT0 ST0 ++ w10 ca qW (rW0) SW) X hP hD hS (mX11_refuse hg) okX11_refuse wl_X11_121 wi_X11_refuse ws_X11_X11_refuse_X11_refuse ⟨rfl, rfl, Nat.le_of_ble_eq_true rfl, Nat.le_of_ble_eq_true rfl⟩ 11 0 rfl rfl [0] [1, 2, 3, 4, 5, 6, 7, 8, 9, 10, 11, 12, 13, 14, 15] ⟨rfl, rfl, rfl, rfl, by decide⟩ rfl hl.1 (Nat.le_of_ble_eq_true rfl) dX11_way_13 (fun H locs hP hD hS => ?_)
    have hP := hP.sub (ws' := (w11 ca qC (rC3) (rC4) (rC6) (rC7) (.ref (qP0 0)) (rC11) (rC12) (rC14) (rC15) (.ref (qW 0)) (rC18) (rC19) z5.2 ++ w6 ca qP0 (.ref (qT0 0)) (rP01) SP0 ++ w7 ca qT0 ST0 ++ w10 ca qW (rW0) SW)) [15, 0, 1, 2, 3, 4, 5, 6, 7, 8, 9, 10, 11, 12, 13, 14] rfl
    have hD := hD.sub (ws' := (w11 ca qC (rC3) (rC4) (rC6) (rC7) (.ref (qP0 0)) (rC11) (rC12) (rC14) (rC15) (.ref (qW 0)) (rC18) (rC19) z5.2 ++ w6 ca qP0 (.ref (qT0 0)) (rP01) SP0 ++ w7 ca qT0 ST0 ++ w10 ca qW (rW0) SW)) [15, 0, 1, 2, 3, 4, 5, 6, 7, 8, 9, 10, 11, 12, 13, 14] rfl rfl
    obtain rfl := Option.some.inj hf
    exact tc_rix X hP hD hS rfl dX11_way_16 (fun _ => rW0) rfl rfl
def fX11_wayAt_31  (SP0 : ms_T) (ST0 : ms_T)  (SC : ms_T) (SW : ms_T) : Option (Int32 × ms_T × ms_T) :=
  (fX11_refuse SC (5 : Int32)).bind fun z2 =>
  some (z2.1, z2.2, SW)
def fX11_wayAt_65  (SP0 : ms_T) (ST0 : ms_T)  (SC : ms_T) (SW : ms_T) : Option (Int32 × ms_T × ms_T) :=
  (fX11_refuse SC (8 : Int32)).bind fun z4 =>
  some (z4.1, z4.2, SW)
def fX11_wayAt  (SC : ms_T) (SP0 : ms_T) (ST0 : ms_T) (SW : ms_T) (a1 : Int32) (a2 : Int32) (a3 : Int32) (a4 : Int32) : Option (Int32 × ms_T × ms_T) :=
  (fX11_wayStatus SC SP0 ST0 a1 a2).bind fun z1 =>
  if z1 = 0 then
    if a4 < 0 then
      fX11_wayAt_31 SP0 ST0 SC SW
    else
      if a4 ≤ (2 : Int32) then
        (fX10_sayingsTo SW ST0 a1 a2).bind fun z3 =>
        if a3 < 0 then
          fX11_wayAt_65 SP0 ST0 SC z3.2
        else
          if a3 < z3.1 then
            (fX10_tellSaying z3.2 ST0 a1 a3 a4).bind fun z5 =>
            (fX11_answer SC z5).bind fun z6 =>
            some (z6.1, z6.2, z3.2)
          else
            fX11_wayAt_65 SP0 ST0 SC z3.2
      else
        fX11_wayAt_31 SP0 ST0 SC SW
  else
    (fX11_refuse SC z1).bind fun z7 =>
    some (z7.1, z7.2, SW)
abbrev rmX11_wayAt : Room := { frames := 4, cells := 0, slots := 0, locals := 96 }
theorem okX11_wayAt : tc_ok yX11_wayAt cX11_wayAt 7 (some .int) 4 := ⟨wc_X11_wayAt, wn_X11, by decide, by decide, by decide +kernel⟩
set_option maxRecDepth 20000 in
theorem tX11_wayAt_31 {qC : Nat → Nat} {qP0 : Nat → Nat} {qT0 : Nat → Nat} {qW : Nat → Nat} {rC3 : Value} {rC4 : Value} {rC6 : Value} {rC7 : Value} {rC11 : Value} {rC12 : Value} {rC14 : Value} {rC15 : Value} {rC18 : Value} {rC19 : Value} {rP01 : Value} {rW0 : Value} (X : tc_X dC dI ca A RX11 cX11_wayAt 7 (some .int) p s m args meth c) (z : Int32 × ms_T × ms_T)  (SP0 : ms_T) (ST0 : ms_T)   : ∀ (SC : ms_T) (SW : ms_T), fX11_wayAt_31 SP0 ST0 SC SW = some z → ∀ (H : Heap) (locs : List Loc) (ls : Array Slot), va_P (dC, dI) classes (w11 ca qC (rC3) (rC4) (rC6) (rC7) (.ref (qP0 0)) (rC11) (rC12) (rC14) (rC15) (.ref (qW 0)) (rC18) (rC19) SC ++ w6 ca qP0 (.ref (qT0 0)) (rP01) SP0 ++ w7 ca qT0 ST0 ++ w10 ca qW (rW0) SW) H → va_D A (w11 ca qC (rC3) (rC4) (rC6) (rC7) (.ref (qP0 0)) (rC11) (rC12) (rC14) (rC15) (.ref (qW 0)) (rC18) (rC19) SC ++ w6 ca qP0 (.ref (qT0 0)) (rP01) SP0 ++ w7 ca qT0 ST0 ++ w10 ca qW (rW0) SW) → va_S A s.heap H locs → lv_has ls 7 [(0, .ref (qC 0))] → W p l e rmX11_wayAt s m args below meth c H locs 0 0 (MQ below (tc_QIx dC dI ca A (fun u => (w11 ca qC (rC3) (rC4) (rC6) (rC7) (.ref (qP0 0)) (rC11) (rC12) (rC14) (rC15) (.ref (qW 0)) (rC18) (rC19) z.2.1 ++ w6 ca qP0 (.ref (qT0 0)) (rP01) SP0 ++ w7 ca qT0 ST0 ++ w10 ca qW (u 0) z.2.2)) (z.1)) args s 0 0 A) (F0 m 31 ls []) := by
  obtain ⟨hx, hb, hr, hml, hown, hts, hlk, hK, hA, hG⟩ := id X
  intro SC SW hf H locs ls hP hD hS hl
  unfold fX11_wayAt_31 at hf
  refine lv_aload_n hx hb dX11_wayAt_31 rfl (lv_at hl 0 rfl) ?_
  refine lv_iconst (v := (5 : Int32)) hx hb dX11_wayAt_32 (by decide) ?_
  obtain ⟨z2, hg, hf⟩ := tc_bi hf
  refine tc_iV (As := [.int ((5 : Int32))]) (rest := []) (b := qC 0) (wc := w11 ca qC (rC3) (rC4) (rC6) (rC7) (.ref (qP0 0)) (rC11) (rC12) (rC14) (rC15) (.ref (qW 0)) (rC18) (rC19) SC) (wr := w6 ca qP0 (.ref (qT0 0)) (rP01) SP0 ++ w7 ca qT0 ST0 ++ w10 ca qW (rW0) SW) X hP hD hS (mX11_refuse hg) okX11_refuse wl_X11_121 wi_X11_refuse ws_X11_X11_refuse_X11_refuse ⟨rfl, rfl, Nat.le_of_ble_eq_true rfl, Nat.le_of_ble_eq_true rfl⟩ 11 0 rfl rfl [0] [1, 2, 3, 4, 5, 6, 7, 8, 9, 10, 11, 12, 13, 14, 15] ⟨rfl, rfl, rfl, rfl, by decide⟩ rfl hl.1 (Nat.le_of_ble_eq_true rfl) dX11_wayAt_33 (fun H locs hP hD hS => ?_)
  have hP := hP.sub (ws' := (w11 ca qC (rC3) (rC4) (rC6) (rC7) (.ref (qP0 0)) (rC11) (rC12) (rC14) (rC15) (.ref (qW 0)) (rC18) (rC19) z2.2 ++ w6 ca qP0 (.ref (qT0 0)) (rP01) SP0 ++ w7 ca qT0 ST0 ++ w10 ca qW (rW0) SW)) [15, 0, 1, 2, 3, 4, 5, 6, 7, 8, 9, 10, 11, 12, 13, 14] rfl
  have hD := hD.sub (ws' := (w11 ca qC (rC3) (rC4) (rC6) (rC7) (.ref (qP0 0)) (rC11) (rC12) (rC14) (rC15) (.ref (qW 0)) (rC18) (rC19) z2.2 ++ w6 ca qP0 (.ref (qT0 0)) (rP01) SP0 ++ w7 ca qT0 ST0 ++ w10 ca qW (rW0) SW)) [15, 0, 1, 2, 3, 4, 5, 6, 7, 8, 9, 10, 11, 12, 13, 14] rfl rfl
  obtain rfl := Option.some.inj hf
  exact tc_rix X hP hD hS rfl dX11_wayAt_36 (fun _ => rW0) rfl rfl
set_option maxRecDepth 20000 in
theorem tX11_wayAt_65 {qC : Nat → Nat} {qP0 : Nat → Nat} {qT0 : Nat → Nat} {qW : Nat → Nat} {rC3 : Value} {rC4 : Value} {rC6 : Value} {rC7 : Value} {rC11 : Value} {rC12 : Value} {rC14 : Value} {rC15 : Value} {rC18 : Value} {rC19 : Value} {rP01 : Value} (X : tc_X dC dI ca A RX11 cX11_wayAt 7 (some .int) p s m args meth c) (z : Int32 × ms_T × ms_T)  (SP0 : ms_T) (ST0 : ms_T)   : ∀ (SC : ms_T) (SW : ms_T), fX11_wayAt_65 SP0 ST0 SC SW = some z → ∀ (H : Heap) (locs : List Loc) (ls : Array Slot), va_P (dC, dI) classes (w11 ca qC (rC3) (rC4) (rC6) (rC7) (.ref (qP0 0)) (rC11) (rC12) (rC14) (rC15) (.ref (qW 0)) (rC18) (rC19) SC ++ w6 ca qP0 (.ref (qT0 0)) (rP01) SP0 ++ w7 ca qT0 ST0 ++ w10 ca qW (.ref (qT0 0)) SW) H → va_D A (w11 ca qC (rC3) (rC4) (rC6) (rC7) (.ref (qP0 0)) (rC11) (rC12) (rC14) (rC15) (.ref (qW 0)) (rC18) (rC19) SC ++ w6 ca qP0 (.ref (qT0 0)) (rP01) SP0 ++ w7 ca qT0 ST0 ++ w10 ca qW (.ref (qT0 0)) SW) → va_S A s.heap H locs → lv_has ls 7 [(0, .ref (qC 0))] → W p l e rmX11_wayAt s m args below meth c H locs 0 0 (MQ below (tc_QIx dC dI ca A (fun u => (w11 ca qC (rC3) (rC4) (rC6) (rC7) (.ref (qP0 0)) (rC11) (rC12) (rC14) (rC15) (.ref (qW 0)) (rC18) (rC19) z.2.1 ++ w6 ca qP0 (.ref (qT0 0)) (rP01) SP0 ++ w7 ca qT0 ST0 ++ w10 ca qW (u 0) z.2.2)) (z.1)) args s 0 0 A) (F0 m 65 ls []) := by
  obtain ⟨hx, hb, hr, hml, hown, hts, hlk, hK, hA, hG⟩ := id X
  intro SC SW hf H locs ls hP hD hS hl
  unfold fX11_wayAt_65 at hf
  refine lv_aload_n hx hb dX11_wayAt_65 rfl (lv_at hl 0 rfl) ?_
  refine lv_bipush (v := (8 : Int32)) hx hb dX11_wayAt_66 (by decide) ?_
  obtain ⟨z4, hg, hf⟩ := tc_bi hf
  refine tc_iV (As := [.int ((8 : Int32))]) (rest := []) (b := qC 0) (wc := w11 ca qC (rC3) (rC4) (rC6) (rC7) (.ref (qP0 0)) (rC11) (rC12) (rC14) (rC15) (.ref (qW 0)) (rC18) (rC19) SC) (wr := w6 ca qP0 (.ref (qT0 0)) (rP01) SP0 ++ w7 ca qT0 ST0 ++ w10 ca qW (.ref (qT0 0)) SW) X hP hD hS (mX11_refuse hg) okX11_refuse wl_X11_121 wi_X11_refuse ws_X11_X11_refuse_X11_refuse ⟨rfl, rfl, Nat.le_of_ble_eq_true rfl, Nat.le_of_ble_eq_true rfl⟩ 11 0 rfl rfl [0] [1, 2, 3, 4, 5, 6, 7, 8, 9, 10, 11, 12, 13, 14, 15] ⟨rfl, rfl, rfl, rfl, by decide⟩ rfl hl.1 (Nat.le_of_ble_eq_true rfl) dX11_wayAt_68 (fun H locs hP hD hS => ?_)
  have hP := hP.sub (ws' := (w11 ca qC (rC3) (rC4) (rC6) (rC7) (.ref (qP0 0)) (rC11) (rC12) (rC14) (rC15) (.ref (qW 0)) (rC18) (rC19) z4.2 ++ w6 ca qP0 (.ref (qT0 0)) (rP01) SP0 ++ w7 ca qT0 ST0 ++ w10 ca qW (.ref (qT0 0)) SW)) [15, 0, 1, 2, 3, 4, 5, 6, 7, 8, 9, 10, 11, 12, 13, 14] rfl
  have hD := hD.sub (ws' := (w11 ca qC (rC3) (rC4) (rC6) (rC7) (.ref (qP0 0)) (rC11) (rC12) (rC14) (rC15) (.ref (qW 0)) (rC18) (rC19) z4.2 ++ w6 ca qP0 (.ref (qT0 0)) (rP01) SP0 ++ w7 ca qT0 ST0 ++ w10 ca qW (.ref (qT0 0)) SW)) [15, 0, 1, 2, 3, 4, 5, 6, 7, 8, 9, 10, 11, 12, 13, 14] rfl rfl
  obtain rfl := Option.some.inj hf
  exact tc_rix X hP hD hS rfl dX11_wayAt_71 (fun _ => .ref (qT0 0)) rfl rfl
set_option maxRecDepth 20000 in
theorem mX11_wayAt {qC : Nat → Nat} {qP0 : Nat → Nat} {qT0 : Nat → Nat} {qW : Nat → Nat} {rC3 : Value} {rC4 : Value} {rC6 : Value} {rC7 : Value} {rC11 : Value} {rC12 : Value} {rC14 : Value} {rC15 : Value} {rC18 : Value} {rC19 : Value} {rP01 : Value} {rW0 : Value} {SC : ms_T} {SP0 : ms_T} {ST0 : ms_T} {SW : ms_T} {a1 : Int32} {a2 : Int32} {a3 : Int32} {a4 : Int32} {z : Int32 × ms_T × ms_T}  (hf : fX11_wayAt SC SP0 ST0 SW a1 a2 a3 a4 = some z) : tc_MIx l dC dI ca yX11_wayAt cX11_wayAt 7 (some .int) rmX11_wayAt [.ref (qC 0), .int (a1), .int (a2), .int (a3), .int (a4)] (w11 ca qC (rC3) (rC4) (rC6) (rC7) (.ref (qP0 0)) (rC11) (rC12) (rC14) (rC15) (.ref (qW 0)) (rC18) (rC19) SC ++ w6 ca qP0 (.ref (qT0 0)) (rP01) SP0 ++ w7 ca qT0 ST0 ++ w10 ca qW (rW0) SW) (fun u => (w11 ca qC (rC3) (rC4) (rC6) (rC7) (.ref (qP0 0)) (rC11) (rC12) (rC14) (rC15) (.ref (qW 0)) (rC18) (rC19) z.2.1 ++ w6 ca qP0 (.ref (qT0 0)) (rP01) SP0 ++ w7 ca qT0 ST0 ++ w10 ca qW (u 0) z.2.2)) (z.1) := by
  refine tc_metIx (own := RX11) (by decide) rfl ?_ (Nat.le_of_ble_eq_true rfl)
  intro p e s m below meth c A X hP hD hS ls hl
  obtain ⟨hx, hb, hr, hml, hown, hts, hlk, hK, hA, hG⟩ := id X
  unfold fX11_wayAt at hf
  have hl : lv_has ls 7 [(0, .ref (qC 0)), (1, .int (a1)), (2, .int (a2)), (3, .int (a3)), (4, .int (a4))] := hl
  refine lv_aload_n hx hb dX11_wayAt_0 rfl (lv_at hl 0 rfl) ?_
  refine lv_iload_n hx hb dX11_wayAt_1 rfl (lv_at hl 1 rfl) ?_
  refine lv_iload_n hx hb dX11_wayAt_2 rfl (lv_at hl 2 rfl) ?_
  obtain ⟨z1, hg, hf⟩ := tc_bi hf
  refine tc_iV (As := [.int (a1), .int (a2)]) (rest := []) (b := qC 0) (wc := w11 ca qC (rC3) (rC4) (rC6) (rC7) (.ref (qP0 0)) (rC11) (rC12) (rC14) (rC15) (.ref (qW 0)) (rC18) (rC19) SC ++ w6 ca qP0 (.ref (qT0 0)) (rP01) SP0 ++ w7 ca qT0 ST0) (wr := w10 ca qW (rW0) SW) X hP hD hS (mX11_wayStatus hg) okX11_wayStatus wl_X11_308 wi_X11_wayStatus ws_X11_X11_wayStatus_X11_wayStatus ⟨rfl, rfl, Nat.le_of_ble_eq_true rfl, Nat.le_of_ble_eq_true rfl⟩ 11 0 rfl rfl [0, 1, 2, 3, 4, 5, 6, 7, 8, 9, 10, 11, 12] [13, 14, 15] ⟨rfl, rfl, rfl, rfl, by decide⟩ rfl hl.1 (Nat.le_of_ble_eq_true rfl) dX11_wayAt_3 (fun H locs hP hD hS => ?_)
  have hP := hP.sub (ws' := (w11 ca qC (rC3) (rC4) (rC6) (rC7) (.ref (qP0 0)) (rC11) (rC12) (rC14) (rC15) (.ref (qW 0)) (rC18) (rC19) SC ++ w6 ca qP0 (.ref (qT0 0)) (rP01) SP0 ++ w7 ca qT0 ST0 ++ w10 ca qW (rW0) SW)) [3, 4, 5, 6, 7, 8, 9, 10, 11, 12, 13, 14, 15, 0, 1, 2] rfl
  have hD := hD.sub (ws' := (w11 ca qC (rC3) (rC4) (rC6) (rC7) (.ref (qP0 0)) (rC11) (rC12) (rC14) (rC15) (.ref (qW 0)) (rC18) (rC19) SC ++ w6 ca qP0 (.ref (qT0 0)) (rP01) SP0 ++ w7 ca qT0 ST0 ++ w10 ca qW (rW0) SW)) [3, 4, 5, 6, 7, 8, 9, 10, 11, 12, 13, 14, 15, 0, 1, 2] rfl rfl
  refine lv_istore (lv' := [(5, .int (z1)), (0, .ref (qC 0)), (1, .int (a1)), (2, .int (a2)), (3, .int (a3)), (4, .int (a4))]) hx hb dX11_wayAt_6 hl (by decide) rfl (fun ls hl => ?_)
  refine lv_iload hx hb dX11_wayAt_8 (lv_at hl 0 rfl) ?_
  refine lv_if_eq (tgt := 20) hx hb dX11_wayAt_10 (by decide) (fun hc => ?_) (fun hc => ?_)
  · have hf := tc_pos hc hf
    refine lv_iload hx hb dX11_wayAt_20 (lv_at hl 5 rfl) ?_
    refine lv_if_lt (tgt := 31) hx hb dX11_wayAt_22 (by decide) (fun hc => ?_) (fun hc => ?_)
    · have hf := tc_pos hc hf
      exact tX11_wayAt_31 X z SP0 ST0 SC SW hf _ _ _ hP hD hS (lv_sub hl [1] rfl)
    · have hf := tc_neg hc hf
      refine lv_iload hx hb dX11_wayAt_25 (lv_at hl 5 rfl) ?_
      refine lv_iconst (v := (2 : Int32)) hx hb dX11_wayAt_27 (by decide) ?_
      refine lv_icmp_le (tgt := 37) hx hb dX11_wayAt_28 (by decide) (fun hc => ?_) (fun hc => ?_)
      · have hf := tc_pos hc hf
        refine lv_aload_n hx hb dX11_wayAt_37 rfl (lv_at hl 1 rfl) ?_
        refine va_get (D := (dC, dI)) (ci := 11) (v := .ref (qW 0)) (C := RX11) (T := TX11) (N := 20) hx hb hts i_X11 hown hK hP 0 rfl rfl 17 (by decide) (hts _ wf_X11_63) (fun _ h9 => h9) rfl dX11_wayAt_38 ?_
        refine lv_aload_n hx hb dX11_wayAt_41 rfl (lv_at hl 1 rfl) ?_
        refine va_get (D := (dC, dI)) (ci := 11) (v := .ref (qP0 0)) (C := RX11) (T := TX11) (N := 20) hx hb hts i_X11 hown hK hP 0 rfl rfl 10 (by decide) (hts _ wf_X11_39) (fun _ h9 => h9) rfl dX11_wayAt_42 ?_
        refine va_get (D := (dC, dI)) (ci := 6) (v := .ref (qT0 0)) (C := RX6) (T := TX6) (N := 2) hx hb hts i_X6 hown hK hP 1 rfl rfl 0 (by decide) (hts _ wf_X11_152) (fun _ h9 => h9) rfl dX11_wayAt_45 ?_
        refine lv_iload_n hx hb dX11_wayAt_48 rfl (lv_at hl 2 rfl) ?_
        refine lv_iload_n hx hb dX11_wayAt_49 rfl (lv_at hl 3 rfl) ?_
        obtain ⟨z3, hg, hf⟩ := tc_bi hf
        refine tc_iV (As := [.ref (qT0 0), .int (a1), .int (a2)]) (rest := []) (b := qW 0) (wc := w10 ca qW (rW0) SW ++ w7 ca qT0 ST0) (wr := w11 ca qC (rC3) (rC4) (rC6) (rC7) (.ref (qP0 0)) (rC11) (rC12) (rC14) (rC15) (.ref (qW 0)) (rC18) (rC19) SC ++ w6 ca qP0 (.ref (qT0 0)) (rP01) SP0) X hP hD hS (mX10_sayingsTo hg) okX10_sayingsTo wl_X11_311 wi_X10_sayingsTo ws_X10_X10_sayingsTo_X10_sayingsTo ⟨rfl, rfl, Nat.le_of_ble_eq_true rfl, Nat.le_of_ble_eq_true rfl⟩ 10 0 rfl rfl [13, 14, 15, 2, 3, 4, 5, 6, 7, 8, 9, 10, 11, 12] [0, 1] ⟨rfl, rfl, rfl, rfl, by decide⟩ rfl hl.1 (Nat.le_of_ble_eq_true rfl) dX11_wayAt_50 (fun H locs hP hD hS => ?_)
        have hP := hP.sub (ws' := (w11 ca qC (rC3) (rC4) (rC6) (rC7) (.ref (qP0 0)) (rC11) (rC12) (rC14) (rC15) (.ref (qW 0)) (rC18) (rC19) SC ++ w6 ca qP0 (.ref (qT0 0)) (rP01) SP0 ++ w7 ca qT0 ST0 ++ w10 ca qW (.ref (qT0 0)) z3.2)) [0, 1, 5, 6, 7, 8, 9, 10, 11, 12, 13, 14, 15, 2, 3, 4] rfl
        have hD := hD.sub (ws' := (w11 ca qC (rC3) (rC4) (rC6) (rC7) (.ref (qP0 0)) (rC11) (rC12) (rC14) (rC15) (.ref (qW 0)) (rC18) (rC19) SC ++ w6 ca qP0 (.ref (qT0 0)) (rP01) SP0 ++ w7 ca qT0 ST0 ++ w10 ca qW (.ref (qT0 0)) z3.2)) [0, 1, 5, 6, 7, 8, 9, 10, 11, 12, 13, 14, 15, 2, 3, 4] rfl rfl
        refine lv_istore (lv' := [(6, .int (z3.1)), (5, .int (z1)), (0, .ref (qC 0)), (1, .int (a1)), (2, .int (a2)), (3, .int (a3)), (4, .int (a4))]) hx hb dX11_wayAt_53 hl (by decide) rfl (fun ls hl => ?_)
        refine lv_iload_n hx hb dX11_wayAt_55 rfl (lv_at hl 5 rfl) ?_
        refine lv_if_lt (tgt := 65) hx hb dX11_wayAt_56 (by decide) (fun hc => ?_) (fun hc => ?_)
        · have hf := tc_pos hc hf
          exact tX11_wayAt_65 X z SP0 ST0 SC z3.2 hf _ _ _ hP hD hS (lv_sub hl [2] rfl)
        · have hf := tc_neg hc hf
          refine lv_iload_n hx hb dX11_wayAt_59 rfl (lv_at hl 5 rfl) ?_
          refine lv_iload hx hb dX11_wayAt_60 (lv_at hl 0 rfl) ?_
          refine lv_icmp_lt (tgt := 72) hx hb dX11_wayAt_62 (by decide) (fun hc => ?_) (fun hc => ?_)
          · have hf := tc_pos hc hf
            refine lv_aload_n hx hb dX11_wayAt_72 rfl (lv_at hl 2 rfl) ?_
            refine lv_aload_n hx hb dX11_wayAt_73 rfl (lv_at hl 2 rfl) ?_
            refine va_get (D := (dC, dI)) (ci := 11) (v := .ref (qW 0)) (C := RX11) (T := TX11) (N := 20) hx hb hts i_X11 hown hK hP 0 rfl rfl 17 (by decide) (hts _ wf_X11_63) (fun _ h9 => h9) rfl dX11_wayAt_74 ?_
            refine lv_iload_n hx hb dX11_wayAt_77 rfl (lv_at hl 3 rfl) ?_
            refine lv_iload_n hx hb dX11_wayAt_78 rfl (lv_at hl 5 rfl) ?_
            refine lv_iload hx hb dX11_wayAt_79 (lv_at hl 6 rfl) ?_
            obtain ⟨z5, hg, hf⟩ := tc_bi hf
            refine tc_iV (As := [.int (a1), .int (a3), .int (a4)]) (rest := [.ref (qC 0)]) (b := qW 0) (wc := w10 ca qW (.ref (qT0 0)) z3.2 ++ w7 ca qT0 ST0) (wr := w11 ca qC (rC3) (rC4) (rC6) (rC7) (.ref (qP0 0)) (rC11) (rC12) (rC14) (rC15) (.ref (qW 0)) (rC18) (rC19) SC ++ w6 ca qP0 (.ref (qT0 0)) (rP01) SP0) X hP hD hS (mX10_tellSaying hg) okX10_tellSaying wl_X11_315 wi_X10_tellSaying ws_X10_X10_tellSaying_X10_tellSaying ⟨rfl, rfl, Nat.le_of_ble_eq_true rfl, Nat.le_of_ble_eq_true rfl⟩ 10 0 rfl rfl [13, 14, 15, 2, 3, 4, 5, 6, 7, 8, 9, 10, 11, 12] [0, 1] ⟨rfl, rfl, rfl, rfl, by decide⟩ rfl hl.1 (Nat.le_of_ble_eq_true rfl) dX11_wayAt_81 (fun H locs hP hD hS => ?_)
            have hP := hP.sub (ws' := (w11 ca qC (rC3) (rC4) (rC6) (rC7) (.ref (qP0 0)) (rC11) (rC12) (rC14) (rC15) (.ref (qW 0)) (rC18) (rC19) SC ++ w6 ca qP0 (.ref (qT0 0)) (rP01) SP0 ++ w7 ca qT0 ST0 ++ w10 ca qW (.ref (qT0 0)) z3.2)) [0, 1, 5, 6, 7, 8, 9, 10, 11, 12, 13, 14, 15, 2, 3, 4] rfl
            have hD := hD.sub (ws' := (w11 ca qC (rC3) (rC4) (rC6) (rC7) (.ref (qP0 0)) (rC11) (rC12) (rC14) (rC15) (.ref (qW 0)) (rC18) (rC19) SC ++ w6 ca qP0 (.ref (qT0 0)) (rP01) SP0 ++ w7 ca qT0 ST0 ++ w10 ca qW (.ref (qT0 0)) z3.2)) [0, 1, 5, 6, 7, 8, 9, 10, 11, 12, 13, 14, 15, 2, 3, 4] rfl rfl
            obtain ⟨z6, hg, hf⟩ := tc_bi hf
            refine tc_iV (As := [.int (z5)]) (rest := []) (b := qC 0) (wc := w11 ca qC (rC3) (rC4) (rC6) (rC7) (.ref (qP0 0)) (rC11) (rC12) (rC14) (rC15) (.ref (qW 0)) (rC18) (rC19) SC) (wr := w6 ca qP0 (.ref (qT0 0)) (rP01) SP0 ++ w7 ca qT0 ST0 ++ w10 ca qW (.ref (qT0 0)) z3.2) X hP hD hS (mX11_answer hg) okX11_answer wl_X11_182 wi_X11_answer ws_X11_X11_answer_X11_answer ⟨rfl, rfl, Nat.le_of_ble_eq_true rfl, Nat.le_of_ble_eq_true rfl⟩ 11 0 rfl rfl [0] [1, 2, 3, 4, 5, 6, 7, 8, 9, 10, 11, 12, 13, 14, 15] ⟨rfl, rfl, rfl, rfl, by decide⟩ rfl hl.1 (Nat.le_of_ble_eq_true rfl) dX11_wayAt_84 (fun H locs hP hD hS => ?_)
            have hP := hP.sub (ws' := (w11 ca qC (rC3) (rC4) (rC6) (rC7) (.ref (qP0 0)) (rC11) (rC12) (rC14) (rC15) (.ref (qW 0)) (rC18) (rC19) z6.2 ++ w6 ca qP0 (.ref (qT0 0)) (rP01) SP0 ++ w7 ca qT0 ST0 ++ w10 ca qW (.ref (qT0 0)) z3.2)) [15, 0, 1, 2, 3, 4, 5, 6, 7, 8, 9, 10, 11, 12, 13, 14] rfl
            have hD := hD.sub (ws' := (w11 ca qC (rC3) (rC4) (rC6) (rC7) (.ref (qP0 0)) (rC11) (rC12) (rC14) (rC15) (.ref (qW 0)) (rC18) (rC19) z6.2 ++ w6 ca qP0 (.ref (qT0 0)) (rP01) SP0 ++ w7 ca qT0 ST0 ++ w10 ca qW (.ref (qT0 0)) z3.2)) [15, 0, 1, 2, 3, 4, 5, 6, 7, 8, 9, 10, 11, 12, 13, 14] rfl rfl
            obtain rfl := Option.some.inj hf
            exact tc_rix X hP hD hS rfl dX11_wayAt_87 (fun _ => .ref (qT0 0)) rfl rfl
          · have hf := tc_neg hc hf
            exact tX11_wayAt_65 X z SP0 ST0 SC z3.2 hf _ _ _ hP hD hS (lv_sub hl [2] rfl)
      · have hf := tc_neg hc hf
        exact tX11_wayAt_31 X z SP0 ST0 SC SW hf _ _ _ hP hD hS (lv_sub hl [1] rfl)
  · have hf := tc_neg hc hf
    refine lv_aload_n hx hb dX11_wayAt_13 rfl (lv_at hl 1 rfl) ?_
    refine lv_iload hx hb dX11_wayAt_14 (lv_at hl 0 rfl) ?_
    obtain ⟨z7, hg, hf⟩ := tc_bi hf
    refine tc_iV (As := [.int (z1)]) (rest := []) (b := qC 0) (wc := w11 ca qC (rC3) (rC4) (rC6) (rC7) (.ref (qP0 0)) (rC11) (rC12) (rC14) (rC15) (.ref (qW 0)) (rC18) (rC19) SC) (wr := w6 ca qP0 (.ref (qT0 0)) (rP01) SP0 ++ w7 ca qT0 ST0 ++ w10 ca qW (rW0) SW) X hP hD hS (mX11_refuse hg) okX11_refuse wl_X11_121 wi_X11_refuse ws_X11_X11_refuse_X11_refuse ⟨rfl, rfl, Nat.le_of_ble_eq_true rfl, Nat.le_of_ble_eq_true rfl⟩ 11 0 rfl rfl [0] [1, 2, 3, 4, 5, 6, 7, 8, 9, 10, 11, 12, 13, 14, 15] ⟨rfl, rfl, rfl, rfl, by decide⟩ rfl hl.1 (Nat.le_of_ble_eq_true rfl) dX11_wayAt_16 (fun H locs hP hD hS => ?_)
    have hP := hP.sub (ws' := (w11 ca qC (rC3) (rC4) (rC6) (rC7) (.ref (qP0 0)) (rC11) (rC12) (rC14) (rC15) (.ref (qW 0)) (rC18) (rC19) z7.2 ++ w6 ca qP0 (.ref (qT0 0)) (rP01) SP0 ++ w7 ca qT0 ST0 ++ w10 ca qW (rW0) SW)) [15, 0, 1, 2, 3, 4, 5, 6, 7, 8, 9, 10, 11, 12, 13, 14] rfl
    have hD := hD.sub (ws' := (w11 ca qC (rC3) (rC4) (rC6) (rC7) (.ref (qP0 0)) (rC11) (rC12) (rC14) (rC15) (.ref (qW 0)) (rC18) (rC19) z7.2 ++ w6 ca qP0 (.ref (qT0 0)) (rP01) SP0 ++ w7 ca qT0 ST0 ++ w10 ca qW (rW0) SW)) [15, 0, 1, 2, 3, 4, 5, 6, 7, 8, 9, 10, 11, 12, 13, 14] rfl rfl
    obtain rfl := Option.some.inj hf
    exact tc_rix X hP hD hS rfl dX11_wayAt_19 (fun _ => rW0) rfl rfl
def fX11_from  (SC : ms_T) (SP0 : ms_T) (ST0 : ms_T) (SW : ms_T) (a1 : Int32) : Option (Int32 × ms_T × ms_T) :=
  (fX7_isHeight ST0 a1).bind fun z1 =>
  if z1 = 0 then
    (fX11_refuse SC (2 : Int32)).bind fun z5 =>
    some (z5.1, z5.2, SW)
  else
    (fX10_findEnds SW ST0).bind fun z2 =>
    (fX10_couples z2 ST0 a1).bind fun z3 =>
    (fX11_answer SC z3).bind fun z4 =>
    some (z4.1, z4.2, z2)
abbrev rmX11_from : Room := { frames := 3, cells := 0, slots := 0, locals := 71 }
theorem okX11_from : tc_ok yX11_from cX11_from 2 (some .int) 1 := ⟨wc_X11_from, wn_X11, by decide, by decide, by decide +kernel⟩
set_option maxRecDepth 20000 in
theorem mX11_from {qC : Nat → Nat} {qP0 : Nat → Nat} {qT0 : Nat → Nat} {qW : Nat → Nat} {rC3 : Value} {rC4 : Value} {rC6 : Value} {rC7 : Value} {rC11 : Value} {rC12 : Value} {rC14 : Value} {rC15 : Value} {rC18 : Value} {rC19 : Value} {rP01 : Value} {rW0 : Value} {SC : ms_T} {SP0 : ms_T} {ST0 : ms_T} {SW : ms_T} {a1 : Int32} {z : Int32 × ms_T × ms_T}  (hf : fX11_from SC SP0 ST0 SW a1 = some z) : tc_MIx l dC dI ca yX11_from cX11_from 2 (some .int) rmX11_from [.ref (qC 0), .int (a1)] (w11 ca qC (rC3) (rC4) (rC6) (rC7) (.ref (qP0 0)) (rC11) (rC12) (rC14) (rC15) (.ref (qW 0)) (rC18) (rC19) SC ++ w6 ca qP0 (.ref (qT0 0)) (rP01) SP0 ++ w7 ca qT0 ST0 ++ w10 ca qW (rW0) SW) (fun u => (w11 ca qC (rC3) (rC4) (rC6) (rC7) (.ref (qP0 0)) (rC11) (rC12) (rC14) (rC15) (.ref (qW 0)) (rC18) (rC19) z.2.1 ++ w6 ca qP0 (.ref (qT0 0)) (rP01) SP0 ++ w7 ca qT0 ST0 ++ w10 ca qW (u 0) z.2.2)) (z.1) := by
  refine tc_metIx (own := RX11) (by decide) rfl ?_ (Nat.le_of_ble_eq_true rfl)
  intro p e s m below meth c A X hP hD hS ls hl
  obtain ⟨hx, hb, hr, hml, hown, hts, hlk, hK, hA, hG⟩ := id X
  unfold fX11_from at hf
  have hl : lv_has ls 2 [(0, .ref (qC 0)), (1, .int (a1))] := hl
  refine lv_aload_n hx hb dX11_from_0 rfl (lv_at hl 0 rfl) ?_
  refine va_get (D := (dC, dI)) (ci := 11) (v := .ref (qP0 0)) (C := RX11) (T := TX11) (N := 20) hx hb hts i_X11 hown hK hP 0 rfl rfl 10 (by decide) (hts _ wf_X11_39) (fun _ h9 => h9) rfl dX11_from_1 ?_
  refine va_get (D := (dC, dI)) (ci := 6) (v := .ref (qT0 0)) (C := RX6) (T := TX6) (N := 2) hx hb hts i_X6 hown hK hP 1 rfl rfl 0 (by decide) (hts _ wf_X11_152) (fun _ h9 => h9) rfl dX11_from_4 ?_
  refine lv_iload_n hx hb dX11_from_7 rfl (lv_at hl 1 rfl) ?_
  obtain ⟨z1, hg, hf⟩ := tc_bi hf
  refine tc_iV (As := [.int (a1)]) (rest := []) (b := qT0 0) (wc := w7 ca qT0 ST0) (wr := w11 ca qC (rC3) (rC4) (rC6) (rC7) (.ref (qP0 0)) (rC11) (rC12) (rC14) (rC15) (.ref (qW 0)) (rC18) (rC19) SC ++ w6 ca qP0 (.ref (qT0 0)) (rP01) SP0 ++ w10 ca qW (rW0) SW) X hP hD hS (mX7_isHeight hg) okX7_isHeight wl_X11_289 wi_X7_isHeight ws_X7_X7_isHeight_X7_isHeight ⟨rfl, rfl, Nat.le_of_ble_eq_true rfl, Nat.le_of_ble_eq_true rfl⟩ 7 0 rfl rfl [2, 3, 4, 5, 6, 7, 8, 9, 10, 11, 12] [0, 1, 13, 14, 15] ⟨rfl, rfl, rfl, rfl, by decide⟩ rfl hl.1 (Nat.le_of_ble_eq_true rfl) dX11_from_8 (fun H locs hP hD hS => ?_)
  have hP := hP.sub (ws' := (w11 ca qC (rC3) (rC4) (rC6) (rC7) (.ref (qP0 0)) (rC11) (rC12) (rC14) (rC15) (.ref (qW 0)) (rC18) (rC19) SC ++ w6 ca qP0 (.ref (qT0 0)) (rP01) SP0 ++ w7 ca qT0 ST0 ++ w10 ca qW (rW0) SW)) [0, 1, 5, 6, 7, 8, 9, 10, 11, 12, 13, 14, 15, 2, 3, 4] rfl
  have hD := hD.sub (ws' := (w11 ca qC (rC3) (rC4) (rC6) (rC7) (.ref (qP0 0)) (rC11) (rC12) (rC14) (rC15) (.ref (qW 0)) (rC18) (rC19) SC ++ w6 ca qP0 (.ref (qT0 0)) (rP01) SP0 ++ w7 ca qT0 ST0 ++ w10 ca qW (rW0) SW)) [0, 1, 5, 6, 7, 8, 9, 10, 11, 12, 13, 14, 15, 2, 3, 4] rfl rfl
  refine lv_if_ne (tgt := 20) hx hb dX11_from_11 (by decide) (fun hc => ?_) (fun hc => ?_)
  · have hf := tc_neg hc hf
    refine lv_aload_n hx hb dX11_from_20 rfl (lv_at hl 0 rfl) ?_
    refine va_get (D := (dC, dI)) (ci := 11) (v := .ref (qW 0)) (C := RX11) (T := TX11) (N := 20) hx hb hts i_X11 hown hK hP 0 rfl rfl 17 (by decide) (hts _ wf_X11_63) (fun _ h9 => h9) rfl dX11_from_21 ?_
    refine lv_aload_n hx hb dX11_from_24 rfl (lv_at hl 0 rfl) ?_
    refine va_get (D := (dC, dI)) (ci := 11) (v := .ref (qP0 0)) (C := RX11) (T := TX11) (N := 20) hx hb hts i_X11 hown hK hP 0 rfl rfl 10 (by decide) (hts _ wf_X11_39) (fun _ h9 => h9) rfl dX11_from_25 ?_
    refine va_get (D := (dC, dI)) (ci := 6) (v := .ref (qT0 0)) (C := RX6) (T := TX6) (N := 2) hx hb hts i_X6 hown hK hP 1 rfl rfl 0 (by decide) (hts _ wf_X11_152) (fun _ h9 => h9) rfl dX11_from_28 ?_
    obtain ⟨z2, hg, hf⟩ := tc_bi hf
    refine tc_vV (As := [.ref (qT0 0)]) (rest := []) (b := qW 0) (wc := w10 ca qW (rW0) SW ++ w7 ca qT0 ST0) (wr := w11 ca qC (rC3) (rC4) (rC6) (rC7) (.ref (qP0 0)) (rC11) (rC12) (rC14) (rC15) (.ref (qW 0)) (rC18) (rC19) SC ++ w6 ca qP0 (.ref (qT0 0)) (rP01) SP0) X hP hD hS (mX10_findEnds hg) okX10_findEnds wl_X11_319 wi_X10_findEnds ws_X10_X10_findEnds_X10_findEnds ⟨rfl, rfl, Nat.le_of_ble_eq_true rfl, Nat.le_of_ble_eq_true rfl⟩ 10 0 rfl rfl [13, 14, 15, 2, 3, 4, 5, 6, 7, 8, 9, 10, 11, 12] [0, 1] ⟨rfl, rfl, rfl, rfl, by decide⟩ rfl hl.1 (Nat.le_of_ble_eq_true rfl) dX11_from_31 (fun H locs hP hD hS => ?_)
    have hP := hP.sub (ws' := (w11 ca qC (rC3) (rC4) (rC6) (rC7) (.ref (qP0 0)) (rC11) (rC12) (rC14) (rC15) (.ref (qW 0)) (rC18) (rC19) SC ++ w6 ca qP0 (.ref (qT0 0)) (rP01) SP0 ++ w7 ca qT0 ST0 ++ w10 ca qW (.ref (qT0 0)) z2)) [0, 1, 5, 6, 7, 8, 9, 10, 11, 12, 13, 14, 15, 2, 3, 4] rfl
    have hD := hD.sub (ws' := (w11 ca qC (rC3) (rC4) (rC6) (rC7) (.ref (qP0 0)) (rC11) (rC12) (rC14) (rC15) (.ref (qW 0)) (rC18) (rC19) SC ++ w6 ca qP0 (.ref (qT0 0)) (rP01) SP0 ++ w7 ca qT0 ST0 ++ w10 ca qW (.ref (qT0 0)) z2)) [0, 1, 5, 6, 7, 8, 9, 10, 11, 12, 13, 14, 15, 2, 3, 4] rfl rfl
    refine lv_aload_n hx hb dX11_from_34 rfl (lv_at hl 0 rfl) ?_
    refine lv_aload_n hx hb dX11_from_35 rfl (lv_at hl 0 rfl) ?_
    refine va_get (D := (dC, dI)) (ci := 11) (v := .ref (qW 0)) (C := RX11) (T := TX11) (N := 20) hx hb hts i_X11 hown hK hP 0 rfl rfl 17 (by decide) (hts _ wf_X11_63) (fun _ h9 => h9) rfl dX11_from_36 ?_
    refine lv_iload_n hx hb dX11_from_39 rfl (lv_at hl 1 rfl) ?_
    obtain ⟨z3, hg, hf⟩ := tc_bi hf
    refine tc_iV (As := [.int (a1)]) (rest := [.ref (qC 0)]) (b := qW 0) (wc := w10 ca qW (.ref (qT0 0)) z2 ++ w7 ca qT0 ST0) (wr := w11 ca qC (rC3) (rC4) (rC6) (rC7) (.ref (qP0 0)) (rC11) (rC12) (rC14) (rC15) (.ref (qW 0)) (rC18) (rC19) SC ++ w6 ca qP0 (.ref (qT0 0)) (rP01) SP0) X hP hD hS (mX10_couples hg) okX10_couples wl_X11_322 wi_X10_couples ws_X10_X10_couples_X10_couples ⟨rfl, rfl, Nat.le_of_ble_eq_true rfl, Nat.le_of_ble_eq_true rfl⟩ 10 0 rfl rfl [13, 14, 15, 2, 3, 4, 5, 6, 7, 8, 9, 10, 11, 12] [0, 1] ⟨rfl, rfl, rfl, rfl, by decide⟩ rfl hl.1 (Nat.le_of_ble_eq_true rfl) dX11_from_40 (fun H locs hP hD hS => ?_)
    have hP := hP.sub (ws' := (w11 ca qC (rC3) (rC4) (rC6) (rC7) (.ref (qP0 0)) (rC11) (rC12) (rC14) (rC15) (.ref (qW 0)) (rC18) (rC19) SC ++ w6 ca qP0 (.ref (qT0 0)) (rP01) SP0 ++ w7 ca qT0 ST0 ++ w10 ca qW (.ref (qT0 0)) z2)) [0, 1, 5, 6, 7, 8, 9, 10, 11, 12, 13, 14, 15, 2, 3, 4] rfl
    have hD := hD.sub (ws' := (w11 ca qC (rC3) (rC4) (rC6) (rC7) (.ref (qP0 0)) (rC11) (rC12) (rC14) (rC15) (.ref (qW 0)) (rC18) (rC19) SC ++ w6 ca qP0 (.ref (qT0 0)) (rP01) SP0 ++ w7 ca qT0 ST0 ++ w10 ca qW (.ref (qT0 0)) z2)) [0, 1, 5, 6, 7, 8, 9, 10, 11, 12, 13, 14, 15, 2, 3, 4] rfl rfl
    obtain ⟨z4, hg, hf⟩ := tc_bi hf
    refine tc_iV (As := [.int (z3)]) (rest := []) (b := qC 0) (wc := w11 ca qC (rC3) (rC4) (rC6) (rC7) (.ref (qP0 0)) (rC11) (rC12) (rC14) (rC15) (.ref (qW 0)) (rC18) (rC19) SC) (wr := w6 ca qP0 (.ref (qT0 0)) (rP01) SP0 ++ w7 ca qT0 ST0 ++ w10 ca qW (.ref (qT0 0)) z2) X hP hD hS (mX11_answer hg) okX11_answer wl_X11_182 wi_X11_answer ws_X11_X11_answer_X11_answer ⟨rfl, rfl, Nat.le_of_ble_eq_true rfl, Nat.le_of_ble_eq_true rfl⟩ 11 0 rfl rfl [0] [1, 2, 3, 4, 5, 6, 7, 8, 9, 10, 11, 12, 13, 14, 15] ⟨rfl, rfl, rfl, rfl, by decide⟩ rfl hl.1 (Nat.le_of_ble_eq_true rfl) dX11_from_43 (fun H locs hP hD hS => ?_)
    have hP := hP.sub (ws' := (w11 ca qC (rC3) (rC4) (rC6) (rC7) (.ref (qP0 0)) (rC11) (rC12) (rC14) (rC15) (.ref (qW 0)) (rC18) (rC19) z4.2 ++ w6 ca qP0 (.ref (qT0 0)) (rP01) SP0 ++ w7 ca qT0 ST0 ++ w10 ca qW (.ref (qT0 0)) z2)) [15, 0, 1, 2, 3, 4, 5, 6, 7, 8, 9, 10, 11, 12, 13, 14] rfl
    have hD := hD.sub (ws' := (w11 ca qC (rC3) (rC4) (rC6) (rC7) (.ref (qP0 0)) (rC11) (rC12) (rC14) (rC15) (.ref (qW 0)) (rC18) (rC19) z4.2 ++ w6 ca qP0 (.ref (qT0 0)) (rP01) SP0 ++ w7 ca qT0 ST0 ++ w10 ca qW (.ref (qT0 0)) z2)) [15, 0, 1, 2, 3, 4, 5, 6, 7, 8, 9, 10, 11, 12, 13, 14] rfl rfl
    obtain rfl := Option.some.inj hf
    exact tc_rix X hP hD hS rfl dX11_from_46 (fun _ => .ref (qT0 0)) rfl rfl
  · have hf := tc_pos hc hf
    refine lv_aload_n hx hb dX11_from_14 rfl (lv_at hl 0 rfl) ?_
    refine lv_iconst (v := (2 : Int32)) hx hb dX11_from_15 (by decide) ?_
    obtain ⟨z5, hg, hf⟩ := tc_bi hf
    refine tc_iV (As := [.int ((2 : Int32))]) (rest := []) (b := qC 0) (wc := w11 ca qC (rC3) (rC4) (rC6) (rC7) (.ref (qP0 0)) (rC11) (rC12) (rC14) (rC15) (.ref (qW 0)) (rC18) (rC19) SC) (wr := w6 ca qP0 (.ref (qT0 0)) (rP01) SP0 ++ w7 ca qT0 ST0 ++ w10 ca qW (rW0) SW) X hP hD hS (mX11_refuse hg) okX11_refuse wl_X11_121 wi_X11_refuse ws_X11_X11_refuse_X11_refuse ⟨rfl, rfl, Nat.le_of_ble_eq_true rfl, Nat.le_of_ble_eq_true rfl⟩ 11 0 rfl rfl [0] [1, 2, 3, 4, 5, 6, 7, 8, 9, 10, 11, 12, 13, 14, 15] ⟨rfl, rfl, rfl, rfl, by decide⟩ rfl hl.1 (Nat.le_of_ble_eq_true rfl) dX11_from_16 (fun H locs hP hD hS => ?_)
    have hP := hP.sub (ws' := (w11 ca qC (rC3) (rC4) (rC6) (rC7) (.ref (qP0 0)) (rC11) (rC12) (rC14) (rC15) (.ref (qW 0)) (rC18) (rC19) z5.2 ++ w6 ca qP0 (.ref (qT0 0)) (rP01) SP0 ++ w7 ca qT0 ST0 ++ w10 ca qW (rW0) SW)) [15, 0, 1, 2, 3, 4, 5, 6, 7, 8, 9, 10, 11, 12, 13, 14] rfl
    have hD := hD.sub (ws' := (w11 ca qC (rC3) (rC4) (rC6) (rC7) (.ref (qP0 0)) (rC11) (rC12) (rC14) (rC15) (.ref (qW 0)) (rC18) (rC19) z5.2 ++ w6 ca qP0 (.ref (qT0 0)) (rP01) SP0 ++ w7 ca qT0 ST0 ++ w10 ca qW (rW0) SW)) [15, 0, 1, 2, 3, 4, 5, 6, 7, 8, 9, 10, 11, 12, 13, 14] rfl rfl
    obtain rfl := Option.some.inj hf
    exact tc_rix X hP hD hS rfl dX11_from_19 (fun _ => rW0) rfl rfl
def fX11_commonDivisor_9    : Nat → Int64 → Int64 → Int32 → Option (Int64)
  | 0, _, _, _ => none
  | n + 1, v4, v6, v8 =>
    if (200 : Int32) ≤ v8 then
      some (v4)
    else
      if (lg_cmp v6 (0 : Int64)) = 0 then
        some (v4)
      else
        if ¬ v6 = 0 then
          fX11_commonDivisor_9 n v6 (v4 - v4 / v6 * v6) (v8 + (1 : Int32))
        else none
def fX11_commonDivisor   (a0 : Int64) (a2 : Int64) : Option (Int64) :=
  fX11_commonDivisor_9 FU a0 a2 (0 : Int32)
abbrev rmX11_commonDivisor : Room := { frames := 0, cells := 0, slots := 0, locals := 0 }
theorem okX11_commonDivisor : tc_ok yX11_commonDivisor cX11_commonDivisor 11 (some .long) 2 := ⟨wc_X11_commonDivisor, wn_X11, by decide, by decide, by decide +kernel⟩
set_option maxRecDepth 20000 in
theorem tX11_commonDivisor_9   (X : tc_X dC dI ca A RX11 cX11_commonDivisor 11 (some .long) p s m args meth c) (z : Int64)     : ∀ n : Nat, ∀ (v4 : Int64) (v6 : Int64) (v8 : Int32), fX11_commonDivisor_9 n v4 v6 v8 = some z → ∀ (H : Heap) (locs : List Loc) (ls : Array Slot), va_P (dC, dI) classes [] H → va_D A [] → va_S A s.heap H locs → lv_has ls 11 [(4, .long (v4)), (6, .long (v6)), (8, .int (v8))] → W p l e rmX11_commonDivisor s m args below meth c H locs 0 0 (MQ below (tc_QL dC dI ca A [] (z)) args s 0 0 A) (F0 m 9 ls []) := by
  obtain ⟨hx, hb, hr, hml, hown, hts, hlk, hK, hA, hG⟩ := id X
  intro n
  induction n with
  | zero => intro v4 v6 v8 hf; exact absurd (show none = some z from hf) (fun h => by cases h)
  | succ n ih =>
    intro v4 v6 v8 hf H locs ls hP hD hS hl
    rw [fX11_commonDivisor_9] at hf
    refine lv_iload hx hb dX11_commonDivisor_9 (lv_at hl 2 rfl) ?_
    refine lv_sipush (v := (200 : Int32)) hx hb dX11_commonDivisor_11 (by decide) ?_
    refine lv_icmp_ge (tgt := 45) hx hb dX11_commonDivisor_14 (by decide) (fun hc => ?_) (fun hc => ?_)
    · have hf := tc_pos hc hf
      refine lv_lload hx hb dX11_commonDivisor_45 (lv_at hl 0 rfl) ?_
      obtain rfl := Option.some.inj hf
      exact tc_rl X hP hD hS rfl dX11_commonDivisor_47 rfl rfl
    · have hf := tc_neg hc hf
      refine lv_lload hx hb dX11_commonDivisor_17 (lv_at hl 1 rfl) ?_
      refine lv_lconst (v := (0 : Int64)) hx hb dX11_commonDivisor_19 (by decide) ?_
      refine W.lcmp hx hb dX11_commonDivisor_20 ?_
      refine lv_if_eq (tgt := 45) hx hb dX11_commonDivisor_21 (by decide) (fun hc => ?_) (fun hc => ?_)
      · have hf := tc_pos hc hf
        refine lv_lload hx hb dX11_commonDivisor_45 (lv_at hl 0 rfl) ?_
        obtain rfl := Option.some.inj hf
        exact tc_rl X hP hD hS rfl dX11_commonDivisor_47 rfl rfl
      · have hf := tc_neg hc hf
        refine lv_lload hx hb dX11_commonDivisor_24 (lv_at hl 0 rfl) ?_
        refine lv_lload hx hb dX11_commonDivisor_26 (lv_at hl 1 rfl) ?_
        obtain ⟨hne, hf⟩ := tc_ck hf
        refine lv_lrem hx hb dX11_commonDivisor_28 hne ?_
        refine lv_lstore (lv' := [(9, .long (v4 - v4 / v6 * v6)), (4, .long (v4)), (6, .long (v6)), (8, .int (v8))]) hx hb dX11_commonDivisor_29 hl (by decide) rfl (fun ls hl => ?_)
        refine lv_lload hx hb dX11_commonDivisor_31 (lv_at hl 2 rfl) ?_
        refine lv_lstore (lv' := [(4, .long (v6)), (9, .long (v4 - v4 / v6 * v6)), (6, .long (v6)), (8, .int (v8))]) hx hb dX11_commonDivisor_33 hl (by decide) rfl (fun ls hl => ?_)
        refine lv_lload hx hb dX11_commonDivisor_35 (lv_at hl 1 rfl) ?_
        refine lv_lstore (lv' := [(6, .long (v4 - v4 / v6 * v6)), (4, .long (v6)), (9, .long (v4 - v4 / v6 * v6)), (8, .int (v8))]) hx hb dX11_commonDivisor_37 hl (by decide) rfl (fun ls hl => ?_)
        refine lv_iinc (v := v8 + (1 : Int32)) (lv' := [(8, .int (v8 + (1 : Int32))), (6, .long (v4 - v4 / v6 * v6)), (4, .long (v6)), (9, .long (v4 - v4 / v6 * v6))]) hx hb dX11_commonDivisor_39 hl (k := 3) rfl rfl (by decide) rfl (fun ls hl => ?_)
        refine lv_goto (tgt := 9) hx hb dX11_commonDivisor_42 (by decide) ?_
        exact ih v6 (v4 - v4 / v6 * v6) (v8 + (1 : Int32)) hf _ _ _ hP hD hS (lv_sub hl [2, 1, 0] rfl)
set_option maxRecDepth 20000 in
theorem mX11_commonDivisor    {a0 : Int64} {a2 : Int64} {z : Int64}  (hf : fX11_commonDivisor a0 a2 = some z) : tc_ML l dC dI ca yX11_commonDivisor cX11_commonDivisor 11 (some .long) rmX11_commonDivisor [.long (a0), .long (a2)] [] [] (z) := by
  refine tc_metL (own := RX11) (by decide) rfl ?_ (Nat.le_of_ble_eq_true rfl)
  intro p e s m below meth c A X hP hD hS ls hl
  obtain ⟨hx, hb, hr, hml, hown, hts, hlk, hK, hA, hG⟩ := id X
  unfold fX11_commonDivisor at hf
  have hl : lv_has ls 11 [(0, .long (a0)), (2, .long (a2))] := hl
  refine lv_lload_n hx hb dX11_commonDivisor_0 rfl (lv_at hl 0 rfl) ?_
  refine lv_lstore (lv' := [(4, .long (a0)), (0, .long (a0)), (2, .long (a2))]) hx hb dX11_commonDivisor_1 hl (by decide) rfl (fun ls hl => ?_)
  refine lv_lload_n hx hb dX11_commonDivisor_3 rfl (lv_at hl 2 rfl) ?_
  refine lv_lstore (lv' := [(6, .long (a2)), (4, .long (a0)), (0, .long (a0)), (2, .long (a2))]) hx hb dX11_commonDivisor_4 hl (by decide) rfl (fun ls hl => ?_)
  refine lv_iconst (v := (0 : Int32)) hx hb dX11_commonDivisor_6 (by decide) ?_
  refine lv_istore (lv' := [(8, .int ((0 : Int32))), (6, .long (a2)), (4, .long (a0)), (0, .long (a0)), (2, .long (a2))]) hx hb dX11_commonDivisor_7 hl (by decide) rfl (fun ls hl => ?_)
  exact tX11_commonDivisor_9 X z FU a0 a2 (0 : Int32) hf _ _ _ hP hD hS (lv_sub hl [2, 1, 0] rfl)
theorem pw11_0_1 (ca : Nat → ClassId) (q0 : Nat → Nat) (r0_3 r0_4 r0_6 r0_7 r0_10 r0_11 r0_12 r0_14 r0_15 r0_17 r0_18 r0_19 : Value) (S0 : ms_T) (v : Int64) : (w11 ca q0 r0_3 r0_4 r0_6 r0_7 r0_10 r0_11 r0_12 r0_14 r0_15 r0_17 r0_18 r0_19 S0 : va_W).set 0 (q0 0, .inr (11, List.set (.int (gi S0 0) :: .long (gl S0 1) :: .long (gl S0 2) :: r0_3 :: r0_4 :: .int (gi S0 5) :: r0_6 :: r0_7 :: .int (gi S0 8) :: .int (gi S0 9) :: r0_10 :: r0_11 :: r0_12 :: .int (gi S0 13) :: r0_14 :: r0_15 :: .int (gi S0 16) :: r0_17 :: r0_18 :: r0_19 :: []) 1 (.long v))) = w11 ca q0 r0_3 r0_4 r0_6 r0_7 r0_10 r0_11 r0_12 r0_14 r0_15 r0_17 r0_18 r0_19 (sl S0 1 v) := rfl
theorem pw11_0_2 (ca : Nat → ClassId) (q0 : Nat → Nat) (r0_3 r0_4 r0_6 r0_7 r0_10 r0_11 r0_12 r0_14 r0_15 r0_17 r0_18 r0_19 : Value) (S0 : ms_T) (v : Int64) : (w11 ca q0 r0_3 r0_4 r0_6 r0_7 r0_10 r0_11 r0_12 r0_14 r0_15 r0_17 r0_18 r0_19 S0 : va_W).set 0 (q0 0, .inr (11, List.set (.int (gi S0 0) :: .long (gl S0 1) :: .long (gl S0 2) :: r0_3 :: r0_4 :: .int (gi S0 5) :: r0_6 :: r0_7 :: .int (gi S0 8) :: .int (gi S0 9) :: r0_10 :: r0_11 :: r0_12 :: .int (gi S0 13) :: r0_14 :: r0_15 :: .int (gi S0 16) :: r0_17 :: r0_18 :: r0_19 :: []) 2 (.long v))) = w11 ca q0 r0_3 r0_4 r0_6 r0_7 r0_10 r0_11 r0_12 r0_14 r0_15 r0_17 r0_18 r0_19 (sl S0 2 v) := rfl
def fX11_tell  (S : ms_T) (a1 : Int64) (a3 : Int64) : Option (Int32 × ms_T) :=
  (fX11_commonDivisor a1 a3).bind fun z1 =>
  if (lg_cmp z1 (0 : Int64)) ≤ 0 then
    (fX11_grant S).bind fun z2 =>
    if z2.1 &&& 1 = z2.1 then
      some (z2.1, z2.2)
    else none
  else
    if ¬ z1 = 0 then
      if ¬ z1 = 0 then
        (fX11_grant (sl (sl S 1 (a1 / z1)) 2 (a3 / z1))).bind fun z3 =>
        if z3.1 &&& 1 = z3.1 then
          some (z3.1, z3.2)
        else none
      else none
    else none
abbrev rmX11_tell : Room := { frames := 1, cells := 0, slots := 0, locals := 30 }
theorem okX11_tell : tc_ok yX11_tell cX11_tell 7 (some .boolean) 2 := ⟨wc_X11_tell, wn_X11, by decide, by decide, by decide +kernel⟩
set_option maxRecDepth 20000 in
theorem mX11_tell {q : Nat → Nat} {rC3 : Value} {rC4 : Value} {rC6 : Value} {rC7 : Value} {rC10 : Value} {rC11 : Value} {rC12 : Value} {rC14 : Value} {rC15 : Value} {rC17 : Value} {rC18 : Value} {rC19 : Value} {S : ms_T} {a1 : Int64} {a3 : Int64} {z : Int32 × ms_T}  (hf : fX11_tell S a1 a3 = some z) : tc_MI l dC dI ca yX11_tell cX11_tell 7 (some .boolean) rmX11_tell [.ref (q 0), .long (a1), .long (a3)] (w11 ca q (rC3) (rC4) (rC6) (rC7) (rC10) (rC11) (rC12) (rC14) (rC15) (rC17) (rC18) (rC19) S) (w11 ca q (rC3) (rC4) (rC6) (rC7) (rC10) (rC11) (rC12) (rC14) (rC15) (rC17) (rC18) (rC19) z.2) (z.1) := by
  refine tc_metI (own := RX11) (by decide) rfl ?_ (Nat.le_of_ble_eq_true rfl)
  intro p e s m below meth c A X hP hD hS ls hl
  obtain ⟨hx, hb, hr, hml, hown, hts, hlk, hK, hA, hG⟩ := id X
  unfold fX11_tell at hf
  have hl : lv_has ls 7 [(0, .ref (q 0)), (1, .long (a1)), (3, .long (a3))] := hl
  refine lv_lload_n hx hb dX11_tell_0 rfl (lv_at hl 1 rfl) ?_
  refine lv_lload_n hx hb dX11_tell_1 rfl (lv_at hl 2 rfl) ?_
  obtain ⟨z1, hg, hf⟩ := tc_bi hf
  refine tc_lS0 (As := [.long (a1), .long (a3)]) (rest := []) X hP hD hS (mX11_commonDivisor hg) okX11_commonDivisor wl_X11_419 wt_X11_commonDivisor ⟨rfl, rfl, Nat.le_of_ble_eq_true rfl, Nat.le_of_ble_eq_true rfl⟩ rfl hl.1 (Nat.le_of_ble_eq_true rfl) dX11_tell_2 (fun H locs hP hD hS => ?_)
  refine lv_lstore (lv' := [(5, .long (z1)), (0, .ref (q 0)), (1, .long (a1)), (3, .long (a3))]) hx hb dX11_tell_5 hl (by decide) rfl (fun ls hl => ?_)
  refine lv_lload hx hb dX11_tell_7 (lv_at hl 0 rfl) ?_
  refine lv_lconst (v := (0 : Int64)) hx hb dX11_tell_9 (by decide) ?_
  refine W.lcmp hx hb dX11_tell_10 ?_
  refine lv_if_le (tgt := 30) hx hb dX11_tell_11 (by decide) (fun hc => ?_) (fun hc => ?_)
  · have hf := tc_pos hc hf
    refine lv_aload_n hx hb dX11_tell_30 rfl (lv_at hl 1 rfl) ?_
    obtain ⟨z2, hg, hf⟩ := tc_bi hf
    refine tc_iVs (As := []) (rest := []) (b := q 0) X hP hD hS (mX11_grant hg) okX11_grant wl_X11_109 wi_X11_grant ws_X11_X11_grant_X11_grant ⟨rfl, rfl, Nat.le_of_ble_eq_true rfl, Nat.le_of_ble_eq_true rfl⟩ 11 0 rfl rfl rfl hl.1 (Nat.le_of_ble_eq_true rfl) dX11_tell_31 (fun H locs hP hD hS => ?_)
    obtain ⟨hz1, hf⟩ := tc_ck hf
    obtain rfl := Option.some.inj hf
    exact tc_rz X hP hD hS rfl dX11_tell_34 hz1 rfl rfl
  · have hf := tc_neg hc hf
    refine lv_aload_n hx hb dX11_tell_14 rfl (lv_at hl 1 rfl) ?_
    refine lv_lload_n hx hb dX11_tell_15 rfl (lv_at hl 2 rfl) ?_
    refine lv_lload hx hb dX11_tell_16 (lv_at hl 0 rfl) ?_
    obtain ⟨hne, hf⟩ := tc_ck hf
    refine lv_ldiv hx hb dX11_tell_18 hne ?_
    refine va_put (D := (dC, dI)) (ci := 11) (v := .long (a1 / z1)) (ty := .long) (C := RX11) (T := TX11) (N := 20) hx hb hts i_X11 tyX11 tyX11_ok nmX11 hown hK hP hD hS 0 rfl rfl 1 (by decide) (hts _ wf_X11_95) (fun _ h9 => h9) rfl (tyX11_ok 1 (by decide)) rfl rfl (Nat.le_of_ble_eq_true rfl) dX11_tell_19 (fun H locs hP hD hS => ?_)
    have hP := tc_eP (pw11_0_1 ca q (rC3) (rC4) (rC6) (rC7) (rC10) (rC11) (rC12) (rC14) (rC15) (rC17) (rC18) (rC19) S (a1 / z1)) hP
    have hD := tc_eD (pw11_0_1 ca q (rC3) (rC4) (rC6) (rC7) (rC10) (rC11) (rC12) (rC14) (rC15) (rC17) (rC18) (rC19) S (a1 / z1)) hD
    refine lv_aload_n hx hb dX11_tell_22 rfl (lv_at hl 1 rfl) ?_
    refine lv_lload_n hx hb dX11_tell_23 rfl (lv_at hl 3 rfl) ?_
    refine lv_lload hx hb dX11_tell_24 (lv_at hl 0 rfl) ?_
    obtain ⟨hne, hf⟩ := tc_ck hf
    refine lv_ldiv hx hb dX11_tell_26 hne ?_
    refine va_put (D := (dC, dI)) (ci := 11) (v := .long (a3 / z1)) (ty := .long) (C := RX11) (T := TX11) (N := 20) hx hb hts i_X11 tyX11 tyX11_ok nmX11 hown hK hP hD hS 0 rfl rfl 2 (by decide) (hts _ wf_X11_81) (fun _ h9 => h9) rfl (tyX11_ok 2 (by decide)) rfl rfl (Nat.le_of_ble_eq_true rfl) dX11_tell_27 (fun H locs hP hD hS => ?_)
    have hP := tc_eP (pw11_0_2 ca q (rC3) (rC4) (rC6) (rC7) (rC10) (rC11) (rC12) (rC14) (rC15) (rC17) (rC18) (rC19) (sl S 1 (a1 / z1)) (a3 / z1)) hP
    have hD := tc_eD (pw11_0_2 ca q (rC3) (rC4) (rC6) (rC7) (rC10) (rC11) (rC12) (rC14) (rC15) (rC17) (rC18) (rC19) (sl S 1 (a1 / z1)) (a3 / z1)) hD
    refine lv_aload_n hx hb dX11_tell_30 rfl (lv_at hl 1 rfl) ?_
    obtain ⟨z3, hg, hf⟩ := tc_bi hf
    refine tc_iVs (As := []) (rest := []) (b := q 0) X hP hD hS (mX11_grant hg) okX11_grant wl_X11_109 wi_X11_grant ws_X11_X11_grant_X11_grant ⟨rfl, rfl, Nat.le_of_ble_eq_true rfl, Nat.le_of_ble_eq_true rfl⟩ 11 0 rfl rfl rfl hl.1 (Nat.le_of_ble_eq_true rfl) dX11_tell_31 (fun H locs hP hD hS => ?_)
    obtain ⟨hz1, hf⟩ := tc_ck hf
    obtain rfl := Option.some.inj hf
    exact tc_rz X hP hD hS rfl dX11_tell_34 hz1 rfl rfl
def fX11_oddsThat_28  (SP0 : ms_T) (ST0 : ms_T)  (SC : ms_T) (SW : ms_T) : Option (Int32 × ms_T × ms_T) :=
  (fX11_deny SC (2 : Int32)).bind fun z2 =>
  if z2.1 &&& 1 = z2.1 then
    some (z2.1, z2.2, SW)
  else none
def fX11_oddsThat  (SC : ms_T) (SP0 : ms_T) (ST0 : ms_T) (SW : ms_T) (a1 : Int32) (a2 : Int32) : Option (Int32 × ms_T × ms_T) :=
  (fX7_isHeight ST0 a1).bind fun z1 =>
  if z1 = 0 then
    fX11_oddsThat_28 SP0 ST0 SC SW
  else
    (fX7_isClaim ST0 a2).bind fun z3 =>
    if z3 = 0 then
      fX11_oddsThat_28 SP0 ST0 SC SW
    else
      (fX10_findEnds SW ST0).bind fun z4 =>
      (fX10_couples z4 ST0 a1).bind fun z5 =>
      if z5 = 0 then
        (fX11_deny SC (8 : Int32)).bind fun z8 =>
        if z8.1 &&& 1 = z8.1 then
          some (z8.1, z8.2, z4)
        else none
      else
        (fX10_couplesOf z4 a1 a2).bind fun z6 =>
        (fX11_tell SC z6.toInt64 z5.toInt64).bind fun z7 =>
        if z7.1 &&& 1 = z7.1 then
          some (z7.1, z7.2, z4)
        else none
abbrev rmX11_oddsThat : Room := { frames := 3, cells := 0, slots := 0, locals := 71 }
theorem okX11_oddsThat : tc_ok yX11_oddsThat cX11_oddsThat 4 (some .boolean) 2 := ⟨wc_X11_oddsThat, wn_X11, by decide, by decide, by decide +kernel⟩
set_option maxRecDepth 20000 in
theorem tX11_oddsThat_28 {qC : Nat → Nat} {qP0 : Nat → Nat} {qT0 : Nat → Nat} {qW : Nat → Nat} {rC3 : Value} {rC4 : Value} {rC6 : Value} {rC7 : Value} {rC11 : Value} {rC12 : Value} {rC14 : Value} {rC15 : Value} {rC18 : Value} {rC19 : Value} {rP01 : Value} {rW0 : Value} (X : tc_X dC dI ca A RX11 cX11_oddsThat 4 (some .boolean) p s m args meth c) (z : Int32 × ms_T × ms_T)  (SP0 : ms_T) (ST0 : ms_T)   : ∀ (SC : ms_T) (SW : ms_T), fX11_oddsThat_28 SP0 ST0 SC SW = some z → ∀ (H : Heap) (locs : List Loc) (ls : Array Slot), va_P (dC, dI) classes (w11 ca qC (rC3) (rC4) (rC6) (rC7) (.ref (qP0 0)) (rC11) (rC12) (rC14) (rC15) (.ref (qW 0)) (rC18) (rC19) SC ++ w6 ca qP0 (.ref (qT0 0)) (rP01) SP0 ++ w7 ca qT0 ST0 ++ w10 ca qW (rW0) SW) H → va_D A (w11 ca qC (rC3) (rC4) (rC6) (rC7) (.ref (qP0 0)) (rC11) (rC12) (rC14) (rC15) (.ref (qW 0)) (rC18) (rC19) SC ++ w6 ca qP0 (.ref (qT0 0)) (rP01) SP0 ++ w7 ca qT0 ST0 ++ w10 ca qW (rW0) SW) → va_S A s.heap H locs → lv_has ls 4 [(0, .ref (qC 0))] → W p l e rmX11_oddsThat s m args below meth c H locs 0 0 (MQ below (tc_QIx dC dI ca A (fun u => (w11 ca qC (rC3) (rC4) (rC6) (rC7) (.ref (qP0 0)) (rC11) (rC12) (rC14) (rC15) (.ref (qW 0)) (rC18) (rC19) z.2.1 ++ w6 ca qP0 (.ref (qT0 0)) (rP01) SP0 ++ w7 ca qT0 ST0 ++ w10 ca qW (u 0) z.2.2)) (z.1)) args s 0 0 A) (F0 m 28 ls []) := by
  obtain ⟨hx, hb, hr, hml, hown, hts, hlk, hK, hA, hG⟩ := id X
  intro SC SW hf H locs ls hP hD hS hl
  unfold fX11_oddsThat_28 at hf
  refine lv_aload_n hx hb dX11_oddsThat_28 rfl (lv_at hl 0 rfl) ?_
  refine lv_iconst (v := (2 : Int32)) hx hb dX11_oddsThat_29 (by decide) ?_
  obtain ⟨z2, hg, hf⟩ := tc_bi hf
  refine tc_iV (As := [.int ((2 : Int32))]) (rest := []) (b := qC 0) (wc := w11 ca qC (rC3) (rC4) (rC6) (rC7) (.ref (qP0 0)) (rC11) (rC12) (rC14) (rC15) (.ref (qW 0)) (rC18) (rC19) SC) (wr := w6 ca qP0 (.ref (qT0 0)) (rP01) SP0 ++ w7 ca qT0 ST0 ++ w10 ca qW (rW0) SW) X hP hD hS (mX11_deny hg) okX11_deny wl_X11_102 wi_X11_deny ws_X11_X11_deny_X11_deny ⟨rfl, rfl, Nat.le_of_ble_eq_true rfl, Nat.le_of_ble_eq_true rfl⟩ 11 0 rfl rfl [0] [1, 2, 3, 4, 5, 6, 7, 8, 9, 10, 11, 12, 13, 14, 15] ⟨rfl, rfl, rfl, rfl, by decide⟩ rfl hl.1 (Nat.le_of_ble_eq_true rfl) dX11_oddsThat_30 (fun H locs hP hD hS => ?_)
  have hP := hP.sub (ws' := (w11 ca qC (rC3) (rC4) (rC6) (rC7) (.ref (qP0 0)) (rC11) (rC12) (rC14) (rC15) (.ref (qW 0)) (rC18) (rC19) z2.2 ++ w6 ca qP0 (.ref (qT0 0)) (rP01) SP0 ++ w7 ca qT0 ST0 ++ w10 ca qW (rW0) SW)) [15, 0, 1, 2, 3, 4, 5, 6, 7, 8, 9, 10, 11, 12, 13, 14] rfl
  have hD := hD.sub (ws' := (w11 ca qC (rC3) (rC4) (rC6) (rC7) (.ref (qP0 0)) (rC11) (rC12) (rC14) (rC15) (.ref (qW 0)) (rC18) (rC19) z2.2 ++ w6 ca qP0 (.ref (qT0 0)) (rP01) SP0 ++ w7 ca qT0 ST0 ++ w10 ca qW (rW0) SW)) [15, 0, 1, 2, 3, 4, 5, 6, 7, 8, 9, 10, 11, 12, 13, 14] rfl rfl
  obtain ⟨hz1, hf⟩ := tc_ck hf
  obtain rfl := Option.some.inj hf
  exact tc_rzx X hP hD hS rfl dX11_oddsThat_33 hz1 (fun _ => rW0) rfl rfl
set_option maxRecDepth 20000 in
theorem mX11_oddsThat {qC : Nat → Nat} {qP0 : Nat → Nat} {qT0 : Nat → Nat} {qW : Nat → Nat} {rC3 : Value} {rC4 : Value} {rC6 : Value} {rC7 : Value} {rC11 : Value} {rC12 : Value} {rC14 : Value} {rC15 : Value} {rC18 : Value} {rC19 : Value} {rP01 : Value} {rW0 : Value} {SC : ms_T} {SP0 : ms_T} {ST0 : ms_T} {SW : ms_T} {a1 : Int32} {a2 : Int32} {z : Int32 × ms_T × ms_T}  (hf : fX11_oddsThat SC SP0 ST0 SW a1 a2 = some z) : tc_MIx l dC dI ca yX11_oddsThat cX11_oddsThat 4 (some .boolean) rmX11_oddsThat [.ref (qC 0), .int (a1), .int (a2)] (w11 ca qC (rC3) (rC4) (rC6) (rC7) (.ref (qP0 0)) (rC11) (rC12) (rC14) (rC15) (.ref (qW 0)) (rC18) (rC19) SC ++ w6 ca qP0 (.ref (qT0 0)) (rP01) SP0 ++ w7 ca qT0 ST0 ++ w10 ca qW (rW0) SW) (fun u => (w11 ca qC (rC3) (rC4) (rC6) (rC7) (.ref (qP0 0)) (rC11) (rC12) (rC14) (rC15) (.ref (qW 0)) (rC18) (rC19) z.2.1 ++ w6 ca qP0 (.ref (qT0 0)) (rP01) SP0 ++ w7 ca qT0 ST0 ++ w10 ca qW (u 0) z.2.2)) (z.1) := by
  refine tc_metIx (own := RX11) (by decide) rfl ?_ (Nat.le_of_ble_eq_true rfl)
  intro p e s m below meth c A X hP hD hS ls hl
  obtain ⟨hx, hb, hr, hml, hown, hts, hlk, hK, hA, hG⟩ := id X
  unfold fX11_oddsThat at hf
  have hl : lv_has ls 4 [(0, .ref (qC 0)), (1, .int (a1)), (2, .int (a2))] := hl
  refine lv_aload_n hx hb dX11_oddsThat_0 rfl (lv_at hl 0 rfl) ?_
  refine va_get (D := (dC, dI)) (ci := 11) (v := .ref (qP0 0)) (C := RX11) (T := TX11) (N := 20) hx hb hts i_X11 hown hK hP 0 rfl rfl 10 (by decide) (hts _ wf_X11_39) (fun _ h9 => h9) rfl dX11_oddsThat_1 ?_
  refine va_get (D := (dC, dI)) (ci := 6) (v := .ref (qT0 0)) (C := RX6) (T := TX6) (N := 2) hx hb hts i_X6 hown hK hP 1 rfl rfl 0 (by decide) (hts _ wf_X11_152) (fun _ h9 => h9) rfl dX11_oddsThat_4 ?_
  refine lv_iload_n hx hb dX11_oddsThat_7 rfl (lv_at hl 1 rfl) ?_
  obtain ⟨z1, hg, hf⟩ := tc_bi hf
  refine tc_iV (As := [.int (a1)]) (rest := []) (b := qT0 0) (wc := w7 ca qT0 ST0) (wr := w11 ca qC (rC3) (rC4) (rC6) (rC7) (.ref (qP0 0)) (rC11) (rC12) (rC14) (rC15) (.ref (qW 0)) (rC18) (rC19) SC ++ w6 ca qP0 (.ref (qT0 0)) (rP01) SP0 ++ w10 ca qW (rW0) SW) X hP hD hS (mX7_isHeight hg) okX7_isHeight wl_X11_289 wi_X7_isHeight ws_X7_X7_isHeight_X7_isHeight ⟨rfl, rfl, Nat.le_of_ble_eq_true rfl, Nat.le_of_ble_eq_true rfl⟩ 7 0 rfl rfl [2, 3, 4, 5, 6, 7, 8, 9, 10, 11, 12] [0, 1, 13, 14, 15] ⟨rfl, rfl, rfl, rfl, by decide⟩ rfl hl.1 (Nat.le_of_ble_eq_true rfl) dX11_oddsThat_8 (fun H locs hP hD hS => ?_)
  have hP := hP.sub (ws' := (w11 ca qC (rC3) (rC4) (rC6) (rC7) (.ref (qP0 0)) (rC11) (rC12) (rC14) (rC15) (.ref (qW 0)) (rC18) (rC19) SC ++ w6 ca qP0 (.ref (qT0 0)) (rP01) SP0 ++ w7 ca qT0 ST0 ++ w10 ca qW (rW0) SW)) [0, 1, 5, 6, 7, 8, 9, 10, 11, 12, 13, 14, 15, 2, 3, 4] rfl
  have hD := hD.sub (ws' := (w11 ca qC (rC3) (rC4) (rC6) (rC7) (.ref (qP0 0)) (rC11) (rC12) (rC14) (rC15) (.ref (qW 0)) (rC18) (rC19) SC ++ w6 ca qP0 (.ref (qT0 0)) (rP01) SP0 ++ w7 ca qT0 ST0 ++ w10 ca qW (rW0) SW)) [0, 1, 5, 6, 7, 8, 9, 10, 11, 12, 13, 14, 15, 2, 3, 4] rfl rfl
  refine lv_if_eq (tgt := 28) hx hb dX11_oddsThat_11 (by decide) (fun hc => ?_) (fun hc => ?_)
  · have hf := tc_pos hc hf
    exact tX11_oddsThat_28 X z SP0 ST0 SC SW hf _ _ _ hP hD hS (lv_sub hl [0] rfl)
  · have hf := tc_neg hc hf
    refine lv_aload_n hx hb dX11_oddsThat_14 rfl (lv_at hl 0 rfl) ?_
    refine va_get (D := (dC, dI)) (ci := 11) (v := .ref (qP0 0)) (C := RX11) (T := TX11) (N := 20) hx hb hts i_X11 hown hK hP 0 rfl rfl 10 (by decide) (hts _ wf_X11_39) (fun _ h9 => h9) rfl dX11_oddsThat_15 ?_
    refine va_get (D := (dC, dI)) (ci := 6) (v := .ref (qT0 0)) (C := RX6) (T := TX6) (N := 2) hx hb hts i_X6 hown hK hP 1 rfl rfl 0 (by decide) (hts _ wf_X11_152) (fun _ h9 => h9) rfl dX11_oddsThat_18 ?_
    refine lv_iload_n hx hb dX11_oddsThat_21 rfl (lv_at hl 2 rfl) ?_
    obtain ⟨z3, hg, hf⟩ := tc_bi hf
    refine tc_iV (As := [.int (a2)]) (rest := []) (b := qT0 0) (wc := w7 ca qT0 ST0) (wr := w11 ca qC (rC3) (rC4) (rC6) (rC7) (.ref (qP0 0)) (rC11) (rC12) (rC14) (rC15) (.ref (qW 0)) (rC18) (rC19) SC ++ w6 ca qP0 (.ref (qT0 0)) (rP01) SP0 ++ w10 ca qW (rW0) SW) X hP hD hS (mX7_isClaim hg) okX7_isClaim wl_X11_235 wi_X7_isClaim ws_X7_X7_isClaim_X7_isClaim ⟨rfl, rfl, Nat.le_of_ble_eq_true rfl, Nat.le_of_ble_eq_true rfl⟩ 7 0 rfl rfl [2, 3, 4, 5, 6, 7, 8, 9, 10, 11, 12] [0, 1, 13, 14, 15] ⟨rfl, rfl, rfl, rfl, by decide⟩ rfl hl.1 (Nat.le_of_ble_eq_true rfl) dX11_oddsThat_22 (fun H locs hP hD hS => ?_)
    have hP := hP.sub (ws' := (w11 ca qC (rC3) (rC4) (rC6) (rC7) (.ref (qP0 0)) (rC11) (rC12) (rC14) (rC15) (.ref (qW 0)) (rC18) (rC19) SC ++ w6 ca qP0 (.ref (qT0 0)) (rP01) SP0 ++ w7 ca qT0 ST0 ++ w10 ca qW (rW0) SW)) [0, 1, 5, 6, 7, 8, 9, 10, 11, 12, 13, 14, 15, 2, 3, 4] rfl
    have hD := hD.sub (ws' := (w11 ca qC (rC3) (rC4) (rC6) (rC7) (.ref (qP0 0)) (rC11) (rC12) (rC14) (rC15) (.ref (qW 0)) (rC18) (rC19) SC ++ w6 ca qP0 (.ref (qT0 0)) (rP01) SP0 ++ w7 ca qT0 ST0 ++ w10 ca qW (rW0) SW)) [0, 1, 5, 6, 7, 8, 9, 10, 11, 12, 13, 14, 15, 2, 3, 4] rfl rfl
    refine lv_if_ne (tgt := 34) hx hb dX11_oddsThat_25 (by decide) (fun hc => ?_) (fun hc => ?_)
    · have hf := tc_neg hc hf
      refine lv_aload_n hx hb dX11_oddsThat_34 rfl (lv_at hl 0 rfl) ?_
      refine va_get (D := (dC, dI)) (ci := 11) (v := .ref (qW 0)) (C := RX11) (T := TX11) (N := 20) hx hb hts i_X11 hown hK hP 0 rfl rfl 17 (by decide) (hts _ wf_X11_63) (fun _ h9 => h9) rfl dX11_oddsThat_35 ?_
      refine lv_aload_n hx hb dX11_oddsThat_38 rfl (lv_at hl 0 rfl) ?_
      refine va_get (D := (dC, dI)) (ci := 11) (v := .ref (qP0 0)) (C := RX11) (T := TX11) (N := 20) hx hb hts i_X11 hown hK hP 0 rfl rfl 10 (by decide) (hts _ wf_X11_39) (fun _ h9 => h9) rfl dX11_oddsThat_39 ?_
      refine va_get (D := (dC, dI)) (ci := 6) (v := .ref (qT0 0)) (C := RX6) (T := TX6) (N := 2) hx hb hts i_X6 hown hK hP 1 rfl rfl 0 (by decide) (hts _ wf_X11_152) (fun _ h9 => h9) rfl dX11_oddsThat_42 ?_
      obtain ⟨z4, hg, hf⟩ := tc_bi hf
      refine tc_vV (As := [.ref (qT0 0)]) (rest := []) (b := qW 0) (wc := w10 ca qW (rW0) SW ++ w7 ca qT0 ST0) (wr := w11 ca qC (rC3) (rC4) (rC6) (rC7) (.ref (qP0 0)) (rC11) (rC12) (rC14) (rC15) (.ref (qW 0)) (rC18) (rC19) SC ++ w6 ca qP0 (.ref (qT0 0)) (rP01) SP0) X hP hD hS (mX10_findEnds hg) okX10_findEnds wl_X11_319 wi_X10_findEnds ws_X10_X10_findEnds_X10_findEnds ⟨rfl, rfl, Nat.le_of_ble_eq_true rfl, Nat.le_of_ble_eq_true rfl⟩ 10 0 rfl rfl [13, 14, 15, 2, 3, 4, 5, 6, 7, 8, 9, 10, 11, 12] [0, 1] ⟨rfl, rfl, rfl, rfl, by decide⟩ rfl hl.1 (Nat.le_of_ble_eq_true rfl) dX11_oddsThat_45 (fun H locs hP hD hS => ?_)
      have hP := hP.sub (ws' := (w11 ca qC (rC3) (rC4) (rC6) (rC7) (.ref (qP0 0)) (rC11) (rC12) (rC14) (rC15) (.ref (qW 0)) (rC18) (rC19) SC ++ w6 ca qP0 (.ref (qT0 0)) (rP01) SP0 ++ w7 ca qT0 ST0 ++ w10 ca qW (.ref (qT0 0)) z4)) [0, 1, 5, 6, 7, 8, 9, 10, 11, 12, 13, 14, 15, 2, 3, 4] rfl
      have hD := hD.sub (ws' := (w11 ca qC (rC3) (rC4) (rC6) (rC7) (.ref (qP0 0)) (rC11) (rC12) (rC14) (rC15) (.ref (qW 0)) (rC18) (rC19) SC ++ w6 ca qP0 (.ref (qT0 0)) (rP01) SP0 ++ w7 ca qT0 ST0 ++ w10 ca qW (.ref (qT0 0)) z4)) [0, 1, 5, 6, 7, 8, 9, 10, 11, 12, 13, 14, 15, 2, 3, 4] rfl rfl
      refine lv_aload_n hx hb dX11_oddsThat_48 rfl (lv_at hl 0 rfl) ?_
      refine va_get (D := (dC, dI)) (ci := 11) (v := .ref (qW 0)) (C := RX11) (T := TX11) (N := 20) hx hb hts i_X11 hown hK hP 0 rfl rfl 17 (by decide) (hts _ wf_X11_63) (fun _ h9 => h9) rfl dX11_oddsThat_49 ?_
      refine lv_iload_n hx hb dX11_oddsThat_52 rfl (lv_at hl 1 rfl) ?_
      obtain ⟨z5, hg, hf⟩ := tc_bi hf
      refine tc_iV (As := [.int (a1)]) (rest := []) (b := qW 0) (wc := w10 ca qW (.ref (qT0 0)) z4 ++ w7 ca qT0 ST0) (wr := w11 ca qC (rC3) (rC4) (rC6) (rC7) (.ref (qP0 0)) (rC11) (rC12) (rC14) (rC15) (.ref (qW 0)) (rC18) (rC19) SC ++ w6 ca qP0 (.ref (qT0 0)) (rP01) SP0) X hP hD hS (mX10_couples hg) okX10_couples wl_X11_322 wi_X10_couples ws_X10_X10_couples_X10_couples ⟨rfl, rfl, Nat.le_of_ble_eq_true rfl, Nat.le_of_ble_eq_true rfl⟩ 10 0 rfl rfl [13, 14, 15, 2, 3, 4, 5, 6, 7, 8, 9, 10, 11, 12] [0, 1] ⟨rfl, rfl, rfl, rfl, by decide⟩ rfl hl.1 (Nat.le_of_ble_eq_true rfl) dX11_oddsThat_53 (fun H locs hP hD hS => ?_)
      have hP := hP.sub (ws' := (w11 ca qC (rC3) (rC4) (rC6) (rC7) (.ref (qP0 0)) (rC11) (rC12) (rC14) (rC15) (.ref (qW 0)) (rC18) (rC19) SC ++ w6 ca qP0 (.ref (qT0 0)) (rP01) SP0 ++ w7 ca qT0 ST0 ++ w10 ca qW (.ref (qT0 0)) z4)) [0, 1, 5, 6, 7, 8, 9, 10, 11, 12, 13, 14, 15, 2, 3, 4] rfl
      have hD := hD.sub (ws' := (w11 ca qC (rC3) (rC4) (rC6) (rC7) (.ref (qP0 0)) (rC11) (rC12) (rC14) (rC15) (.ref (qW 0)) (rC18) (rC19) SC ++ w6 ca qP0 (.ref (qT0 0)) (rP01) SP0 ++ w7 ca qT0 ST0 ++ w10 ca qW (.ref (qT0 0)) z4)) [0, 1, 5, 6, 7, 8, 9, 10, 11, 12, 13, 14, 15, 2, 3, 4] rfl rfl
      refine lv_istore_n (lv' := [(3, .int (z5)), (0, .ref (qC 0)), (1, .int (a1)), (2, .int (a2))]) hx hb dX11_oddsThat_56 rfl hl (by decide) rfl (fun ls hl => ?_)
      refine lv_iload_n hx hb dX11_oddsThat_57 rfl (lv_at hl 0 rfl) ?_
      refine lv_if_ne (tgt := 68) hx hb dX11_oddsThat_58 (by decide) (fun hc => ?_) (fun hc => ?_)
      · have hf := tc_neg hc hf
        refine lv_aload_n hx hb dX11_oddsThat_68 rfl (lv_at hl 1 rfl) ?_
        refine lv_aload_n hx hb dX11_oddsThat_69 rfl (lv_at hl 1 rfl) ?_
        refine va_get (D := (dC, dI)) (ci := 11) (v := .ref (qW 0)) (C := RX11) (T := TX11) (N := 20) hx hb hts i_X11 hown hK hP 0 rfl rfl 17 (by decide) (hts _ wf_X11_63) (fun _ h9 => h9) rfl dX11_oddsThat_70 ?_
        refine lv_iload_n hx hb dX11_oddsThat_73 rfl (lv_at hl 2 rfl) ?_
        refine lv_iload_n hx hb dX11_oddsThat_74 rfl (lv_at hl 3 rfl) ?_
        obtain ⟨z6, hg, hf⟩ := tc_bi hf
        refine tc_iV (As := [.int (a1), .int (a2)]) (rest := [.ref (qC 0)]) (b := qW 0) (wc := w10 ca qW (.ref (qT0 0)) z4) (wr := w11 ca qC (rC3) (rC4) (rC6) (rC7) (.ref (qP0 0)) (rC11) (rC12) (rC14) (rC15) (.ref (qW 0)) (rC18) (rC19) SC ++ w6 ca qP0 (.ref (qT0 0)) (rP01) SP0 ++ w7 ca qT0 ST0) X hP hD hS (mX10_couplesOf hg) okX10_couplesOf wl_X11_325 wi_X10_couplesOf ws_X10_X10_couplesOf_X10_couplesOf ⟨rfl, rfl, Nat.le_of_ble_eq_true rfl, Nat.le_of_ble_eq_true rfl⟩ 10 0 rfl rfl [13, 14, 15] [0, 1, 2, 3, 4, 5, 6, 7, 8, 9, 10, 11, 12] ⟨rfl, rfl, rfl, rfl, by decide⟩ rfl hl.1 (Nat.le_of_ble_eq_true rfl) dX11_oddsThat_75 (fun H locs hP hD hS => ?_)
        have hP := hP.sub (ws' := (w11 ca qC (rC3) (rC4) (rC6) (rC7) (.ref (qP0 0)) (rC11) (rC12) (rC14) (rC15) (.ref (qW 0)) (rC18) (rC19) SC ++ w6 ca qP0 (.ref (qT0 0)) (rP01) SP0 ++ w7 ca qT0 ST0 ++ w10 ca qW (.ref (qT0 0)) z4)) [0, 1, 2, 3, 4, 5, 6, 7, 8, 9, 10, 11, 12, 13, 14, 15] rfl
        have hD := hD.sub (ws' := (w11 ca qC (rC3) (rC4) (rC6) (rC7) (.ref (qP0 0)) (rC11) (rC12) (rC14) (rC15) (.ref (qW 0)) (rC18) (rC19) SC ++ w6 ca qP0 (.ref (qT0 0)) (rP01) SP0 ++ w7 ca qT0 ST0 ++ w10 ca qW (.ref (qT0 0)) z4)) [0, 1, 2, 3, 4, 5, 6, 7, 8, 9, 10, 11, 12, 13, 14, 15] rfl rfl
        refine lv_i2l (v := z6.toInt64) hx hb dX11_oddsThat_78 rfl ?_
        refine lv_iload_n hx hb dX11_oddsThat_79 rfl (lv_at hl 0 rfl) ?_
        refine lv_i2l (v := z5.toInt64) hx hb dX11_oddsThat_80 rfl ?_
        obtain ⟨z7, hg, hf⟩ := tc_bi hf
        refine tc_iV (As := [.long (z6.toInt64), .long (z5.toInt64)]) (rest := []) (b := qC 0) (wc := w11 ca qC (rC3) (rC4) (rC6) (rC7) (.ref (qP0 0)) (rC11) (rC12) (rC14) (rC15) (.ref (qW 0)) (rC18) (rC19) SC) (wr := w6 ca qP0 (.ref (qT0 0)) (rP01) SP0 ++ w7 ca qT0 ST0 ++ w10 ca qW (.ref (qT0 0)) z4) X hP hD hS (mX11_tell hg) okX11_tell wl_X11_328 wi_X11_tell ws_X11_X11_tell_X11_tell ⟨rfl, rfl, Nat.le_of_ble_eq_true rfl, Nat.le_of_ble_eq_true rfl⟩ 11 0 rfl rfl [0] [1, 2, 3, 4, 5, 6, 7, 8, 9, 10, 11, 12, 13, 14, 15] ⟨rfl, rfl, rfl, rfl, by decide⟩ rfl hl.1 (Nat.le_of_ble_eq_true rfl) dX11_oddsThat_81 (fun H locs hP hD hS => ?_)
        have hP := hP.sub (ws' := (w11 ca qC (rC3) (rC4) (rC6) (rC7) (.ref (qP0 0)) (rC11) (rC12) (rC14) (rC15) (.ref (qW 0)) (rC18) (rC19) z7.2 ++ w6 ca qP0 (.ref (qT0 0)) (rP01) SP0 ++ w7 ca qT0 ST0 ++ w10 ca qW (.ref (qT0 0)) z4)) [15, 0, 1, 2, 3, 4, 5, 6, 7, 8, 9, 10, 11, 12, 13, 14] rfl
        have hD := hD.sub (ws' := (w11 ca qC (rC3) (rC4) (rC6) (rC7) (.ref (qP0 0)) (rC11) (rC12) (rC14) (rC15) (.ref (qW 0)) (rC18) (rC19) z7.2 ++ w6 ca qP0 (.ref (qT0 0)) (rP01) SP0 ++ w7 ca qT0 ST0 ++ w10 ca qW (.ref (qT0 0)) z4)) [15, 0, 1, 2, 3, 4, 5, 6, 7, 8, 9, 10, 11, 12, 13, 14] rfl rfl
        obtain ⟨hz1, hf⟩ := tc_ck hf
        obtain rfl := Option.some.inj hf
        exact tc_rzx X hP hD hS rfl dX11_oddsThat_84 hz1 (fun _ => .ref (qT0 0)) rfl rfl
      · have hf := tc_pos hc hf
        refine lv_aload_n hx hb dX11_oddsThat_61 rfl (lv_at hl 1 rfl) ?_
        refine lv_bipush (v := (8 : Int32)) hx hb dX11_oddsThat_62 (by decide) ?_
        obtain ⟨z8, hg, hf⟩ := tc_bi hf
        refine tc_iV (As := [.int ((8 : Int32))]) (rest := []) (b := qC 0) (wc := w11 ca qC (rC3) (rC4) (rC6) (rC7) (.ref (qP0 0)) (rC11) (rC12) (rC14) (rC15) (.ref (qW 0)) (rC18) (rC19) SC) (wr := w6 ca qP0 (.ref (qT0 0)) (rP01) SP0 ++ w7 ca qT0 ST0 ++ w10 ca qW (.ref (qT0 0)) z4) X hP hD hS (mX11_deny hg) okX11_deny wl_X11_102 wi_X11_deny ws_X11_X11_deny_X11_deny ⟨rfl, rfl, Nat.le_of_ble_eq_true rfl, Nat.le_of_ble_eq_true rfl⟩ 11 0 rfl rfl [0] [1, 2, 3, 4, 5, 6, 7, 8, 9, 10, 11, 12, 13, 14, 15] ⟨rfl, rfl, rfl, rfl, by decide⟩ rfl hl.1 (Nat.le_of_ble_eq_true rfl) dX11_oddsThat_64 (fun H locs hP hD hS => ?_)
        have hP := hP.sub (ws' := (w11 ca qC (rC3) (rC4) (rC6) (rC7) (.ref (qP0 0)) (rC11) (rC12) (rC14) (rC15) (.ref (qW 0)) (rC18) (rC19) z8.2 ++ w6 ca qP0 (.ref (qT0 0)) (rP01) SP0 ++ w7 ca qT0 ST0 ++ w10 ca qW (.ref (qT0 0)) z4)) [15, 0, 1, 2, 3, 4, 5, 6, 7, 8, 9, 10, 11, 12, 13, 14] rfl
        have hD := hD.sub (ws' := (w11 ca qC (rC3) (rC4) (rC6) (rC7) (.ref (qP0 0)) (rC11) (rC12) (rC14) (rC15) (.ref (qW 0)) (rC18) (rC19) z8.2 ++ w6 ca qP0 (.ref (qT0 0)) (rP01) SP0 ++ w7 ca qT0 ST0 ++ w10 ca qW (.ref (qT0 0)) z4)) [15, 0, 1, 2, 3, 4, 5, 6, 7, 8, 9, 10, 11, 12, 13, 14] rfl rfl
        obtain ⟨hz1, hf⟩ := tc_ck hf
        obtain rfl := Option.some.inj hf
        exact tc_rzx X hP hD hS rfl dX11_oddsThat_67 hz1 (fun _ => .ref (qT0 0)) rfl rfl
    · have hf := tc_pos hc hf
      exact tX11_oddsThat_28 X z SP0 ST0 SC SW hf _ _ _ hP hD hS (lv_sub hl [0] rfl)
def fX11_lawStatus_52  (SC : ms_T) (SY0 : ms_T) (SY1 : ms_T) (SY2 : ms_T) (SY3 : ms_T)  : Nat → Int32 → Int32 → Option (Int32)
  | 0, _, _ => none
  | n + 1, v2, v4 =>
    if v2 ≤ v4 then
      some ((0 : Int32))
    else
      if inb ((2 : Int32) * v4) 60 = true then
        if inb (((2 : Int32) * v4) + (1 : Int32)) 60 = true then
          if (lg_cmp (la SY0 1 ((2 : Int32) * v4)) (1 : Int64)) < 0 then
            some ((5 : Int32))
          else
            if 0 < (lg_cmp (la SY0 1 ((2 : Int32) * v4)) (9 : Int64)) then
              some ((5 : Int32))
            else
              if (lg_cmp (la SY0 1 (((2 : Int32) * v4) + (1 : Int32))) (0 : Int64)) < 0 then
                some ((5 : Int32))
              else
                if (lg_cmp (la SY0 1 (((2 : Int32) * v4) + (1 : Int32))) (9 : Int64)) ≤ 0 then
                  fX11_lawStatus_52 SC SY0 SY1 SY2 SY3 n v2 (v4 + (1 : Int32))
                else
                  some ((5 : Int32))
        else none
      else none
def fX11_lawStatus_52_1  (SC : ms_T) (SY0 : ms_T) (SY1 : ms_T) (SY2 : ms_T) (SY3 : ms_T)  : Nat → Int32 → Int32 → Option (Int32)
  | 0, _, _ => none
  | n + 1, v2, v4 =>
    if v2 ≤ v4 then
      some ((0 : Int32))
    else
      if inb ((2 : Int32) * v4) 60 = true then
        if inb (((2 : Int32) * v4) + (1 : Int32)) 60 = true then
          if (lg_cmp (la SY1 1 ((2 : Int32) * v4)) (1 : Int64)) < 0 then
            some ((5 : Int32))
          else
            if 0 < (lg_cmp (la SY1 1 ((2 : Int32) * v4)) (9 : Int64)) then
              some ((5 : Int32))
            else
              if (lg_cmp (la SY1 1 (((2 : Int32) * v4) + (1 : Int32))) (0 : Int64)) < 0 then
                some ((5 : Int32))
              else
                if (lg_cmp (la SY1 1 (((2 : Int32) * v4) + (1 : Int32))) (9 : Int64)) ≤ 0 then
                  fX11_lawStatus_52_1 SC SY0 SY1 SY2 SY3 n v2 (v4 + (1 : Int32))
                else
                  some ((5 : Int32))
        else none
      else none
def fX11_lawStatus_52_2  (SC : ms_T) (SY0 : ms_T) (SY1 : ms_T) (SY2 : ms_T) (SY3 : ms_T)  : Nat → Int32 → Int32 → Option (Int32)
  | 0, _, _ => none
  | n + 1, v2, v4 =>
    if v2 ≤ v4 then
      some ((0 : Int32))
    else
      if inb ((2 : Int32) * v4) 60 = true then
        if inb (((2 : Int32) * v4) + (1 : Int32)) 60 = true then
          if (lg_cmp (la SY2 1 ((2 : Int32) * v4)) (1 : Int64)) < 0 then
            some ((5 : Int32))
          else
            if 0 < (lg_cmp (la SY2 1 ((2 : Int32) * v4)) (9 : Int64)) then
              some ((5 : Int32))
            else
              if (lg_cmp (la SY2 1 (((2 : Int32) * v4) + (1 : Int32))) (0 : Int64)) < 0 then
                some ((5 : Int32))
              else
                if (lg_cmp (la SY2 1 (((2 : Int32) * v4) + (1 : Int32))) (9 : Int64)) ≤ 0 then
                  fX11_lawStatus_52_2 SC SY0 SY1 SY2 SY3 n v2 (v4 + (1 : Int32))
                else
                  some ((5 : Int32))
        else none
      else none
def fX11_lawStatus_52_3  (SC : ms_T) (SY0 : ms_T) (SY1 : ms_T) (SY2 : ms_T) (SY3 : ms_T)  : Nat → Int32 → Int32 → Option (Int32)
  | 0, _, _ => none
  | n + 1, v2, v4 =>
    if v2 ≤ v4 then
      some ((0 : Int32))
    else
      if inb ((2 : Int32) * v4) 60 = true then
        if inb (((2 : Int32) * v4) + (1 : Int32)) 60 = true then
          if (lg_cmp (la SY3 1 ((2 : Int32) * v4)) (1 : Int64)) < 0 then
            some ((5 : Int32))
          else
            if 0 < (lg_cmp (la SY3 1 ((2 : Int32) * v4)) (9 : Int64)) then
              some ((5 : Int32))
            else
              if (lg_cmp (la SY3 1 (((2 : Int32) * v4) + (1 : Int32))) (0 : Int64)) < 0 then
                some ((5 : Int32))
              else
                if (lg_cmp (la SY3 1 (((2 : Int32) * v4) + (1 : Int32))) (9 : Int64)) ≤ 0 then
                  fX11_lawStatus_52_3 SC SY0 SY1 SY2 SY3 n v2 (v4 + (1 : Int32))
                else
                  some ((5 : Int32))
        else none
      else none
def fX11_lawStatus  (SC : ms_T) (SY0 : ms_T) (SY1 : ms_T) (SY2 : ms_T) (SY3 : ms_T) (a1 : Int32) (a2 : Int32) : Option (Int32) :=
  (fX11_isTray a1).bind fun z1 =>
  if z1 = 0 then
    some ((1 : Int32))
  else
    if a1 = (0 : Int32) then
      (fX9_isMissing SY0).bind fun z3 =>
      if z3 = 0 then
        if a2 ≤ ((gi SY0 2) / (2 : Int32)) then
          if a2 < 0 then
            some ((5 : Int32))
          else
            if a2 ≤ (20 : Int32) then
              fX11_lawStatus_52 SC SY0 SY1 SY2 SY3 FU a2 (0 : Int32)
            else
              some ((5 : Int32))
        else
          some ((4 : Int32))
      else
        some ((3 : Int32))
    else
      if a1 = (1 : Int32) then
        (fX9_isMissing SY1).bind fun z6 =>
        if z6 = 0 then
          if a2 ≤ ((gi SY1 2) / (2 : Int32)) then
            if a2 < 0 then
              some ((5 : Int32))
            else
              if a2 ≤ (20 : Int32) then
                fX11_lawStatus_52_1 SC SY0 SY1 SY2 SY3 FU a2 (0 : Int32)
              else
                some ((5 : Int32))
          else
            some ((4 : Int32))
        else
          some ((3 : Int32))
      else
        if a1 = (2 : Int32) then
          (fX9_isMissing SY2).bind fun z9 =>
          if z9 = 0 then
            if a2 ≤ ((gi SY2 2) / (2 : Int32)) then
              if a2 < 0 then
                some ((5 : Int32))
              else
                if a2 ≤ (20 : Int32) then
                  fX11_lawStatus_52_2 SC SY0 SY1 SY2 SY3 FU a2 (0 : Int32)
                else
                  some ((5 : Int32))
            else
              some ((4 : Int32))
          else
            some ((3 : Int32))
        else
          if a1 = (3 : Int32) then
            (fX9_isMissing SY3).bind fun z12 =>
            if z12 = 0 then
              if a2 ≤ ((gi SY3 2) / (2 : Int32)) then
                if a2 < 0 then
                  some ((5 : Int32))
                else
                  if a2 ≤ (20 : Int32) then
                    fX11_lawStatus_52_3 SC SY0 SY1 SY2 SY3 FU a2 (0 : Int32)
                  else
                    some ((5 : Int32))
              else
                some ((4 : Int32))
            else
              some ((3 : Int32))
          else
            none
abbrev rmX11_lawStatus : Room := { frames := 1, cells := 0, slots := 0, locals := 20 }
theorem okX11_lawStatus : tc_ok yX11_lawStatus cX11_lawStatus 9 (some .int) 2 := ⟨wc_X11_lawStatus, wn_X11, by decide, by decide, by decide +kernel⟩
set_option maxRecDepth 20000 in
theorem tX11_lawStatus_52 {qC : Nat → Nat} {qA : Nat → Nat} {qY0 : Nat → Nat} {qY1 : Nat → Nat} {qY2 : Nat → Nat} {qY3 : Nat → Nat} {rC4 : Value} {rC6 : Value} {rC7 : Value} {rC10 : Value} {rC11 : Value} {rC12 : Value} {rC14 : Value} {rC15 : Value} {rC17 : Value} {rC18 : Value} {rC19 : Value} (X : tc_X dC dI ca A RX11 cX11_lawStatus 9 (some .int) p s m args meth c) (z : Int32)  (SC : ms_T) (SY0 : ms_T) (SY1 : ms_T) (SY2 : ms_T) (SY3 : ms_T)   : ∀ n : Nat, ∀ (v2 : Int32) (v4 : Int32), fX11_lawStatus_52 SC SY0 SY1 SY2 SY3 n v2 v4 = some z → ∀ (H : Heap) (locs : List Loc) (ls : Array Slot), va_P (dC, dI) classes (w11 ca qC (.ref (qA 0)) (rC4) (rC6) (rC7) (rC10) (rC11) (rC12) (rC14) (rC15) (rC17) (rC18) (rC19) SC ++ wLT ca qA (rf4 (qY0 0) (qY1 0) (qY2 0) (qY3 0)) ++ w9 ca qY0 SY0 ++ w9 ca qY1 SY1 ++ w9 ca qY2 SY2 ++ w9 ca qY3 SY3) H → va_D A (w11 ca qC (.ref (qA 0)) (rC4) (rC6) (rC7) (rC10) (rC11) (rC12) (rC14) (rC15) (rC17) (rC18) (rC19) SC ++ wLT ca qA (rf4 (qY0 0) (qY1 0) (qY2 0) (qY3 0)) ++ w9 ca qY0 SY0 ++ w9 ca qY1 SY1 ++ w9 ca qY2 SY2 ++ w9 ca qY3 SY3) → va_S A s.heap H locs → lv_has ls 9 [(2, .int (v2)), (3, .ref (qY0 0)), (4, .int (v4))] → W p l e rmX11_lawStatus s m args below meth c H locs 0 0 (MQ below (tc_QI dC dI ca A (w11 ca qC (.ref (qA 0)) (rC4) (rC6) (rC7) (rC10) (rC11) (rC12) (rC14) (rC15) (rC17) (rC18) (rC19) SC ++ wLT ca qA (rf4 (qY0 0) (qY1 0) (qY2 0) (qY3 0)) ++ w9 ca qY0 SY0 ++ w9 ca qY1 SY1 ++ w9 ca qY2 SY2 ++ w9 ca qY3 SY3) (z)) args s 0 0 A) (F0 m 52 ls []) := by
  obtain ⟨hx, hb, hr, hml, hown, hts, hlk, hK, hA, hG⟩ := id X
  intro n
  induction n with
  | zero => intro v2 v4 hf; exact absurd (show none = some z from hf) (fun h => by cases h)
  | succ n ih =>
    intro v2 v4 hf H locs ls hP hD hS hl
    rw [fX11_lawStatus_52] at hf
    refine lv_iload hx hb dX11_lawStatus_52 (lv_at hl 2 rfl) ?_
    refine lv_iload_n hx hb dX11_lawStatus_54 rfl (lv_at hl 0 rfl) ?_
    refine lv_icmp_ge (tgt := 122) hx hb dX11_lawStatus_55 (by decide) (fun hc => ?_) (fun hc => ?_)
    · have hf := tc_pos hc hf
      refine lv_iconst (v := (0 : Int32)) hx hb dX11_lawStatus_122 (by decide) ?_
      obtain rfl := Option.some.inj hf
      exact tc_ri X hP hD hS rfl dX11_lawStatus_123 rfl rfl
    · have hf := tc_neg hc hf
      refine lv_aload_n hx hb dX11_lawStatus_58 rfl (lv_at hl 1 rfl) ?_
      refine va_get (D := (dC, dI)) (ci := 9) (v := .ref (qY0 1)) (C := RX9) (T := TX9) (N := 3) hx hb hts i_X9 hown hK hP 2 rfl rfl 0 (by decide) (hts _ wf_X11_125) (fun _ h9 => h9) rfl dX11_lawStatus_59 ?_
      refine lv_iconst (v := (2 : Int32)) hx hb dX11_lawStatus_62 (by decide) ?_
      refine lv_iload hx hb dX11_lawStatus_63 (lv_at hl 2 rfl) ?_
      refine lv_imul hx hb dX11_lawStatus_65 ?_
      obtain ⟨hi4, hf⟩ := tc_in hf
      refine va_lald hx hb hK hP 3 2 rfl rfl hi4 dX11_lawStatus_66 ?_
      refine lv_lstore (lv' := [(5, .long (la SY0 1 ((2 : Int32) * v4))), (2, .int (v2)), (3, .ref (qY0 0)), (4, .int (v4))]) hx hb dX11_lawStatus_67 hl (by decide) rfl (fun ls hl => ?_)
      refine lv_aload_n hx hb dX11_lawStatus_69 rfl (lv_at hl 2 rfl) ?_
      refine va_get (D := (dC, dI)) (ci := 9) (v := .ref (qY0 1)) (C := RX9) (T := TX9) (N := 3) hx hb hts i_X9 hown hK hP 2 rfl rfl 0 (by decide) (hts _ wf_X11_125) (fun _ h9 => h9) rfl dX11_lawStatus_70 ?_
      refine lv_iconst (v := (2 : Int32)) hx hb dX11_lawStatus_73 (by decide) ?_
      refine lv_iload hx hb dX11_lawStatus_74 (lv_at hl 3 rfl) ?_
      refine lv_imul hx hb dX11_lawStatus_76 ?_
      refine lv_iconst (v := (1 : Int32)) hx hb dX11_lawStatus_77 (by decide) ?_
      refine lv_iadd hx hb dX11_lawStatus_78 ?_
      obtain ⟨hi5, hf⟩ := tc_in hf
      refine va_lald hx hb hK hP 3 2 rfl rfl hi5 dX11_lawStatus_79 ?_
      refine lv_lstore (lv' := [(7, .long (la SY0 1 (((2 : Int32) * v4) + (1 : Int32)))), (5, .long (la SY0 1 ((2 : Int32) * v4))), (2, .int (v2)), (3, .ref (qY0 0)), (4, .int (v4))]) hx hb dX11_lawStatus_80 hl (by decide) rfl (fun ls hl => ?_)
      refine lv_lload hx hb dX11_lawStatus_82 (lv_at hl 1 rfl) ?_
      refine lv_lconst (v := (1 : Int64)) hx hb dX11_lawStatus_84 (by decide) ?_
      refine W.lcmp hx hb dX11_lawStatus_85 ?_
      refine lv_if_lt (tgt := 114) hx hb dX11_lawStatus_86 (by decide) (fun hc => ?_) (fun hc => ?_)
      · have hf := tc_pos hc hf
        refine lv_iconst (v := (5 : Int32)) hx hb dX11_lawStatus_114 (by decide) ?_
        obtain rfl := Option.some.inj hf
        exact tc_ri X hP hD hS rfl dX11_lawStatus_115 rfl rfl
      · have hf := tc_neg hc hf
        refine lv_lload hx hb dX11_lawStatus_89 (lv_at hl 1 rfl) ?_
        refine lv_ldc2 (v := (9 : Int64)) hx hb hown (hts _ wk_X11_429) dX11_lawStatus_91 ?_
        refine W.lcmp hx hb dX11_lawStatus_94 ?_
        refine lv_if_gt (tgt := 114) hx hb dX11_lawStatus_95 (by decide) (fun hc => ?_) (fun hc => ?_)
        · have hf := tc_pos hc hf
          refine lv_iconst (v := (5 : Int32)) hx hb dX11_lawStatus_114 (by decide) ?_
          obtain rfl := Option.some.inj hf
          exact tc_ri X hP hD hS rfl dX11_lawStatus_115 rfl rfl
        · have hf := tc_neg hc hf
          refine lv_lload hx hb dX11_lawStatus_98 (lv_at hl 0 rfl) ?_
          refine lv_lconst (v := (0 : Int64)) hx hb dX11_lawStatus_100 (by decide) ?_
          refine W.lcmp hx hb dX11_lawStatus_101 ?_
          refine lv_if_lt (tgt := 114) hx hb dX11_lawStatus_102 (by decide) (fun hc => ?_) (fun hc => ?_)
          · have hf := tc_pos hc hf
            refine lv_iconst (v := (5 : Int32)) hx hb dX11_lawStatus_114 (by decide) ?_
            obtain rfl := Option.some.inj hf
            exact tc_ri X hP hD hS rfl dX11_lawStatus_115 rfl rfl
          · have hf := tc_neg hc hf
            refine lv_lload hx hb dX11_lawStatus_105 (lv_at hl 0 rfl) ?_
            refine lv_ldc2 (v := (9 : Int64)) hx hb hown (hts _ wk_X11_429) dX11_lawStatus_107 ?_
            refine W.lcmp hx hb dX11_lawStatus_110 ?_
            refine lv_if_le (tgt := 116) hx hb dX11_lawStatus_111 (by decide) (fun hc => ?_) (fun hc => ?_)
            · have hf := tc_pos hc hf
              refine lv_iinc (v := v4 + (1 : Int32)) (lv' := [(4, .int (v4 + (1 : Int32))), (7, .long (la SY0 1 (((2 : Int32) * v4) + (1 : Int32)))), (5, .long (la SY0 1 ((2 : Int32) * v4))), (2, .int (v2)), (3, .ref (qY0 0))]) hx hb dX11_lawStatus_116 hl (k := 4) rfl rfl (by decide) rfl (fun ls hl => ?_)
              refine lv_goto (tgt := 52) hx hb dX11_lawStatus_119 (by decide) ?_
              exact ih v2 (v4 + (1 : Int32)) hf _ _ _ hP hD hS (lv_sub hl [3, 4, 0] rfl)
            · have hf := tc_neg hc hf
              refine lv_iconst (v := (5 : Int32)) hx hb dX11_lawStatus_114 (by decide) ?_
              obtain rfl := Option.some.inj hf
              exact tc_ri X hP hD hS rfl dX11_lawStatus_115 rfl rfl
set_option maxRecDepth 20000 in
theorem tX11_lawStatus_52_1 {qC : Nat → Nat} {qA : Nat → Nat} {qY0 : Nat → Nat} {qY1 : Nat → Nat} {qY2 : Nat → Nat} {qY3 : Nat → Nat} {rC4 : Value} {rC6 : Value} {rC7 : Value} {rC10 : Value} {rC11 : Value} {rC12 : Value} {rC14 : Value} {rC15 : Value} {rC17 : Value} {rC18 : Value} {rC19 : Value} (X : tc_X dC dI ca A RX11 cX11_lawStatus 9 (some .int) p s m args meth c) (z : Int32)  (SC : ms_T) (SY0 : ms_T) (SY1 : ms_T) (SY2 : ms_T) (SY3 : ms_T)   : ∀ n : Nat, ∀ (v2 : Int32) (v4 : Int32), fX11_lawStatus_52_1 SC SY0 SY1 SY2 SY3 n v2 v4 = some z → ∀ (H : Heap) (locs : List Loc) (ls : Array Slot), va_P (dC, dI) classes (w11 ca qC (.ref (qA 0)) (rC4) (rC6) (rC7) (rC10) (rC11) (rC12) (rC14) (rC15) (rC17) (rC18) (rC19) SC ++ wLT ca qA (rf4 (qY0 0) (qY1 0) (qY2 0) (qY3 0)) ++ w9 ca qY0 SY0 ++ w9 ca qY1 SY1 ++ w9 ca qY2 SY2 ++ w9 ca qY3 SY3) H → va_D A (w11 ca qC (.ref (qA 0)) (rC4) (rC6) (rC7) (rC10) (rC11) (rC12) (rC14) (rC15) (rC17) (rC18) (rC19) SC ++ wLT ca qA (rf4 (qY0 0) (qY1 0) (qY2 0) (qY3 0)) ++ w9 ca qY0 SY0 ++ w9 ca qY1 SY1 ++ w9 ca qY2 SY2 ++ w9 ca qY3 SY3) → va_S A s.heap H locs → lv_has ls 9 [(2, .int (v2)), (3, .ref (qY1 0)), (4, .int (v4))] → W p l e rmX11_lawStatus s m args below meth c H locs 0 0 (MQ below (tc_QI dC dI ca A (w11 ca qC (.ref (qA 0)) (rC4) (rC6) (rC7) (rC10) (rC11) (rC12) (rC14) (rC15) (rC17) (rC18) (rC19) SC ++ wLT ca qA (rf4 (qY0 0) (qY1 0) (qY2 0) (qY3 0)) ++ w9 ca qY0 SY0 ++ w9 ca qY1 SY1 ++ w9 ca qY2 SY2 ++ w9 ca qY3 SY3) (z)) args s 0 0 A) (F0 m 52 ls []) := by
  obtain ⟨hx, hb, hr, hml, hown, hts, hlk, hK, hA, hG⟩ := id X
  intro n
  induction n with
  | zero => intro v2 v4 hf; exact absurd (show none = some z from hf) (fun h => by cases h)
  | succ n ih =>
    intro v2 v4 hf H locs ls hP hD hS hl
    rw [fX11_lawStatus_52_1] at hf
    refine lv_iload hx hb dX11_lawStatus_52 (lv_at hl 2 rfl) ?_
    refine lv_iload_n hx hb dX11_lawStatus_54 rfl (lv_at hl 0 rfl) ?_
    refine lv_icmp_ge (tgt := 122) hx hb dX11_lawStatus_55 (by decide) (fun hc => ?_) (fun hc => ?_)
    · have hf := tc_pos hc hf
      refine lv_iconst (v := (0 : Int32)) hx hb dX11_lawStatus_122 (by decide) ?_
      obtain rfl := Option.some.inj hf
      exact tc_ri X hP hD hS rfl dX11_lawStatus_123 rfl rfl
    · have hf := tc_neg hc hf
      refine lv_aload_n hx hb dX11_lawStatus_58 rfl (lv_at hl 1 rfl) ?_
      refine va_get (D := (dC, dI)) (ci := 9) (v := .ref (qY1 1)) (C := RX9) (T := TX9) (N := 3) hx hb hts i_X9 hown hK hP 4 rfl rfl 0 (by decide) (hts _ wf_X11_125) (fun _ h9 => h9) rfl dX11_lawStatus_59 ?_
      refine lv_iconst (v := (2 : Int32)) hx hb dX11_lawStatus_62 (by decide) ?_
      refine lv_iload hx hb dX11_lawStatus_63 (lv_at hl 2 rfl) ?_
      refine lv_imul hx hb dX11_lawStatus_65 ?_
      obtain ⟨hi7, hf⟩ := tc_in hf
      refine va_lald hx hb hK hP 5 2 rfl rfl hi7 dX11_lawStatus_66 ?_
      refine lv_lstore (lv' := [(5, .long (la SY1 1 ((2 : Int32) * v4))), (2, .int (v2)), (3, .ref (qY1 0)), (4, .int (v4))]) hx hb dX11_lawStatus_67 hl (by decide) rfl (fun ls hl => ?_)
      refine lv_aload_n hx hb dX11_lawStatus_69 rfl (lv_at hl 2 rfl) ?_
      refine va_get (D := (dC, dI)) (ci := 9) (v := .ref (qY1 1)) (C := RX9) (T := TX9) (N := 3) hx hb hts i_X9 hown hK hP 4 rfl rfl 0 (by decide) (hts _ wf_X11_125) (fun _ h9 => h9) rfl dX11_lawStatus_70 ?_
      refine lv_iconst (v := (2 : Int32)) hx hb dX11_lawStatus_73 (by decide) ?_
      refine lv_iload hx hb dX11_lawStatus_74 (lv_at hl 3 rfl) ?_
      refine lv_imul hx hb dX11_lawStatus_76 ?_
      refine lv_iconst (v := (1 : Int32)) hx hb dX11_lawStatus_77 (by decide) ?_
      refine lv_iadd hx hb dX11_lawStatus_78 ?_
      obtain ⟨hi8, hf⟩ := tc_in hf
      refine va_lald hx hb hK hP 5 2 rfl rfl hi8 dX11_lawStatus_79 ?_
      refine lv_lstore (lv' := [(7, .long (la SY1 1 (((2 : Int32) * v4) + (1 : Int32)))), (5, .long (la SY1 1 ((2 : Int32) * v4))), (2, .int (v2)), (3, .ref (qY1 0)), (4, .int (v4))]) hx hb dX11_lawStatus_80 hl (by decide) rfl (fun ls hl => ?_)
      refine lv_lload hx hb dX11_lawStatus_82 (lv_at hl 1 rfl) ?_
      refine lv_lconst (v := (1 : Int64)) hx hb dX11_lawStatus_84 (by decide) ?_
      refine W.lcmp hx hb dX11_lawStatus_85 ?_
      refine lv_if_lt (tgt := 114) hx hb dX11_lawStatus_86 (by decide) (fun hc => ?_) (fun hc => ?_)
      · have hf := tc_pos hc hf
        refine lv_iconst (v := (5 : Int32)) hx hb dX11_lawStatus_114 (by decide) ?_
        obtain rfl := Option.some.inj hf
        exact tc_ri X hP hD hS rfl dX11_lawStatus_115 rfl rfl
      · have hf := tc_neg hc hf
        refine lv_lload hx hb dX11_lawStatus_89 (lv_at hl 1 rfl) ?_
        refine lv_ldc2 (v := (9 : Int64)) hx hb hown (hts _ wk_X11_429) dX11_lawStatus_91 ?_
        refine W.lcmp hx hb dX11_lawStatus_94 ?_
        refine lv_if_gt (tgt := 114) hx hb dX11_lawStatus_95 (by decide) (fun hc => ?_) (fun hc => ?_)
        · have hf := tc_pos hc hf
          refine lv_iconst (v := (5 : Int32)) hx hb dX11_lawStatus_114 (by decide) ?_
          obtain rfl := Option.some.inj hf
          exact tc_ri X hP hD hS rfl dX11_lawStatus_115 rfl rfl
        · have hf := tc_neg hc hf
          refine lv_lload hx hb dX11_lawStatus_98 (lv_at hl 0 rfl) ?_
          refine lv_lconst (v := (0 : Int64)) hx hb dX11_lawStatus_100 (by decide) ?_
          refine W.lcmp hx hb dX11_lawStatus_101 ?_
          refine lv_if_lt (tgt := 114) hx hb dX11_lawStatus_102 (by decide) (fun hc => ?_) (fun hc => ?_)
          · have hf := tc_pos hc hf
            refine lv_iconst (v := (5 : Int32)) hx hb dX11_lawStatus_114 (by decide) ?_
            obtain rfl := Option.some.inj hf
            exact tc_ri X hP hD hS rfl dX11_lawStatus_115 rfl rfl
          · have hf := tc_neg hc hf
            refine lv_lload hx hb dX11_lawStatus_105 (lv_at hl 0 rfl) ?_
            refine lv_ldc2 (v := (9 : Int64)) hx hb hown (hts _ wk_X11_429) dX11_lawStatus_107 ?_
            refine W.lcmp hx hb dX11_lawStatus_110 ?_
            refine lv_if_le (tgt := 116) hx hb dX11_lawStatus_111 (by decide) (fun hc => ?_) (fun hc => ?_)
            · have hf := tc_pos hc hf
              refine lv_iinc (v := v4 + (1 : Int32)) (lv' := [(4, .int (v4 + (1 : Int32))), (7, .long (la SY1 1 (((2 : Int32) * v4) + (1 : Int32)))), (5, .long (la SY1 1 ((2 : Int32) * v4))), (2, .int (v2)), (3, .ref (qY1 0))]) hx hb dX11_lawStatus_116 hl (k := 4) rfl rfl (by decide) rfl (fun ls hl => ?_)
              refine lv_goto (tgt := 52) hx hb dX11_lawStatus_119 (by decide) ?_
              exact ih v2 (v4 + (1 : Int32)) hf _ _ _ hP hD hS (lv_sub hl [3, 4, 0] rfl)
            · have hf := tc_neg hc hf
              refine lv_iconst (v := (5 : Int32)) hx hb dX11_lawStatus_114 (by decide) ?_
              obtain rfl := Option.some.inj hf
              exact tc_ri X hP hD hS rfl dX11_lawStatus_115 rfl rfl
set_option maxRecDepth 20000 in
theorem tX11_lawStatus_52_2 {qC : Nat → Nat} {qA : Nat → Nat} {qY0 : Nat → Nat} {qY1 : Nat → Nat} {qY2 : Nat → Nat} {qY3 : Nat → Nat} {rC4 : Value} {rC6 : Value} {rC7 : Value} {rC10 : Value} {rC11 : Value} {rC12 : Value} {rC14 : Value} {rC15 : Value} {rC17 : Value} {rC18 : Value} {rC19 : Value} (X : tc_X dC dI ca A RX11 cX11_lawStatus 9 (some .int) p s m args meth c) (z : Int32)  (SC : ms_T) (SY0 : ms_T) (SY1 : ms_T) (SY2 : ms_T) (SY3 : ms_T)   : ∀ n : Nat, ∀ (v2 : Int32) (v4 : Int32), fX11_lawStatus_52_2 SC SY0 SY1 SY2 SY3 n v2 v4 = some z → ∀ (H : Heap) (locs : List Loc) (ls : Array Slot), va_P (dC, dI) classes (w11 ca qC (.ref (qA 0)) (rC4) (rC6) (rC7) (rC10) (rC11) (rC12) (rC14) (rC15) (rC17) (rC18) (rC19) SC ++ wLT ca qA (rf4 (qY0 0) (qY1 0) (qY2 0) (qY3 0)) ++ w9 ca qY0 SY0 ++ w9 ca qY1 SY1 ++ w9 ca qY2 SY2 ++ w9 ca qY3 SY3) H → va_D A (w11 ca qC (.ref (qA 0)) (rC4) (rC6) (rC7) (rC10) (rC11) (rC12) (rC14) (rC15) (rC17) (rC18) (rC19) SC ++ wLT ca qA (rf4 (qY0 0) (qY1 0) (qY2 0) (qY3 0)) ++ w9 ca qY0 SY0 ++ w9 ca qY1 SY1 ++ w9 ca qY2 SY2 ++ w9 ca qY3 SY3) → va_S A s.heap H locs → lv_has ls 9 [(2, .int (v2)), (3, .ref (qY2 0)), (4, .int (v4))] → W p l e rmX11_lawStatus s m args below meth c H locs 0 0 (MQ below (tc_QI dC dI ca A (w11 ca qC (.ref (qA 0)) (rC4) (rC6) (rC7) (rC10) (rC11) (rC12) (rC14) (rC15) (rC17) (rC18) (rC19) SC ++ wLT ca qA (rf4 (qY0 0) (qY1 0) (qY2 0) (qY3 0)) ++ w9 ca qY0 SY0 ++ w9 ca qY1 SY1 ++ w9 ca qY2 SY2 ++ w9 ca qY3 SY3) (z)) args s 0 0 A) (F0 m 52 ls []) := by
  obtain ⟨hx, hb, hr, hml, hown, hts, hlk, hK, hA, hG⟩ := id X
  intro n
  induction n with
  | zero => intro v2 v4 hf; exact absurd (show none = some z from hf) (fun h => by cases h)
  | succ n ih =>
    intro v2 v4 hf H locs ls hP hD hS hl
    rw [fX11_lawStatus_52_2] at hf
    refine lv_iload hx hb dX11_lawStatus_52 (lv_at hl 2 rfl) ?_
    refine lv_iload_n hx hb dX11_lawStatus_54 rfl (lv_at hl 0 rfl) ?_
    refine lv_icmp_ge (tgt := 122) hx hb dX11_lawStatus_55 (by decide) (fun hc => ?_) (fun hc => ?_)
    · have hf := tc_pos hc hf
      refine lv_iconst (v := (0 : Int32)) hx hb dX11_lawStatus_122 (by decide) ?_
      obtain rfl := Option.some.inj hf
      exact tc_ri X hP hD hS rfl dX11_lawStatus_123 rfl rfl
    · have hf := tc_neg hc hf
      refine lv_aload_n hx hb dX11_lawStatus_58 rfl (lv_at hl 1 rfl) ?_
      refine va_get (D := (dC, dI)) (ci := 9) (v := .ref (qY2 1)) (C := RX9) (T := TX9) (N := 3) hx hb hts i_X9 hown hK hP 6 rfl rfl 0 (by decide) (hts _ wf_X11_125) (fun _ h9 => h9) rfl dX11_lawStatus_59 ?_
      refine lv_iconst (v := (2 : Int32)) hx hb dX11_lawStatus_62 (by decide) ?_
      refine lv_iload hx hb dX11_lawStatus_63 (lv_at hl 2 rfl) ?_
      refine lv_imul hx hb dX11_lawStatus_65 ?_
      obtain ⟨hi10, hf⟩ := tc_in hf
      refine va_lald hx hb hK hP 7 2 rfl rfl hi10 dX11_lawStatus_66 ?_
      refine lv_lstore (lv' := [(5, .long (la SY2 1 ((2 : Int32) * v4))), (2, .int (v2)), (3, .ref (qY2 0)), (4, .int (v4))]) hx hb dX11_lawStatus_67 hl (by decide) rfl (fun ls hl => ?_)
      refine lv_aload_n hx hb dX11_lawStatus_69 rfl (lv_at hl 2 rfl) ?_
      refine va_get (D := (dC, dI)) (ci := 9) (v := .ref (qY2 1)) (C := RX9) (T := TX9) (N := 3) hx hb hts i_X9 hown hK hP 6 rfl rfl 0 (by decide) (hts _ wf_X11_125) (fun _ h9 => h9) rfl dX11_lawStatus_70 ?_
      refine lv_iconst (v := (2 : Int32)) hx hb dX11_lawStatus_73 (by decide) ?_
      refine lv_iload hx hb dX11_lawStatus_74 (lv_at hl 3 rfl) ?_
      refine lv_imul hx hb dX11_lawStatus_76 ?_
      refine lv_iconst (v := (1 : Int32)) hx hb dX11_lawStatus_77 (by decide) ?_
      refine lv_iadd hx hb dX11_lawStatus_78 ?_
      obtain ⟨hi11, hf⟩ := tc_in hf
      refine va_lald hx hb hK hP 7 2 rfl rfl hi11 dX11_lawStatus_79 ?_
      refine lv_lstore (lv' := [(7, .long (la SY2 1 (((2 : Int32) * v4) + (1 : Int32)))), (5, .long (la SY2 1 ((2 : Int32) * v4))), (2, .int (v2)), (3, .ref (qY2 0)), (4, .int (v4))]) hx hb dX11_lawStatus_80 hl (by decide) rfl (fun ls hl => ?_)
      refine lv_lload hx hb dX11_lawStatus_82 (lv_at hl 1 rfl) ?_
      refine lv_lconst (v := (1 : Int64)) hx hb dX11_lawStatus_84 (by decide) ?_
      refine W.lcmp hx hb dX11_lawStatus_85 ?_
      refine lv_if_lt (tgt := 114) hx hb dX11_lawStatus_86 (by decide) (fun hc => ?_) (fun hc => ?_)
      · have hf := tc_pos hc hf
        refine lv_iconst (v := (5 : Int32)) hx hb dX11_lawStatus_114 (by decide) ?_
        obtain rfl := Option.some.inj hf
        exact tc_ri X hP hD hS rfl dX11_lawStatus_115 rfl rfl
      · have hf := tc_neg hc hf
        refine lv_lload hx hb dX11_lawStatus_89 (lv_at hl 1 rfl) ?_
        refine lv_ldc2 (v := (9 : Int64)) hx hb hown (hts _ wk_X11_429) dX11_lawStatus_91 ?_
        refine W.lcmp hx hb dX11_lawStatus_94 ?_
        refine lv_if_gt (tgt := 114) hx hb dX11_lawStatus_95 (by decide) (fun hc => ?_) (fun hc => ?_)
        · have hf := tc_pos hc hf
          refine lv_iconst (v := (5 : Int32)) hx hb dX11_lawStatus_114 (by decide) ?_
          obtain rfl := Option.some.inj hf
          exact tc_ri X hP hD hS rfl dX11_lawStatus_115 rfl rfl
        · have hf := tc_neg hc hf
          refine lv_lload hx hb dX11_lawStatus_98 (lv_at hl 0 rfl) ?_
          refine lv_lconst (v := (0 : Int64)) hx hb dX11_lawStatus_100 (by decide) ?_
          refine W.lcmp hx hb dX11_lawStatus_101 ?_
          refine lv_if_lt (tgt := 114) hx hb dX11_lawStatus_102 (by decide) (fun hc => ?_) (fun hc => ?_)
          · have hf := tc_pos hc hf
            refine lv_iconst (v := (5 : Int32)) hx hb dX11_lawStatus_114 (by decide) ?_
            obtain rfl := Option.some.inj hf
            exact tc_ri X hP hD hS rfl dX11_lawStatus_115 rfl rfl
          · have hf := tc_neg hc hf
            refine lv_lload hx hb dX11_lawStatus_105 (lv_at hl 0 rfl) ?_
            refine lv_ldc2 (v := (9 : Int64)) hx hb hown (hts _ wk_X11_429) dX11_lawStatus_107 ?_
            refine W.lcmp hx hb dX11_lawStatus_110 ?_
            refine lv_if_le (tgt := 116) hx hb dX11_lawStatus_111 (by decide) (fun hc => ?_) (fun hc => ?_)
            · have hf := tc_pos hc hf
              refine lv_iinc (v := v4 + (1 : Int32)) (lv' := [(4, .int (v4 + (1 : Int32))), (7, .long (la SY2 1 (((2 : Int32) * v4) + (1 : Int32)))), (5, .long (la SY2 1 ((2 : Int32) * v4))), (2, .int (v2)), (3, .ref (qY2 0))]) hx hb dX11_lawStatus_116 hl (k := 4) rfl rfl (by decide) rfl (fun ls hl => ?_)
              refine lv_goto (tgt := 52) hx hb dX11_lawStatus_119 (by decide) ?_
              exact ih v2 (v4 + (1 : Int32)) hf _ _ _ hP hD hS (lv_sub hl [3, 4, 0] rfl)
            · have hf := tc_neg hc hf
              refine lv_iconst (v := (5 : Int32)) hx hb dX11_lawStatus_114 (by decide) ?_
              obtain rfl := Option.some.inj hf
              exact tc_ri X hP hD hS rfl dX11_lawStatus_115 rfl rfl
set_option maxRecDepth 20000 in
theorem tX11_lawStatus_52_3 {qC : Nat → Nat} {qA : Nat → Nat} {qY0 : Nat → Nat} {qY1 : Nat → Nat} {qY2 : Nat → Nat} {qY3 : Nat → Nat} {rC4 : Value} {rC6 : Value} {rC7 : Value} {rC10 : Value} {rC11 : Value} {rC12 : Value} {rC14 : Value} {rC15 : Value} {rC17 : Value} {rC18 : Value} {rC19 : Value} (X : tc_X dC dI ca A RX11 cX11_lawStatus 9 (some .int) p s m args meth c) (z : Int32)  (SC : ms_T) (SY0 : ms_T) (SY1 : ms_T) (SY2 : ms_T) (SY3 : ms_T)   : ∀ n : Nat, ∀ (v2 : Int32) (v4 : Int32), fX11_lawStatus_52_3 SC SY0 SY1 SY2 SY3 n v2 v4 = some z → ∀ (H : Heap) (locs : List Loc) (ls : Array Slot), va_P (dC, dI) classes (w11 ca qC (.ref (qA 0)) (rC4) (rC6) (rC7) (rC10) (rC11) (rC12) (rC14) (rC15) (rC17) (rC18) (rC19) SC ++ wLT ca qA (rf4 (qY0 0) (qY1 0) (qY2 0) (qY3 0)) ++ w9 ca qY0 SY0 ++ w9 ca qY1 SY1 ++ w9 ca qY2 SY2 ++ w9 ca qY3 SY3) H → va_D A (w11 ca qC (.ref (qA 0)) (rC4) (rC6) (rC7) (rC10) (rC11) (rC12) (rC14) (rC15) (rC17) (rC18) (rC19) SC ++ wLT ca qA (rf4 (qY0 0) (qY1 0) (qY2 0) (qY3 0)) ++ w9 ca qY0 SY0 ++ w9 ca qY1 SY1 ++ w9 ca qY2 SY2 ++ w9 ca qY3 SY3) → va_S A s.heap H locs → lv_has ls 9 [(2, .int (v2)), (3, .ref (qY3 0)), (4, .int (v4))] → W p l e rmX11_lawStatus s m args below meth c H locs 0 0 (MQ below (tc_QI dC dI ca A (w11 ca qC (.ref (qA 0)) (rC4) (rC6) (rC7) (rC10) (rC11) (rC12) (rC14) (rC15) (rC17) (rC18) (rC19) SC ++ wLT ca qA (rf4 (qY0 0) (qY1 0) (qY2 0) (qY3 0)) ++ w9 ca qY0 SY0 ++ w9 ca qY1 SY1 ++ w9 ca qY2 SY2 ++ w9 ca qY3 SY3) (z)) args s 0 0 A) (F0 m 52 ls []) := by
  obtain ⟨hx, hb, hr, hml, hown, hts, hlk, hK, hA, hG⟩ := id X
  intro n
  induction n with
  | zero => intro v2 v4 hf; exact absurd (show none = some z from hf) (fun h => by cases h)
  | succ n ih =>
    intro v2 v4 hf H locs ls hP hD hS hl
    rw [fX11_lawStatus_52_3] at hf
    refine lv_iload hx hb dX11_lawStatus_52 (lv_at hl 2 rfl) ?_
    refine lv_iload_n hx hb dX11_lawStatus_54 rfl (lv_at hl 0 rfl) ?_
    refine lv_icmp_ge (tgt := 122) hx hb dX11_lawStatus_55 (by decide) (fun hc => ?_) (fun hc => ?_)
    · have hf := tc_pos hc hf
      refine lv_iconst (v := (0 : Int32)) hx hb dX11_lawStatus_122 (by decide) ?_
      obtain rfl := Option.some.inj hf
      exact tc_ri X hP hD hS rfl dX11_lawStatus_123 rfl rfl
    · have hf := tc_neg hc hf
      refine lv_aload_n hx hb dX11_lawStatus_58 rfl (lv_at hl 1 rfl) ?_
      refine va_get (D := (dC, dI)) (ci := 9) (v := .ref (qY3 1)) (C := RX9) (T := TX9) (N := 3) hx hb hts i_X9 hown hK hP 8 rfl rfl 0 (by decide) (hts _ wf_X11_125) (fun _ h9 => h9) rfl dX11_lawStatus_59 ?_
      refine lv_iconst (v := (2 : Int32)) hx hb dX11_lawStatus_62 (by decide) ?_
      refine lv_iload hx hb dX11_lawStatus_63 (lv_at hl 2 rfl) ?_
      refine lv_imul hx hb dX11_lawStatus_65 ?_
      obtain ⟨hi13, hf⟩ := tc_in hf
      refine va_lald hx hb hK hP 9 2 rfl rfl hi13 dX11_lawStatus_66 ?_
      refine lv_lstore (lv' := [(5, .long (la SY3 1 ((2 : Int32) * v4))), (2, .int (v2)), (3, .ref (qY3 0)), (4, .int (v4))]) hx hb dX11_lawStatus_67 hl (by decide) rfl (fun ls hl => ?_)
      refine lv_aload_n hx hb dX11_lawStatus_69 rfl (lv_at hl 2 rfl) ?_
      refine va_get (D := (dC, dI)) (ci := 9) (v := .ref (qY3 1)) (C := RX9) (T := TX9) (N := 3) hx hb hts i_X9 hown hK hP 8 rfl rfl 0 (by decide) (hts _ wf_X11_125) (fun _ h9 => h9) rfl dX11_lawStatus_70 ?_
      refine lv_iconst (v := (2 : Int32)) hx hb dX11_lawStatus_73 (by decide) ?_
      refine lv_iload hx hb dX11_lawStatus_74 (lv_at hl 3 rfl) ?_
      refine lv_imul hx hb dX11_lawStatus_76 ?_
      refine lv_iconst (v := (1 : Int32)) hx hb dX11_lawStatus_77 (by decide) ?_
      refine lv_iadd hx hb dX11_lawStatus_78 ?_
      obtain ⟨hi14, hf⟩ := tc_in hf
      refine va_lald hx hb hK hP 9 2 rfl rfl hi14 dX11_lawStatus_79 ?_
      refine lv_lstore (lv' := [(7, .long (la SY3 1 (((2 : Int32) * v4) + (1 : Int32)))), (5, .long (la SY3 1 ((2 : Int32) * v4))), (2, .int (v2)), (3, .ref (qY3 0)), (4, .int (v4))]) hx hb dX11_lawStatus_80 hl (by decide) rfl (fun ls hl => ?_)
      refine lv_lload hx hb dX11_lawStatus_82 (lv_at hl 1 rfl) ?_
      refine lv_lconst (v := (1 : Int64)) hx hb dX11_lawStatus_84 (by decide) ?_
      refine W.lcmp hx hb dX11_lawStatus_85 ?_
      refine lv_if_lt (tgt := 114) hx hb dX11_lawStatus_86 (by decide) (fun hc => ?_) (fun hc => ?_)
      · have hf := tc_pos hc hf
        refine lv_iconst (v := (5 : Int32)) hx hb dX11_lawStatus_114 (by decide) ?_
        obtain rfl := Option.some.inj hf
        exact tc_ri X hP hD hS rfl dX11_lawStatus_115 rfl rfl
      · have hf := tc_neg hc hf
        refine lv_lload hx hb dX11_lawStatus_89 (lv_at hl 1 rfl) ?_
        refine lv_ldc2 (v := (9 : Int64)) hx hb hown (hts _ wk_X11_429) dX11_lawStatus_91 ?_
        refine W.lcmp hx hb dX11_lawStatus_94 ?_
        refine lv_if_gt (tgt := 114) hx hb dX11_lawStatus_95 (by decide) (fun hc => ?_) (fun hc => ?_)
        · have hf := tc_pos hc hf
          refine lv_iconst (v := (5 : Int32)) hx hb dX11_lawStatus_114 (by decide) ?_
          obtain rfl := Option.some.inj hf
          exact tc_ri X hP hD hS rfl dX11_lawStatus_115 rfl rfl
        · have hf := tc_neg hc hf
          refine lv_lload hx hb dX11_lawStatus_98 (lv_at hl 0 rfl) ?_
          refine lv_lconst (v := (0 : Int64)) hx hb dX11_lawStatus_100 (by decide) ?_
          refine W.lcmp hx hb dX11_lawStatus_101 ?_
          refine lv_if_lt (tgt := 114) hx hb dX11_lawStatus_102 (by decide) (fun hc => ?_) (fun hc => ?_)
          · have hf := tc_pos hc hf
            refine lv_iconst (v := (5 : Int32)) hx hb dX11_lawStatus_114 (by decide) ?_
            obtain rfl := Option.some.inj hf
            exact tc_ri X hP hD hS rfl dX11_lawStatus_115 rfl rfl
          · have hf := tc_neg hc hf
            refine lv_lload hx hb dX11_lawStatus_105 (lv_at hl 0 rfl) ?_
            refine lv_ldc2 (v := (9 : Int64)) hx hb hown (hts _ wk_X11_429) dX11_lawStatus_107 ?_
            refine W.lcmp hx hb dX11_lawStatus_110 ?_
            refine lv_if_le (tgt := 116) hx hb dX11_lawStatus_111 (by decide) (fun hc => ?_) (fun hc => ?_)
            · have hf := tc_pos hc hf
              refine lv_iinc (v := v4 + (1 : Int32)) (lv' := [(4, .int (v4 + (1 : Int32))), (7, .long (la SY3 1 (((2 : Int32) * v4) + (1 : Int32)))), (5, .long (la SY3 1 ((2 : Int32) * v4))), (2, .int (v2)), (3, .ref (qY3 0))]) hx hb dX11_lawStatus_116 hl (k := 4) rfl rfl (by decide) rfl (fun ls hl => ?_)
              refine lv_goto (tgt := 52) hx hb dX11_lawStatus_119 (by decide) ?_
              exact ih v2 (v4 + (1 : Int32)) hf _ _ _ hP hD hS (lv_sub hl [3, 4, 0] rfl)
            · have hf := tc_neg hc hf
              refine lv_iconst (v := (5 : Int32)) hx hb dX11_lawStatus_114 (by decide) ?_
              obtain rfl := Option.some.inj hf
              exact tc_ri X hP hD hS rfl dX11_lawStatus_115 rfl rfl
set_option maxRecDepth 20000 in
theorem mX11_lawStatus {qC : Nat → Nat} {qA : Nat → Nat} {qY0 : Nat → Nat} {qY1 : Nat → Nat} {qY2 : Nat → Nat} {qY3 : Nat → Nat} {rC4 : Value} {rC6 : Value} {rC7 : Value} {rC10 : Value} {rC11 : Value} {rC12 : Value} {rC14 : Value} {rC15 : Value} {rC17 : Value} {rC18 : Value} {rC19 : Value} {SC : ms_T} {SY0 : ms_T} {SY1 : ms_T} {SY2 : ms_T} {SY3 : ms_T} {a1 : Int32} {a2 : Int32} {z : Int32}  (hf : fX11_lawStatus SC SY0 SY1 SY2 SY3 a1 a2 = some z) : tc_MI l dC dI ca yX11_lawStatus cX11_lawStatus 9 (some .int) rmX11_lawStatus [.ref (qC 0), .int (a1), .int (a2)] (w11 ca qC (.ref (qA 0)) (rC4) (rC6) (rC7) (rC10) (rC11) (rC12) (rC14) (rC15) (rC17) (rC18) (rC19) SC ++ wLT ca qA (rf4 (qY0 0) (qY1 0) (qY2 0) (qY3 0)) ++ w9 ca qY0 SY0 ++ w9 ca qY1 SY1 ++ w9 ca qY2 SY2 ++ w9 ca qY3 SY3) (w11 ca qC (.ref (qA 0)) (rC4) (rC6) (rC7) (rC10) (rC11) (rC12) (rC14) (rC15) (rC17) (rC18) (rC19) SC ++ wLT ca qA (rf4 (qY0 0) (qY1 0) (qY2 0) (qY3 0)) ++ w9 ca qY0 SY0 ++ w9 ca qY1 SY1 ++ w9 ca qY2 SY2 ++ w9 ca qY3 SY3) (z) := by
  refine tc_metI (own := RX11) (by decide) rfl ?_ (Nat.le_of_ble_eq_true rfl)
  intro p e s m below meth c A X hP hD hS ls hl
  obtain ⟨hx, hb, hr, hml, hown, hts, hlk, hK, hA, hG⟩ := id X
  unfold fX11_lawStatus at hf
  have hl : lv_has ls 9 [(0, .ref (qC 0)), (1, .int (a1)), (2, .int (a2))] := hl
  refine lv_iload_n hx hb dX11_lawStatus_0 rfl (lv_at hl 1 rfl) ?_
  obtain ⟨z1, hg, hf⟩ := tc_bi hf
  refine tc_iS0 (As := [.int (a1)]) (rest := []) X hP hD hS (mX11_isTray hg) okX11_isTray wl_X11_98 wt_X11_isTray ⟨rfl, rfl, Nat.le_of_ble_eq_true rfl, Nat.le_of_ble_eq_true rfl⟩ rfl hl.1 (Nat.le_of_ble_eq_true rfl) dX11_lawStatus_1 (fun H locs hP hD hS => ?_)
  refine lv_if_ne (tgt := 9) hx hb dX11_lawStatus_4 (by decide) (fun hc => ?_) (fun hc => ?_)
  · have hf := tc_neg hc hf
    refine lv_aload_n hx hb dX11_lawStatus_9 rfl (lv_at hl 0 rfl) ?_
    refine va_get (D := (dC, dI)) (ci := 11) (v := .ref (qA 0)) (C := RX11) (T := TX11) (N := 20) hx hb hts i_X11 hown hK hP 0 rfl rfl 3 (by decide) (hts _ wf_X11_11) (fun _ h9 => h9) rfl dX11_lawStatus_10 ?_
    refine lv_iload_n hx hb dX11_lawStatus_13 rfl (lv_at hl 1 rfl) ?_
    by_cases hq2_0 : a1 = (0 : Int32)
    · have hf := tc_pos hq2_0 hf
      refine tc_ald (b := qY0 0) X hP 1 4 rfl rfl 0 (by rw [hq2_0]; decide) (by rw [hq2_0]; exact inb_vp (by decide)) rfl dX11_lawStatus_14 ?_
      refine lv_astore_n (lv' := [(3, .ref (qY0 0)), (0, .ref (qC 0)), (1, .int (a1)), (2, .int (a2))]) hx hb dX11_lawStatus_15 rfl hl (by decide) rfl (fun ls hl => ?_)
      refine lv_aload_n hx hb dX11_lawStatus_16 rfl (lv_at hl 0 rfl) ?_
      obtain ⟨z3, hg, hf⟩ := tc_bi hf
      refine tc_iV (As := []) (rest := []) (b := qY0 0) (wc := w9 ca qY0 SY0) (wr := w11 ca qC (.ref (qA 0)) (rC4) (rC6) (rC7) (rC10) (rC11) (rC12) (rC14) (rC15) (rC17) (rC18) (rC19) SC ++ wLT ca qA (rf4 (qY0 0) (qY1 0) (qY2 0) (qY3 0)) ++ w9 ca qY1 SY1 ++ w9 ca qY2 SY2 ++ w9 ca qY3 SY3) X hP hD hS (mX9_isMissing hg) okX9_isMissing wl_X11_129 wi_X9_isMissing ws_X9_X9_isMissing_X9_isMissing ⟨rfl, rfl, Nat.le_of_ble_eq_true rfl, Nat.le_of_ble_eq_true rfl⟩ 9 0 rfl rfl [2, 3] [0, 1, 4, 5, 6, 7, 8, 9] ⟨rfl, rfl, rfl, rfl, by decide⟩ rfl hl.1 (Nat.le_of_ble_eq_true rfl) dX11_lawStatus_17 (fun H locs hP hD hS => ?_)
      have hP := hP.sub (ws' := (w11 ca qC (.ref (qA 0)) (rC4) (rC6) (rC7) (rC10) (rC11) (rC12) (rC14) (rC15) (rC17) (rC18) (rC19) SC ++ wLT ca qA (rf4 (qY0 0) (qY1 0) (qY2 0) (qY3 0)) ++ w9 ca qY0 SY0 ++ w9 ca qY1 SY1 ++ w9 ca qY2 SY2 ++ w9 ca qY3 SY3)) [0, 1, 8, 9, 2, 3, 4, 5, 6, 7] rfl
      have hD := hD.sub (ws' := (w11 ca qC (.ref (qA 0)) (rC4) (rC6) (rC7) (rC10) (rC11) (rC12) (rC14) (rC15) (rC17) (rC18) (rC19) SC ++ wLT ca qA (rf4 (qY0 0) (qY1 0) (qY2 0) (qY3 0)) ++ w9 ca qY0 SY0 ++ w9 ca qY1 SY1 ++ w9 ca qY2 SY2 ++ w9 ca qY3 SY3)) [0, 1, 8, 9, 2, 3, 4, 5, 6, 7] rfl rfl
      refine lv_if_eq (tgt := 25) hx hb dX11_lawStatus_20 (by decide) (fun hc => ?_) (fun hc => ?_)
      · have hf := tc_pos hc hf
        refine lv_iload_n hx hb dX11_lawStatus_25 rfl (lv_at hl 3 rfl) ?_
        refine lv_aload_n hx hb dX11_lawStatus_26 rfl (lv_at hl 0 rfl) ?_
        refine va_get (D := (dC, dI)) (ci := 9) (v := .int (gi SY0 2)) (C := RX9) (T := TX9) (N := 3) hx hb hts i_X9 hown hK hP 2 rfl rfl 2 (by decide) (hts _ wf_X11_265) (fun _ h9 => h9) rfl dX11_lawStatus_27 ?_
        refine lv_iconst (v := (2 : Int32)) hx hb dX11_lawStatus_30 (by decide) ?_
        refine lv_idiv hx hb dX11_lawStatus_31 (by decide) ?_
        refine lv_icmp_le (tgt := 37) hx hb dX11_lawStatus_32 (by decide) (fun hc => ?_) (fun hc => ?_)
        · have hf := tc_pos hc hf
          refine lv_iload_n hx hb dX11_lawStatus_37 rfl (lv_at hl 3 rfl) ?_
          refine lv_if_lt (tgt := 47) hx hb dX11_lawStatus_38 (by decide) (fun hc => ?_) (fun hc => ?_)
          · have hf := tc_pos hc hf
            refine lv_iconst (v := (5 : Int32)) hx hb dX11_lawStatus_47 (by decide) ?_
            obtain rfl := Option.some.inj hf
            exact tc_ri X hP hD hS rfl dX11_lawStatus_48 rfl rfl
          · have hf := tc_neg hc hf
            refine lv_iload_n hx hb dX11_lawStatus_41 rfl (lv_at hl 3 rfl) ?_
            refine lv_bipush (v := (20 : Int32)) hx hb dX11_lawStatus_42 (by decide) ?_
            refine lv_icmp_le (tgt := 49) hx hb dX11_lawStatus_44 (by decide) (fun hc => ?_) (fun hc => ?_)
            · have hf := tc_pos hc hf
              refine lv_iconst (v := (0 : Int32)) hx hb dX11_lawStatus_49 (by decide) ?_
              refine lv_istore (lv' := [(4, .int ((0 : Int32))), (3, .ref (qY0 0)), (0, .ref (qC 0)), (1, .int (a1)), (2, .int (a2))]) hx hb dX11_lawStatus_50 hl (by decide) rfl (fun ls hl => ?_)
              exact tX11_lawStatus_52 X z SC SY0 SY1 SY2 SY3 FU a2 (0 : Int32) hf _ _ _ hP hD hS (lv_sub hl [4, 1, 0] rfl)
            · have hf := tc_neg hc hf
              refine lv_iconst (v := (5 : Int32)) hx hb dX11_lawStatus_47 (by decide) ?_
              obtain rfl := Option.some.inj hf
              exact tc_ri X hP hD hS rfl dX11_lawStatus_48 rfl rfl
        · have hf := tc_neg hc hf
          refine lv_iconst (v := (4 : Int32)) hx hb dX11_lawStatus_35 (by decide) ?_
          obtain rfl := Option.some.inj hf
          exact tc_ri X hP hD hS rfl dX11_lawStatus_36 rfl rfl
      · have hf := tc_neg hc hf
        refine lv_iconst (v := (3 : Int32)) hx hb dX11_lawStatus_23 (by decide) ?_
        obtain rfl := Option.some.inj hf
        exact tc_ri X hP hD hS rfl dX11_lawStatus_24 rfl rfl
    · have hf := tc_neg hq2_0 hf
      by_cases hq2_1 : a1 = (1 : Int32)
      · have hf := tc_pos hq2_1 hf
        refine tc_ald (b := qY1 0) X hP 1 4 rfl rfl 1 (by rw [hq2_1]; decide) (by rw [hq2_1]; exact inb_vp (by decide)) rfl dX11_lawStatus_14 ?_
        refine lv_astore_n (lv' := [(3, .ref (qY1 0)), (0, .ref (qC 0)), (1, .int (a1)), (2, .int (a2))]) hx hb dX11_lawStatus_15 rfl hl (by decide) rfl (fun ls hl => ?_)
        refine lv_aload_n hx hb dX11_lawStatus_16 rfl (lv_at hl 0 rfl) ?_
        obtain ⟨z6, hg, hf⟩ := tc_bi hf
        refine tc_iV (As := []) (rest := []) (b := qY1 0) (wc := w9 ca qY1 SY1) (wr := w11 ca qC (.ref (qA 0)) (rC4) (rC6) (rC7) (rC10) (rC11) (rC12) (rC14) (rC15) (rC17) (rC18) (rC19) SC ++ wLT ca qA (rf4 (qY0 0) (qY1 0) (qY2 0) (qY3 0)) ++ w9 ca qY0 SY0 ++ w9 ca qY2 SY2 ++ w9 ca qY3 SY3) X hP hD hS (mX9_isMissing hg) okX9_isMissing wl_X11_129 wi_X9_isMissing ws_X9_X9_isMissing_X9_isMissing ⟨rfl, rfl, Nat.le_of_ble_eq_true rfl, Nat.le_of_ble_eq_true rfl⟩ 9 0 rfl rfl [4, 5] [0, 1, 2, 3, 6, 7, 8, 9] ⟨rfl, rfl, rfl, rfl, by decide⟩ rfl hl.1 (Nat.le_of_ble_eq_true rfl) dX11_lawStatus_17 (fun H locs hP hD hS => ?_)
        have hP := hP.sub (ws' := (w11 ca qC (.ref (qA 0)) (rC4) (rC6) (rC7) (rC10) (rC11) (rC12) (rC14) (rC15) (rC17) (rC18) (rC19) SC ++ wLT ca qA (rf4 (qY0 0) (qY1 0) (qY2 0) (qY3 0)) ++ w9 ca qY0 SY0 ++ w9 ca qY1 SY1 ++ w9 ca qY2 SY2 ++ w9 ca qY3 SY3)) [0, 1, 2, 3, 8, 9, 4, 5, 6, 7] rfl
        have hD := hD.sub (ws' := (w11 ca qC (.ref (qA 0)) (rC4) (rC6) (rC7) (rC10) (rC11) (rC12) (rC14) (rC15) (rC17) (rC18) (rC19) SC ++ wLT ca qA (rf4 (qY0 0) (qY1 0) (qY2 0) (qY3 0)) ++ w9 ca qY0 SY0 ++ w9 ca qY1 SY1 ++ w9 ca qY2 SY2 ++ w9 ca qY3 SY3)) [0, 1, 2, 3, 8, 9, 4, 5, 6, 7] rfl rfl
        refine lv_if_eq (tgt := 25) hx hb dX11_lawStatus_20 (by decide) (fun hc => ?_) (fun hc => ?_)
        · have hf := tc_pos hc hf
          refine lv_iload_n hx hb dX11_lawStatus_25 rfl (lv_at hl 3 rfl) ?_
          refine lv_aload_n hx hb dX11_lawStatus_26 rfl (lv_at hl 0 rfl) ?_
          refine va_get (D := (dC, dI)) (ci := 9) (v := .int (gi SY1 2)) (C := RX9) (T := TX9) (N := 3) hx hb hts i_X9 hown hK hP 4 rfl rfl 2 (by decide) (hts _ wf_X11_265) (fun _ h9 => h9) rfl dX11_lawStatus_27 ?_
          refine lv_iconst (v := (2 : Int32)) hx hb dX11_lawStatus_30 (by decide) ?_
          refine lv_idiv hx hb dX11_lawStatus_31 (by decide) ?_
          refine lv_icmp_le (tgt := 37) hx hb dX11_lawStatus_32 (by decide) (fun hc => ?_) (fun hc => ?_)
          · have hf := tc_pos hc hf
            refine lv_iload_n hx hb dX11_lawStatus_37 rfl (lv_at hl 3 rfl) ?_
            refine lv_if_lt (tgt := 47) hx hb dX11_lawStatus_38 (by decide) (fun hc => ?_) (fun hc => ?_)
            · have hf := tc_pos hc hf
              refine lv_iconst (v := (5 : Int32)) hx hb dX11_lawStatus_47 (by decide) ?_
              obtain rfl := Option.some.inj hf
              exact tc_ri X hP hD hS rfl dX11_lawStatus_48 rfl rfl
            · have hf := tc_neg hc hf
              refine lv_iload_n hx hb dX11_lawStatus_41 rfl (lv_at hl 3 rfl) ?_
              refine lv_bipush (v := (20 : Int32)) hx hb dX11_lawStatus_42 (by decide) ?_
              refine lv_icmp_le (tgt := 49) hx hb dX11_lawStatus_44 (by decide) (fun hc => ?_) (fun hc => ?_)
              · have hf := tc_pos hc hf
                refine lv_iconst (v := (0 : Int32)) hx hb dX11_lawStatus_49 (by decide) ?_
                refine lv_istore (lv' := [(4, .int ((0 : Int32))), (3, .ref (qY1 0)), (0, .ref (qC 0)), (1, .int (a1)), (2, .int (a2))]) hx hb dX11_lawStatus_50 hl (by decide) rfl (fun ls hl => ?_)
                exact tX11_lawStatus_52_1 X z SC SY0 SY1 SY2 SY3 FU a2 (0 : Int32) hf _ _ _ hP hD hS (lv_sub hl [4, 1, 0] rfl)
              · have hf := tc_neg hc hf
                refine lv_iconst (v := (5 : Int32)) hx hb dX11_lawStatus_47 (by decide) ?_
                obtain rfl := Option.some.inj hf
                exact tc_ri X hP hD hS rfl dX11_lawStatus_48 rfl rfl
          · have hf := tc_neg hc hf
            refine lv_iconst (v := (4 : Int32)) hx hb dX11_lawStatus_35 (by decide) ?_
            obtain rfl := Option.some.inj hf
            exact tc_ri X hP hD hS rfl dX11_lawStatus_36 rfl rfl
        · have hf := tc_neg hc hf
          refine lv_iconst (v := (3 : Int32)) hx hb dX11_lawStatus_23 (by decide) ?_
          obtain rfl := Option.some.inj hf
          exact tc_ri X hP hD hS rfl dX11_lawStatus_24 rfl rfl
      · have hf := tc_neg hq2_1 hf
        by_cases hq2_2 : a1 = (2 : Int32)
        · have hf := tc_pos hq2_2 hf
          refine tc_ald (b := qY2 0) X hP 1 4 rfl rfl 2 (by rw [hq2_2]; decide) (by rw [hq2_2]; exact inb_vp (by decide)) rfl dX11_lawStatus_14 ?_
          refine lv_astore_n (lv' := [(3, .ref (qY2 0)), (0, .ref (qC 0)), (1, .int (a1)), (2, .int (a2))]) hx hb dX11_lawStatus_15 rfl hl (by decide) rfl (fun ls hl => ?_)
          refine lv_aload_n hx hb dX11_lawStatus_16 rfl (lv_at hl 0 rfl) ?_
          obtain ⟨z9, hg, hf⟩ := tc_bi hf
          refine tc_iV (As := []) (rest := []) (b := qY2 0) (wc := w9 ca qY2 SY2) (wr := w11 ca qC (.ref (qA 0)) (rC4) (rC6) (rC7) (rC10) (rC11) (rC12) (rC14) (rC15) (rC17) (rC18) (rC19) SC ++ wLT ca qA (rf4 (qY0 0) (qY1 0) (qY2 0) (qY3 0)) ++ w9 ca qY0 SY0 ++ w9 ca qY1 SY1 ++ w9 ca qY3 SY3) X hP hD hS (mX9_isMissing hg) okX9_isMissing wl_X11_129 wi_X9_isMissing ws_X9_X9_isMissing_X9_isMissing ⟨rfl, rfl, Nat.le_of_ble_eq_true rfl, Nat.le_of_ble_eq_true rfl⟩ 9 0 rfl rfl [6, 7] [0, 1, 2, 3, 4, 5, 8, 9] ⟨rfl, rfl, rfl, rfl, by decide⟩ rfl hl.1 (Nat.le_of_ble_eq_true rfl) dX11_lawStatus_17 (fun H locs hP hD hS => ?_)
          have hP := hP.sub (ws' := (w11 ca qC (.ref (qA 0)) (rC4) (rC6) (rC7) (rC10) (rC11) (rC12) (rC14) (rC15) (rC17) (rC18) (rC19) SC ++ wLT ca qA (rf4 (qY0 0) (qY1 0) (qY2 0) (qY3 0)) ++ w9 ca qY0 SY0 ++ w9 ca qY1 SY1 ++ w9 ca qY2 SY2 ++ w9 ca qY3 SY3)) [0, 1, 2, 3, 4, 5, 8, 9, 6, 7] rfl
          have hD := hD.sub (ws' := (w11 ca qC (.ref (qA 0)) (rC4) (rC6) (rC7) (rC10) (rC11) (rC12) (rC14) (rC15) (rC17) (rC18) (rC19) SC ++ wLT ca qA (rf4 (qY0 0) (qY1 0) (qY2 0) (qY3 0)) ++ w9 ca qY0 SY0 ++ w9 ca qY1 SY1 ++ w9 ca qY2 SY2 ++ w9 ca qY3 SY3)) [0, 1, 2, 3, 4, 5, 8, 9, 6, 7] rfl rfl
          refine lv_if_eq (tgt := 25) hx hb dX11_lawStatus_20 (by decide) (fun hc => ?_) (fun hc => ?_)
          · have hf := tc_pos hc hf
            refine lv_iload_n hx hb dX11_lawStatus_25 rfl (lv_at hl 3 rfl) ?_
            refine lv_aload_n hx hb dX11_lawStatus_26 rfl (lv_at hl 0 rfl) ?_
            refine va_get (D := (dC, dI)) (ci := 9) (v := .int (gi SY2 2)) (C := RX9) (T := TX9) (N := 3) hx hb hts i_X9 hown hK hP 6 rfl rfl 2 (by decide) (hts _ wf_X11_265) (fun _ h9 => h9) rfl dX11_lawStatus_27 ?_
            refine lv_iconst (v := (2 : Int32)) hx hb dX11_lawStatus_30 (by decide) ?_
            refine lv_idiv hx hb dX11_lawStatus_31 (by decide) ?_
            refine lv_icmp_le (tgt := 37) hx hb dX11_lawStatus_32 (by decide) (fun hc => ?_) (fun hc => ?_)
            · have hf := tc_pos hc hf
              refine lv_iload_n hx hb dX11_lawStatus_37 rfl (lv_at hl 3 rfl) ?_
              refine lv_if_lt (tgt := 47) hx hb dX11_lawStatus_38 (by decide) (fun hc => ?_) (fun hc => ?_)
              · have hf := tc_pos hc hf
                refine lv_iconst (v := (5 : Int32)) hx hb dX11_lawStatus_47 (by decide) ?_
                obtain rfl := Option.some.inj hf
                exact tc_ri X hP hD hS rfl dX11_lawStatus_48 rfl rfl
              · have hf := tc_neg hc hf
                refine lv_iload_n hx hb dX11_lawStatus_41 rfl (lv_at hl 3 rfl) ?_
                refine lv_bipush (v := (20 : Int32)) hx hb dX11_lawStatus_42 (by decide) ?_
                refine lv_icmp_le (tgt := 49) hx hb dX11_lawStatus_44 (by decide) (fun hc => ?_) (fun hc => ?_)
                · have hf := tc_pos hc hf
                  refine lv_iconst (v := (0 : Int32)) hx hb dX11_lawStatus_49 (by decide) ?_
                  refine lv_istore (lv' := [(4, .int ((0 : Int32))), (3, .ref (qY2 0)), (0, .ref (qC 0)), (1, .int (a1)), (2, .int (a2))]) hx hb dX11_lawStatus_50 hl (by decide) rfl (fun ls hl => ?_)
                  exact tX11_lawStatus_52_2 X z SC SY0 SY1 SY2 SY3 FU a2 (0 : Int32) hf _ _ _ hP hD hS (lv_sub hl [4, 1, 0] rfl)
                · have hf := tc_neg hc hf
                  refine lv_iconst (v := (5 : Int32)) hx hb dX11_lawStatus_47 (by decide) ?_
                  obtain rfl := Option.some.inj hf
                  exact tc_ri X hP hD hS rfl dX11_lawStatus_48 rfl rfl
            · have hf := tc_neg hc hf
              refine lv_iconst (v := (4 : Int32)) hx hb dX11_lawStatus_35 (by decide) ?_
              obtain rfl := Option.some.inj hf
              exact tc_ri X hP hD hS rfl dX11_lawStatus_36 rfl rfl
          · have hf := tc_neg hc hf
            refine lv_iconst (v := (3 : Int32)) hx hb dX11_lawStatus_23 (by decide) ?_
            obtain rfl := Option.some.inj hf
            exact tc_ri X hP hD hS rfl dX11_lawStatus_24 rfl rfl
        · have hf := tc_neg hq2_2 hf
          by_cases hq2_3 : a1 = (3 : Int32)
          · have hf := tc_pos hq2_3 hf
            refine tc_ald (b := qY3 0) X hP 1 4 rfl rfl 3 (by rw [hq2_3]; decide) (by rw [hq2_3]; exact inb_vp (by decide)) rfl dX11_lawStatus_14 ?_
            refine lv_astore_n (lv' := [(3, .ref (qY3 0)), (0, .ref (qC 0)), (1, .int (a1)), (2, .int (a2))]) hx hb dX11_lawStatus_15 rfl hl (by decide) rfl (fun ls hl => ?_)
            refine lv_aload_n hx hb dX11_lawStatus_16 rfl (lv_at hl 0 rfl) ?_
            obtain ⟨z12, hg, hf⟩ := tc_bi hf
            refine tc_iV (As := []) (rest := []) (b := qY3 0) (wc := w9 ca qY3 SY3) (wr := w11 ca qC (.ref (qA 0)) (rC4) (rC6) (rC7) (rC10) (rC11) (rC12) (rC14) (rC15) (rC17) (rC18) (rC19) SC ++ wLT ca qA (rf4 (qY0 0) (qY1 0) (qY2 0) (qY3 0)) ++ w9 ca qY0 SY0 ++ w9 ca qY1 SY1 ++ w9 ca qY2 SY2) X hP hD hS (mX9_isMissing hg) okX9_isMissing wl_X11_129 wi_X9_isMissing ws_X9_X9_isMissing_X9_isMissing ⟨rfl, rfl, Nat.le_of_ble_eq_true rfl, Nat.le_of_ble_eq_true rfl⟩ 9 0 rfl rfl [8, 9] [0, 1, 2, 3, 4, 5, 6, 7] ⟨rfl, rfl, rfl, rfl, by decide⟩ rfl hl.1 (Nat.le_of_ble_eq_true rfl) dX11_lawStatus_17 (fun H locs hP hD hS => ?_)
            have hP := hP.sub (ws' := (w11 ca qC (.ref (qA 0)) (rC4) (rC6) (rC7) (rC10) (rC11) (rC12) (rC14) (rC15) (rC17) (rC18) (rC19) SC ++ wLT ca qA (rf4 (qY0 0) (qY1 0) (qY2 0) (qY3 0)) ++ w9 ca qY0 SY0 ++ w9 ca qY1 SY1 ++ w9 ca qY2 SY2 ++ w9 ca qY3 SY3)) [0, 1, 2, 3, 4, 5, 6, 7, 8, 9] rfl
            have hD := hD.sub (ws' := (w11 ca qC (.ref (qA 0)) (rC4) (rC6) (rC7) (rC10) (rC11) (rC12) (rC14) (rC15) (rC17) (rC18) (rC19) SC ++ wLT ca qA (rf4 (qY0 0) (qY1 0) (qY2 0) (qY3 0)) ++ w9 ca qY0 SY0 ++ w9 ca qY1 SY1 ++ w9 ca qY2 SY2 ++ w9 ca qY3 SY3)) [0, 1, 2, 3, 4, 5, 6, 7, 8, 9] rfl rfl
            refine lv_if_eq (tgt := 25) hx hb dX11_lawStatus_20 (by decide) (fun hc => ?_) (fun hc => ?_)
            · have hf := tc_pos hc hf
              refine lv_iload_n hx hb dX11_lawStatus_25 rfl (lv_at hl 3 rfl) ?_
              refine lv_aload_n hx hb dX11_lawStatus_26 rfl (lv_at hl 0 rfl) ?_
              refine va_get (D := (dC, dI)) (ci := 9) (v := .int (gi SY3 2)) (C := RX9) (T := TX9) (N := 3) hx hb hts i_X9 hown hK hP 8 rfl rfl 2 (by decide) (hts _ wf_X11_265) (fun _ h9 => h9) rfl dX11_lawStatus_27 ?_
              refine lv_iconst (v := (2 : Int32)) hx hb dX11_lawStatus_30 (by decide) ?_
              refine lv_idiv hx hb dX11_lawStatus_31 (by decide) ?_
              refine lv_icmp_le (tgt := 37) hx hb dX11_lawStatus_32 (by decide) (fun hc => ?_) (fun hc => ?_)
              · have hf := tc_pos hc hf
                refine lv_iload_n hx hb dX11_lawStatus_37 rfl (lv_at hl 3 rfl) ?_
                refine lv_if_lt (tgt := 47) hx hb dX11_lawStatus_38 (by decide) (fun hc => ?_) (fun hc => ?_)
                · have hf := tc_pos hc hf
                  refine lv_iconst (v := (5 : Int32)) hx hb dX11_lawStatus_47 (by decide) ?_
                  obtain rfl := Option.some.inj hf
                  exact tc_ri X hP hD hS rfl dX11_lawStatus_48 rfl rfl
                · have hf := tc_neg hc hf
                  refine lv_iload_n hx hb dX11_lawStatus_41 rfl (lv_at hl 3 rfl) ?_
                  refine lv_bipush (v := (20 : Int32)) hx hb dX11_lawStatus_42 (by decide) ?_
                  refine lv_icmp_le (tgt := 49) hx hb dX11_lawStatus_44 (by decide) (fun hc => ?_) (fun hc => ?_)
                  · have hf := tc_pos hc hf
                    refine lv_iconst (v := (0 : Int32)) hx hb dX11_lawStatus_49 (by decide) ?_
                    refine lv_istore (lv' := [(4, .int ((0 : Int32))), (3, .ref (qY3 0)), (0, .ref (qC 0)), (1, .int (a1)), (2, .int (a2))]) hx hb dX11_lawStatus_50 hl (by decide) rfl (fun ls hl => ?_)
                    exact tX11_lawStatus_52_3 X z SC SY0 SY1 SY2 SY3 FU a2 (0 : Int32) hf _ _ _ hP hD hS (lv_sub hl [4, 1, 0] rfl)
                  · have hf := tc_neg hc hf
                    refine lv_iconst (v := (5 : Int32)) hx hb dX11_lawStatus_47 (by decide) ?_
                    obtain rfl := Option.some.inj hf
                    exact tc_ri X hP hD hS rfl dX11_lawStatus_48 rfl rfl
              · have hf := tc_neg hc hf
                refine lv_iconst (v := (4 : Int32)) hx hb dX11_lawStatus_35 (by decide) ?_
                obtain rfl := Option.some.inj hf
                exact tc_ri X hP hD hS rfl dX11_lawStatus_36 rfl rfl
            · have hf := tc_neg hc hf
              refine lv_iconst (v := (3 : Int32)) hx hb dX11_lawStatus_23 (by decide) ?_
              obtain rfl := Option.some.inj hf
              exact tc_ri X hP hD hS rfl dX11_lawStatus_24 rfl rfl
          · have hf := tc_neg hq2_3 hf
            cases hf
  · have hf := tc_pos hc hf
    refine lv_iconst (v := (1 : Int32)) hx hb dX11_lawStatus_7 (by decide) ?_
    obtain rfl := Option.some.inj hf
    exact tc_ri X hP hD hS rfl dX11_lawStatus_8 rfl rfl
def fX11_landsBy   (a0 : Int32) (a1 : Int32) : Option (Int32) :=
  some (jmax (0 : Int32) (a1 - ((((a0 / (8 : Int32)) * a1) + (a0 - a0 / (8 : Int32) * (8 : Int32))) / (4 : Int32))))
abbrev rmX11_landsBy : Room := { frames := 1, cells := 0, slots := 0, locals := 23 }
theorem okX11_landsBy : tc_ok yX11_landsBy cX11_landsBy 3 (some .int) 2 := ⟨wc_X11_landsBy, wn_X11, by decide, by decide, by decide +kernel⟩
set_option maxRecDepth 20000 in
theorem mX11_landsBy    {a0 : Int32} {a1 : Int32} {z : Int32}  (hf : fX11_landsBy a0 a1 = some z) : tc_MI l dC dI ca yX11_landsBy cX11_landsBy 3 (some .int) rmX11_landsBy [.int (a0), .int (a1)] [] [] (z) := by
  refine tc_metI (own := RX11) (by decide) rfl ?_ (Nat.le_of_ble_eq_true rfl)
  intro p e s m below meth c A X hP hD hS ls hl
  obtain ⟨hx, hb, hr, hml, hown, hts, hlk, hK, hA, hG⟩ := id X
  unfold fX11_landsBy at hf
  have hl : lv_has ls 3 [(0, .int (a0)), (1, .int (a1))] := hl
  refine lv_iload_n hx hb dX11_landsBy_0 rfl (lv_at hl 0 rfl) ?_
  refine lv_bipush (v := (8 : Int32)) hx hb dX11_landsBy_1 (by decide) ?_
  refine lv_idiv hx hb dX11_landsBy_3 (by decide) ?_
  refine lv_iload_n hx hb dX11_landsBy_4 rfl (lv_at hl 1 rfl) ?_
  refine lv_imul hx hb dX11_landsBy_5 ?_
  refine lv_iload_n hx hb dX11_landsBy_6 rfl (lv_at hl 0 rfl) ?_
  refine lv_bipush (v := (8 : Int32)) hx hb dX11_landsBy_7 (by decide) ?_
  refine lv_irem hx hb dX11_landsBy_9 (by decide) ?_
  refine lv_iadd hx hb dX11_landsBy_10 ?_
  refine lv_iconst (v := (4 : Int32)) hx hb dX11_landsBy_11 (by decide) ?_
  refine lv_idiv hx hb dX11_landsBy_12 (by decide) ?_
  refine lv_istore_n (lv' := [(2, .int ((((a0 / (8 : Int32)) * a1) + (a0 - a0 / (8 : Int32) * (8 : Int32))) / (4 : Int32))), (0, .int (a0)), (1, .int (a1))]) hx hb dX11_landsBy_13 rfl hl (by decide) rfl (fun ls hl => ?_)
  refine lv_iconst (v := (0 : Int32)) hx hb dX11_landsBy_14 (by decide) ?_
  refine lv_iload_n hx hb dX11_landsBy_15 rfl (lv_at hl 2 rfl) ?_
  refine lv_iload_n hx hb dX11_landsBy_16 rfl (lv_at hl 0 rfl) ?_
  refine lv_isub hx hb dX11_landsBy_17 ?_
  refine tc_mmax (rest := []) X hl.1 wl_X11_434 (Nat.le_of_ble_eq_true rfl) (Nat.le_of_ble_eq_true rfl) dX11_landsBy_18 ?_
  obtain rfl := Option.some.inj hf
  exact tc_ri X hP hD hS rfl dX11_landsBy_21 rfl rfl
def fX11_fittingLaws_70  (S : ms_T) (k4 : Int32 → Int32 → Int32 → Option (Int32)) (v1 : Int32) (v2 : Int32) (v3 : Int32) (v4 : Int32) : Option (Int32) :=
  if v4 = 0 then
    k4 v1 v2 (v3 + (1 : Int32))
  else
    k4 v1 (v2 ||| ((1 : Int32) <<< (v3 &&& 31))) (v3 + (1 : Int32))
def fX11_fittingLaws_16  (S : ms_T) (k4 : Int32 → Int32 → Int32 → Option (Int32)) : Nat → Int32 → Int32 → Int32 → Int32 → Int32 → Option (Int32)
  | 0, _, _, _, _, _ => none
  | n + 1, v1, v2, v3, v4, v5 =>
    if v1 ≤ v5 then
      fX11_fittingLaws_70 S k4 v1 v2 v3 v4
    else
      if v4 = 0 then
        fX11_fittingLaws_70 S k4 v1 v2 v3 v4
      else
        if inb ((2 : Int32) * v5) 60 = true then
          (fX11_landsBy v3 ((la S 1 ((2 : Int32) * v5)).toInt32)).bind fun z2 =>
          if inb (((2 : Int32) * v5) + (1 : Int32)) 60 = true then
            if (lg_cmp z2.toInt64 (la S 1 (((2 : Int32) * v5) + (1 : Int32)))) = 0 then
              fX11_fittingLaws_16 S k4 n v1 v2 v3 (1 : Int32) (v5 + (1 : Int32))
            else
              fX11_fittingLaws_16 S k4 n v1 v2 v3 (0 : Int32) (v5 + (1 : Int32))
          else none
        else none
def fX11_fittingLaws_4  (S : ms_T)  : Nat → Int32 → Int32 → Int32 → Option (Int32)
  | 0, _, _, _ => none
  | n + 1, v1, v2, v3 =>
    if (32 : Int32) ≤ v3 then
      some (v2)
    else
      fX11_fittingLaws_16 S (fX11_fittingLaws_4 S n) FU v1 v2 v3 (1 : Int32) (0 : Int32)
def fX11_fittingLaws  (S : ms_T) (a1 : Int32) : Option (Int32) :=
  fX11_fittingLaws_4 S FU a1 (0 : Int32) (0 : Int32)
abbrev rmX11_fittingLaws : Room := { frames := 2, cells := 0, slots := 0, locals := 45 }
theorem okX11_fittingLaws : tc_ok yX11_fittingLaws cX11_fittingLaws 6 (some .int) 2 := ⟨wc_X11_fittingLaws, wn_X11, by decide, by decide, by decide +kernel⟩
set_option maxRecDepth 20000 in
theorem tX11_fittingLaws_70 {q : Nat → Nat}  (X : tc_X dC dI ca A RX11 cX11_fittingLaws 6 (some .int) p s m args meth c) (z : Int32)  (S : ms_T) (k4 : Int32 → Int32 → Int32 → Option (Int32)) (hk4 : ∀ (v1 : Int32) (v2 : Int32) (v3 : Int32), k4 v1 v2 v3 = some z → ∀ (H : Heap) (locs : List Loc) (ls : Array Slot), va_P (dC, dI) classes (w9 ca q S) H → va_D A (w9 ca q S) → va_S A s.heap H locs → lv_has ls 6 [(0, .ref (q 0)), (1, .int (v1)), (2, .int (v2)), (3, .int (v3))] → W p l e rmX11_fittingLaws s m args below meth c H locs 0 0 (MQ below (tc_QI dC dI ca A (w9 ca q S) (z)) args s 0 0 A) (F0 m 4 ls [])) : ∀ (v1 : Int32) (v2 : Int32) (v3 : Int32) (v4 : Int32), fX11_fittingLaws_70 S k4 v1 v2 v3 v4 = some z → ∀ (H : Heap) (locs : List Loc) (ls : Array Slot), va_P (dC, dI) classes (w9 ca q S) H → va_D A (w9 ca q S) → va_S A s.heap H locs → lv_has ls 6 [(0, .ref (q 0)), (1, .int (v1)), (2, .int (v2)), (3, .int (v3)), (4, .int (v4))] → W p l e rmX11_fittingLaws s m args below meth c H locs 0 0 (MQ below (tc_QI dC dI ca A (w9 ca q S) (z)) args s 0 0 A) (F0 m 70 ls []) := by
  obtain ⟨hx, hb, hr, hml, hown, hts, hlk, hK, hA, hG⟩ := id X
  intro v1 v2 v3 v4 hf H locs ls hP hD hS hl
  unfold fX11_fittingLaws_70 at hf
  refine lv_iload hx hb dX11_fittingLaws_70 (lv_at hl 4 rfl) ?_
  refine lv_if_eq (tgt := 81) hx hb dX11_fittingLaws_72 (by decide) (fun hc => ?_) (fun hc => ?_)
  · have hf := tc_pos hc hf
    refine lv_iinc (v := v3 + (1 : Int32)) (lv' := [(3, .int (v3 + (1 : Int32))), (0, .ref (q 0)), (1, .int (v1)), (2, .int (v2)), (4, .int (v4))]) hx hb dX11_fittingLaws_81 hl (k := 3) rfl rfl (by decide) rfl (fun ls hl => ?_)
    refine lv_goto (tgt := 4) hx hb dX11_fittingLaws_84 (by decide) ?_
    exact hk4 v1 v2 (v3 + (1 : Int32)) hf _ _ _ hP hD hS (lv_sub hl [1, 2, 3, 0] rfl)
  · have hf := tc_neg hc hf
    refine lv_iload_n hx hb dX11_fittingLaws_75 rfl (lv_at hl 2 rfl) ?_
    refine lv_iconst (v := (1 : Int32)) hx hb dX11_fittingLaws_76 (by decide) ?_
    refine lv_iload_n hx hb dX11_fittingLaws_77 rfl (lv_at hl 3 rfl) ?_
    refine lv_ishl hx hb dX11_fittingLaws_78 ?_
    refine lv_ior hx hb dX11_fittingLaws_79 ?_
    refine lv_istore_n (lv' := [(2, .int (v2 ||| ((1 : Int32) <<< (v3 &&& 31)))), (0, .ref (q 0)), (1, .int (v1)), (3, .int (v3)), (4, .int (v4))]) hx hb dX11_fittingLaws_80 rfl hl (by decide) rfl (fun ls hl => ?_)
    refine lv_iinc (v := v3 + (1 : Int32)) (lv' := [(3, .int (v3 + (1 : Int32))), (2, .int (v2 ||| ((1 : Int32) <<< (v3 &&& 31)))), (0, .ref (q 0)), (1, .int (v1)), (4, .int (v4))]) hx hb dX11_fittingLaws_81 hl (k := 3) rfl rfl (by decide) rfl (fun ls hl => ?_)
    refine lv_goto (tgt := 4) hx hb dX11_fittingLaws_84 (by decide) ?_
    exact hk4 v1 (v2 ||| ((1 : Int32) <<< (v3 &&& 31))) (v3 + (1 : Int32)) hf _ _ _ hP hD hS (lv_sub hl [2, 3, 1, 0] rfl)
set_option maxRecDepth 20000 in
theorem tX11_fittingLaws_16 {q : Nat → Nat}  (X : tc_X dC dI ca A RX11 cX11_fittingLaws 6 (some .int) p s m args meth c) (z : Int32)  (S : ms_T) (k4 : Int32 → Int32 → Int32 → Option (Int32)) (hk4 : ∀ (v1 : Int32) (v2 : Int32) (v3 : Int32), k4 v1 v2 v3 = some z → ∀ (H : Heap) (locs : List Loc) (ls : Array Slot), va_P (dC, dI) classes (w9 ca q S) H → va_D A (w9 ca q S) → va_S A s.heap H locs → lv_has ls 6 [(0, .ref (q 0)), (1, .int (v1)), (2, .int (v2)), (3, .int (v3))] → W p l e rmX11_fittingLaws s m args below meth c H locs 0 0 (MQ below (tc_QI dC dI ca A (w9 ca q S) (z)) args s 0 0 A) (F0 m 4 ls [])) : ∀ n : Nat, ∀ (v1 : Int32) (v2 : Int32) (v3 : Int32) (v4 : Int32) (v5 : Int32), fX11_fittingLaws_16 S k4 n v1 v2 v3 v4 v5 = some z → ∀ (H : Heap) (locs : List Loc) (ls : Array Slot), va_P (dC, dI) classes (w9 ca q S) H → va_D A (w9 ca q S) → va_S A s.heap H locs → lv_has ls 6 [(0, .ref (q 0)), (1, .int (v1)), (2, .int (v2)), (3, .int (v3)), (4, .int (v4)), (5, .int (v5))] → W p l e rmX11_fittingLaws s m args below meth c H locs 0 0 (MQ below (tc_QI dC dI ca A (w9 ca q S) (z)) args s 0 0 A) (F0 m 16 ls []) := by
  obtain ⟨hx, hb, hr, hml, hown, hts, hlk, hK, hA, hG⟩ := id X
  intro n
  induction n with
  | zero => intro v1 v2 v3 v4 v5 hf; exact absurd (show none = some z from hf) (fun h => by cases h)
  | succ n ih =>
    intro v1 v2 v3 v4 v5 hf H locs ls hP hD hS hl
    rw [fX11_fittingLaws_16] at hf
    refine lv_iload hx hb dX11_fittingLaws_16 (lv_at hl 5 rfl) ?_
    refine lv_iload_n hx hb dX11_fittingLaws_18 rfl (lv_at hl 1 rfl) ?_
    refine lv_icmp_ge (tgt := 70) hx hb dX11_fittingLaws_19 (by decide) (fun hc => ?_) (fun hc => ?_)
    · have hf := tc_pos hc hf
      exact tX11_fittingLaws_70 X z S k4 hk4 v1 v2 v3 v4 hf _ _ _ hP hD hS (lv_sub hl [0, 1, 2, 3, 4] rfl)
    · have hf := tc_neg hc hf
      refine lv_iload hx hb dX11_fittingLaws_22 (lv_at hl 4 rfl) ?_
      refine lv_if_eq (tgt := 70) hx hb dX11_fittingLaws_24 (by decide) (fun hc => ?_) (fun hc => ?_)
      · have hf := tc_pos hc hf
        exact tX11_fittingLaws_70 X z S k4 hk4 v1 v2 v3 v4 hf _ _ _ hP hD hS (lv_sub hl [0, 1, 2, 3, 4] rfl)
      · have hf := tc_neg hc hf
        refine lv_iload_n hx hb dX11_fittingLaws_27 rfl (lv_at hl 3 rfl) ?_
        refine lv_aload_n hx hb dX11_fittingLaws_28 rfl (lv_at hl 0 rfl) ?_
        refine va_get (D := (dC, dI)) (ci := 9) (v := .ref (q 1)) (C := RX9) (T := TX9) (N := 3) hx hb hts i_X9 hown hK hP 0 rfl rfl 0 (by decide) (hts _ wf_X11_125) (fun _ h9 => h9) rfl dX11_fittingLaws_29 ?_
        refine lv_iconst (v := (2 : Int32)) hx hb dX11_fittingLaws_32 (by decide) ?_
        refine lv_iload hx hb dX11_fittingLaws_33 (lv_at hl 5 rfl) ?_
        refine lv_imul hx hb dX11_fittingLaws_35 ?_
        obtain ⟨hi1, hf⟩ := tc_in hf
        refine va_lald hx hb hK hP 1 2 rfl rfl hi1 dX11_fittingLaws_36 ?_
        refine lv_l2i (v := (la S 1 ((2 : Int32) * v5)).toInt32) hx hb dX11_fittingLaws_37 rfl ?_
        obtain ⟨z2, hg, hf⟩ := tc_bi hf
        refine tc_iS0 (As := [.int (v3), .int ((la S 1 ((2 : Int32) * v5)).toInt32)]) (rest := []) X hP hD hS (mX11_landsBy hg) okX11_landsBy wl_X11_431 wt_X11_landsBy ⟨rfl, rfl, Nat.le_of_ble_eq_true rfl, Nat.le_of_ble_eq_true rfl⟩ rfl hl.1 (Nat.le_of_ble_eq_true rfl) dX11_fittingLaws_38 (fun H locs hP hD hS => ?_)
        refine lv_i2l (v := z2.toInt64) hx hb dX11_fittingLaws_41 rfl ?_
        refine lv_aload_n hx hb dX11_fittingLaws_42 rfl (lv_at hl 0 rfl) ?_
        refine va_get (D := (dC, dI)) (ci := 9) (v := .ref (q 1)) (C := RX9) (T := TX9) (N := 3) hx hb hts i_X9 hown hK hP 0 rfl rfl 0 (by decide) (hts _ wf_X11_125) (fun _ h9 => h9) rfl dX11_fittingLaws_43 ?_
        refine lv_iconst (v := (2 : Int32)) hx hb dX11_fittingLaws_46 (by decide) ?_
        refine lv_iload hx hb dX11_fittingLaws_47 (lv_at hl 5 rfl) ?_
        refine lv_imul hx hb dX11_fittingLaws_49 ?_
        refine lv_iconst (v := (1 : Int32)) hx hb dX11_fittingLaws_50 (by decide) ?_
        refine lv_iadd hx hb dX11_fittingLaws_51 ?_
        obtain ⟨hi3, hf⟩ := tc_in hf
        refine va_lald hx hb hK hP 1 2 rfl rfl hi3 dX11_fittingLaws_52 ?_
        refine W.lcmp hx hb dX11_fittingLaws_53 ?_
        refine lv_if_ne (tgt := 61) hx hb dX11_fittingLaws_54 (by decide) (fun hc => ?_) (fun hc => ?_)
        · have hf := tc_neg hc hf
          refine lv_iconst (v := (0 : Int32)) hx hb dX11_fittingLaws_61 (by decide) ?_
          refine lv_istore (lv' := [(4, .int ((0 : Int32))), (0, .ref (q 0)), (1, .int (v1)), (2, .int (v2)), (3, .int (v3)), (5, .int (v5))]) hx hb dX11_fittingLaws_62 hl (by decide) rfl (fun ls hl => ?_)
          refine lv_iinc (v := v5 + (1 : Int32)) (lv' := [(5, .int (v5 + (1 : Int32))), (4, .int ((0 : Int32))), (0, .ref (q 0)), (1, .int (v1)), (2, .int (v2)), (3, .int (v3))]) hx hb dX11_fittingLaws_64 hl (k := 5) rfl rfl (by decide) rfl (fun ls hl => ?_)
          refine lv_goto (tgt := 16) hx hb dX11_fittingLaws_67 (by decide) ?_
          exact ih v1 v2 v3 (0 : Int32) (v5 + (1 : Int32)) hf _ _ _ hP hD hS (lv_sub hl [2, 3, 4, 5, 1, 0] rfl)
        · have hf := tc_pos hc hf
          refine lv_iconst (v := (1 : Int32)) hx hb dX11_fittingLaws_57 (by decide) ?_
          refine lv_goto (tgt := 62) hx hb dX11_fittingLaws_58 (by decide) ?_
          refine lv_istore (lv' := [(4, .int ((1 : Int32))), (0, .ref (q 0)), (1, .int (v1)), (2, .int (v2)), (3, .int (v3)), (5, .int (v5))]) hx hb dX11_fittingLaws_62 hl (by decide) rfl (fun ls hl => ?_)
          refine lv_iinc (v := v5 + (1 : Int32)) (lv' := [(5, .int (v5 + (1 : Int32))), (4, .int ((1 : Int32))), (0, .ref (q 0)), (1, .int (v1)), (2, .int (v2)), (3, .int (v3))]) hx hb dX11_fittingLaws_64 hl (k := 5) rfl rfl (by decide) rfl (fun ls hl => ?_)
          refine lv_goto (tgt := 16) hx hb dX11_fittingLaws_67 (by decide) ?_
          exact ih v1 v2 v3 (1 : Int32) (v5 + (1 : Int32)) hf _ _ _ hP hD hS (lv_sub hl [2, 3, 4, 5, 1, 0] rfl)
set_option maxRecDepth 20000 in
theorem tX11_fittingLaws_4 {q : Nat → Nat}  (X : tc_X dC dI ca A RX11 cX11_fittingLaws 6 (some .int) p s m args meth c) (z : Int32)  (S : ms_T)   : ∀ n : Nat, ∀ (v1 : Int32) (v2 : Int32) (v3 : Int32), fX11_fittingLaws_4 S n v1 v2 v3 = some z → ∀ (H : Heap) (locs : List Loc) (ls : Array Slot), va_P (dC, dI) classes (w9 ca q S) H → va_D A (w9 ca q S) → va_S A s.heap H locs → lv_has ls 6 [(0, .ref (q 0)), (1, .int (v1)), (2, .int (v2)), (3, .int (v3))] → W p l e rmX11_fittingLaws s m args below meth c H locs 0 0 (MQ below (tc_QI dC dI ca A (w9 ca q S) (z)) args s 0 0 A) (F0 m 4 ls []) := by
  obtain ⟨hx, hb, hr, hml, hown, hts, hlk, hK, hA, hG⟩ := id X
  intro n
  induction n with
  | zero => intro v1 v2 v3 hf; exact absurd (show none = some z from hf) (fun h => by cases h)
  | succ n ih =>
    intro v1 v2 v3 hf H locs ls hP hD hS hl
    rw [fX11_fittingLaws_4] at hf
    refine lv_iload_n hx hb dX11_fittingLaws_4 rfl (lv_at hl 3 rfl) ?_
    refine lv_bipush (v := (32 : Int32)) hx hb dX11_fittingLaws_5 (by decide) ?_
    refine lv_icmp_ge (tgt := 87) hx hb dX11_fittingLaws_7 (by decide) (fun hc => ?_) (fun hc => ?_)
    · have hf := tc_pos hc hf
      refine lv_iload_n hx hb dX11_fittingLaws_87 rfl (lv_at hl 2 rfl) ?_
      obtain rfl := Option.some.inj hf
      exact tc_ri X hP hD hS rfl dX11_fittingLaws_88 rfl rfl
    · have hf := tc_neg hc hf
      refine lv_iconst (v := (1 : Int32)) hx hb dX11_fittingLaws_10 (by decide) ?_
      refine lv_istore (lv' := [(4, .int ((1 : Int32))), (0, .ref (q 0)), (1, .int (v1)), (2, .int (v2)), (3, .int (v3))]) hx hb dX11_fittingLaws_11 hl (by decide) rfl (fun ls hl => ?_)
      refine lv_iconst (v := (0 : Int32)) hx hb dX11_fittingLaws_13 (by decide) ?_
      refine lv_istore (lv' := [(5, .int ((0 : Int32))), (4, .int ((1 : Int32))), (0, .ref (q 0)), (1, .int (v1)), (2, .int (v2)), (3, .int (v3))]) hx hb dX11_fittingLaws_14 hl (by decide) rfl (fun ls hl => ?_)
      exact tX11_fittingLaws_16 X z S (fX11_fittingLaws_4 S n) ih FU v1 v2 v3 (1 : Int32) (0 : Int32) hf _ _ _ hP hD hS (lv_sub hl [2, 3, 4, 5, 1, 0] rfl)
set_option maxRecDepth 20000 in
theorem mX11_fittingLaws {q : Nat → Nat}  {S : ms_T} {a1 : Int32} {z : Int32}  (hf : fX11_fittingLaws S a1 = some z) : tc_MI l dC dI ca yX11_fittingLaws cX11_fittingLaws 6 (some .int) rmX11_fittingLaws [.ref (q 0), .int (a1)] (w9 ca q S) (w9 ca q S) (z) := by
  refine tc_metI (own := RX11) (by decide) rfl ?_ (Nat.le_of_ble_eq_true rfl)
  intro p e s m below meth c A X hP hD hS ls hl
  obtain ⟨hx, hb, hr, hml, hown, hts, hlk, hK, hA, hG⟩ := id X
  unfold fX11_fittingLaws at hf
  have hl : lv_has ls 6 [(0, .ref (q 0)), (1, .int (a1))] := hl
  refine lv_iconst (v := (0 : Int32)) hx hb dX11_fittingLaws_0 (by decide) ?_
  refine lv_istore_n (lv' := [(2, .int ((0 : Int32))), (0, .ref (q 0)), (1, .int (a1))]) hx hb dX11_fittingLaws_1 rfl hl (by decide) rfl (fun ls hl => ?_)
  refine lv_iconst (v := (0 : Int32)) hx hb dX11_fittingLaws_2 (by decide) ?_
  refine lv_istore_n (lv' := [(3, .int ((0 : Int32))), (2, .int ((0 : Int32))), (0, .ref (q 0)), (1, .int (a1))]) hx hb dX11_fittingLaws_3 rfl hl (by decide) rfl (fun ls hl => ?_)
  exact tX11_fittingLaws_4 X z S FU a1 (0 : Int32) (0 : Int32) hf _ _ _ hP hD hS (lv_sub hl [2, 3, 1, 0] rfl)
def fX11_laws  (SC : ms_T) (SY0 : ms_T) (SY1 : ms_T) (SY2 : ms_T) (SY3 : ms_T) (a1 : Int32) (a2 : Int32) : Option (Int32 × ms_T) :=
  (fX11_lawStatus SC SY0 SY1 SY2 SY3 a1 a2).bind fun z1 =>
  if z1 = 0 then
    if a1 = (0 : Int32) then
      (fX11_fittingLaws SY0 a2).bind fun z3 =>
      (fJ6_bitCount_0f7a4 z3).bind fun z4 =>
      (fX11_answer SC z4).bind fun z5 =>
      some (z5.1, z5.2)
    else
      if a1 = (1 : Int32) then
        (fX11_fittingLaws SY1 a2).bind fun z6 =>
        (fJ6_bitCount_0f7a4 z6).bind fun z7 =>
        (fX11_answer SC z7).bind fun z8 =>
        some (z8.1, z8.2)
      else
        if a1 = (2 : Int32) then
          (fX11_fittingLaws SY2 a2).bind fun z9 =>
          (fJ6_bitCount_0f7a4 z9).bind fun z10 =>
          (fX11_answer SC z10).bind fun z11 =>
          some (z11.1, z11.2)
        else
          if a1 = (3 : Int32) then
            (fX11_fittingLaws SY3 a2).bind fun z12 =>
            (fJ6_bitCount_0f7a4 z12).bind fun z13 =>
            (fX11_answer SC z13).bind fun z14 =>
            some (z14.1, z14.2)
          else
            none
  else
    (fX11_refuse SC z1).bind fun z15 =>
    some (z15.1, z15.2)
abbrev rmX11_laws : Room := { frames := 3, cells := 0, slots := 0, locals := 70 }
theorem okX11_laws : tc_ok yX11_laws cX11_laws 4 (some .int) 2 := ⟨wc_X11_laws, wn_X11, by decide, by decide, by decide +kernel⟩
set_option maxRecDepth 20000 in
theorem mX11_laws {qC : Nat → Nat} {qA : Nat → Nat} {qY0 : Nat → Nat} {qY1 : Nat → Nat} {qY2 : Nat → Nat} {qY3 : Nat → Nat} {rC4 : Value} {rC6 : Value} {rC7 : Value} {rC10 : Value} {rC11 : Value} {rC12 : Value} {rC14 : Value} {rC15 : Value} {rC17 : Value} {rC18 : Value} {rC19 : Value} {SC : ms_T} {SY0 : ms_T} {SY1 : ms_T} {SY2 : ms_T} {SY3 : ms_T} {a1 : Int32} {a2 : Int32} {z : Int32 × ms_T}  (hf : fX11_laws SC SY0 SY1 SY2 SY3 a1 a2 = some z) : tc_MI l dC dI ca yX11_laws cX11_laws 4 (some .int) rmX11_laws [.ref (qC 0), .int (a1), .int (a2)] (w11 ca qC (.ref (qA 0)) (rC4) (rC6) (rC7) (rC10) (rC11) (rC12) (rC14) (rC15) (rC17) (rC18) (rC19) SC ++ wLT ca qA (rf4 (qY0 0) (qY1 0) (qY2 0) (qY3 0)) ++ w9 ca qY0 SY0 ++ w9 ca qY1 SY1 ++ w9 ca qY2 SY2 ++ w9 ca qY3 SY3) (w11 ca qC (.ref (qA 0)) (rC4) (rC6) (rC7) (rC10) (rC11) (rC12) (rC14) (rC15) (rC17) (rC18) (rC19) z.2 ++ wLT ca qA (rf4 (qY0 0) (qY1 0) (qY2 0) (qY3 0)) ++ w9 ca qY0 SY0 ++ w9 ca qY1 SY1 ++ w9 ca qY2 SY2 ++ w9 ca qY3 SY3) (z.1) := by
  refine tc_metI (own := RX11) (by decide) rfl ?_ (Nat.le_of_ble_eq_true rfl)
  intro p e s m below meth c A X hP hD hS ls hl
  obtain ⟨hx, hb, hr, hml, hown, hts, hlk, hK, hA, hG⟩ := id X
  unfold fX11_laws at hf
  have hl : lv_has ls 4 [(0, .ref (qC 0)), (1, .int (a1)), (2, .int (a2))] := hl
  refine lv_aload_n hx hb dX11_laws_0 rfl (lv_at hl 0 rfl) ?_
  refine lv_iload_n hx hb dX11_laws_1 rfl (lv_at hl 1 rfl) ?_
  refine lv_iload_n hx hb dX11_laws_2 rfl (lv_at hl 2 rfl) ?_
  obtain ⟨z1, hg, hf⟩ := tc_bi hf
  refine tc_iVs (As := [.int (a1), .int (a2)]) (rest := []) (b := qC 0) X hP hD hS (mX11_lawStatus hg) okX11_lawStatus wl_X11_332 wi_X11_lawStatus ws_X11_X11_lawStatus_X11_lawStatus ⟨rfl, rfl, Nat.le_of_ble_eq_true rfl, Nat.le_of_ble_eq_true rfl⟩ 11 0 rfl rfl rfl hl.1 (Nat.le_of_ble_eq_true rfl) dX11_laws_3 (fun H locs hP hD hS => ?_)
  refine lv_istore_n (lv' := [(3, .int (z1)), (0, .ref (qC 0)), (1, .int (a1)), (2, .int (a2))]) hx hb dX11_laws_6 rfl hl (by decide) rfl (fun ls hl => ?_)
  refine lv_iload_n hx hb dX11_laws_7 rfl (lv_at hl 0 rfl) ?_
  refine lv_if_eq (tgt := 17) hx hb dX11_laws_8 (by decide) (fun hc => ?_) (fun hc => ?_)
  · have hf := tc_pos hc hf
    refine lv_aload_n hx hb dX11_laws_17 rfl (lv_at hl 1 rfl) ?_
    refine lv_aload_n hx hb dX11_laws_18 rfl (lv_at hl 1 rfl) ?_
    refine va_get (D := (dC, dI)) (ci := 11) (v := .ref (qA 0)) (C := RX11) (T := TX11) (N := 20) hx hb hts i_X11 hown hK hP 0 rfl rfl 3 (by decide) (hts _ wf_X11_11) (fun _ h9 => h9) rfl dX11_laws_19 ?_
    refine lv_iload_n hx hb dX11_laws_22 rfl (lv_at hl 2 rfl) ?_
    by_cases hq2_0 : a1 = (0 : Int32)
    · have hf := tc_pos hq2_0 hf
      refine tc_ald (b := qY0 0) X hP 1 4 rfl rfl 0 (by rw [hq2_0]; decide) (by rw [hq2_0]; exact inb_vp (by decide)) rfl dX11_laws_23 ?_
      refine lv_iload_n hx hb dX11_laws_24 rfl (lv_at hl 3 rfl) ?_
      obtain ⟨z3, hg, hf⟩ := tc_bi hf
      refine tc_iS (As := [.ref (qY0 0), .int (a2)]) (rest := [.ref (qC 0)]) (wc := w9 ca qY0 SY0) (wr := w11 ca qC (.ref (qA 0)) (rC4) (rC6) (rC7) (rC10) (rC11) (rC12) (rC14) (rC15) (rC17) (rC18) (rC19) SC ++ wLT ca qA (rf4 (qY0 0) (qY1 0) (qY2 0) (qY3 0)) ++ w9 ca qY1 SY1 ++ w9 ca qY2 SY2 ++ w9 ca qY3 SY3) X hP hD hS (mX11_fittingLaws hg) okX11_fittingLaws wl_X11_335 wt_X11_fittingLaws ⟨rfl, rfl, Nat.le_of_ble_eq_true rfl, Nat.le_of_ble_eq_true rfl⟩ [2, 3] [0, 1, 4, 5, 6, 7, 8, 9] ⟨rfl, rfl, rfl, rfl, by decide⟩ rfl hl.1 (Nat.le_of_ble_eq_true rfl) dX11_laws_25 (fun H locs hP hD hS => ?_)
      have hP := hP.sub (ws' := (w11 ca qC (.ref (qA 0)) (rC4) (rC6) (rC7) (rC10) (rC11) (rC12) (rC14) (rC15) (rC17) (rC18) (rC19) SC ++ wLT ca qA (rf4 (qY0 0) (qY1 0) (qY2 0) (qY3 0)) ++ w9 ca qY0 SY0 ++ w9 ca qY1 SY1 ++ w9 ca qY2 SY2 ++ w9 ca qY3 SY3)) [0, 1, 8, 9, 2, 3, 4, 5, 6, 7] rfl
      have hD := hD.sub (ws' := (w11 ca qC (.ref (qA 0)) (rC4) (rC6) (rC7) (rC10) (rC11) (rC12) (rC14) (rC15) (rC17) (rC18) (rC19) SC ++ wLT ca qA (rf4 (qY0 0) (qY1 0) (qY2 0) (qY3 0)) ++ w9 ca qY0 SY0 ++ w9 ca qY1 SY1 ++ w9 ca qY2 SY2 ++ w9 ca qY3 SY3)) [0, 1, 8, 9, 2, 3, 4, 5, 6, 7] rfl rfl
      obtain ⟨z4, hg, hf⟩ := tc_bi hf
      refine tc_iS0 (As := [.int (z3)]) (rest := [.ref (qC 0)]) X hP hD hS (mJ6_bitCount_0f7a4 hg) okJ6_bitCount_0f7a4 wl_X11_284 wt_J6_bitCount_0f7a4 ⟨rfl, rfl, Nat.le_of_ble_eq_true rfl, Nat.le_of_ble_eq_true rfl⟩ rfl hl.1 (Nat.le_of_ble_eq_true rfl) dX11_laws_28 (fun H locs hP hD hS => ?_)
      obtain ⟨z5, hg, hf⟩ := tc_bi hf
      refine tc_iV (As := [.int (z4)]) (rest := []) (b := qC 0) (wc := w11 ca qC (.ref (qA 0)) (rC4) (rC6) (rC7) (rC10) (rC11) (rC12) (rC14) (rC15) (rC17) (rC18) (rC19) SC) (wr := wLT ca qA (rf4 (qY0 0) (qY1 0) (qY2 0) (qY3 0)) ++ w9 ca qY0 SY0 ++ w9 ca qY1 SY1 ++ w9 ca qY2 SY2 ++ w9 ca qY3 SY3) X hP hD hS (mX11_answer hg) okX11_answer wl_X11_182 wi_X11_answer ws_X11_X11_answer_X11_answer ⟨rfl, rfl, Nat.le_of_ble_eq_true rfl, Nat.le_of_ble_eq_true rfl⟩ 11 0 rfl rfl [0] [1, 2, 3, 4, 5, 6, 7, 8, 9] ⟨rfl, rfl, rfl, rfl, by decide⟩ rfl hl.1 (Nat.le_of_ble_eq_true rfl) dX11_laws_31 (fun H locs hP hD hS => ?_)
      have hP := hP.sub (ws' := (w11 ca qC (.ref (qA 0)) (rC4) (rC6) (rC7) (rC10) (rC11) (rC12) (rC14) (rC15) (rC17) (rC18) (rC19) z5.2 ++ wLT ca qA (rf4 (qY0 0) (qY1 0) (qY2 0) (qY3 0)) ++ w9 ca qY0 SY0 ++ w9 ca qY1 SY1 ++ w9 ca qY2 SY2 ++ w9 ca qY3 SY3)) [9, 0, 1, 2, 3, 4, 5, 6, 7, 8] rfl
      have hD := hD.sub (ws' := (w11 ca qC (.ref (qA 0)) (rC4) (rC6) (rC7) (rC10) (rC11) (rC12) (rC14) (rC15) (rC17) (rC18) (rC19) z5.2 ++ wLT ca qA (rf4 (qY0 0) (qY1 0) (qY2 0) (qY3 0)) ++ w9 ca qY0 SY0 ++ w9 ca qY1 SY1 ++ w9 ca qY2 SY2 ++ w9 ca qY3 SY3)) [9, 0, 1, 2, 3, 4, 5, 6, 7, 8] rfl rfl
      obtain rfl := Option.some.inj hf
      exact tc_ri X hP hD hS rfl dX11_laws_34 rfl rfl
    · have hf := tc_neg hq2_0 hf
      by_cases hq2_1 : a1 = (1 : Int32)
      · have hf := tc_pos hq2_1 hf
        refine tc_ald (b := qY1 0) X hP 1 4 rfl rfl 1 (by rw [hq2_1]; decide) (by rw [hq2_1]; exact inb_vp (by decide)) rfl dX11_laws_23 ?_
        refine lv_iload_n hx hb dX11_laws_24 rfl (lv_at hl 3 rfl) ?_
        obtain ⟨z6, hg, hf⟩ := tc_bi hf
        refine tc_iS (As := [.ref (qY1 0), .int (a2)]) (rest := [.ref (qC 0)]) (wc := w9 ca qY1 SY1) (wr := w11 ca qC (.ref (qA 0)) (rC4) (rC6) (rC7) (rC10) (rC11) (rC12) (rC14) (rC15) (rC17) (rC18) (rC19) SC ++ wLT ca qA (rf4 (qY0 0) (qY1 0) (qY2 0) (qY3 0)) ++ w9 ca qY0 SY0 ++ w9 ca qY2 SY2 ++ w9 ca qY3 SY3) X hP hD hS (mX11_fittingLaws hg) okX11_fittingLaws wl_X11_335 wt_X11_fittingLaws ⟨rfl, rfl, Nat.le_of_ble_eq_true rfl, Nat.le_of_ble_eq_true rfl⟩ [4, 5] [0, 1, 2, 3, 6, 7, 8, 9] ⟨rfl, rfl, rfl, rfl, by decide⟩ rfl hl.1 (Nat.le_of_ble_eq_true rfl) dX11_laws_25 (fun H locs hP hD hS => ?_)
        have hP := hP.sub (ws' := (w11 ca qC (.ref (qA 0)) (rC4) (rC6) (rC7) (rC10) (rC11) (rC12) (rC14) (rC15) (rC17) (rC18) (rC19) SC ++ wLT ca qA (rf4 (qY0 0) (qY1 0) (qY2 0) (qY3 0)) ++ w9 ca qY0 SY0 ++ w9 ca qY1 SY1 ++ w9 ca qY2 SY2 ++ w9 ca qY3 SY3)) [0, 1, 2, 3, 8, 9, 4, 5, 6, 7] rfl
        have hD := hD.sub (ws' := (w11 ca qC (.ref (qA 0)) (rC4) (rC6) (rC7) (rC10) (rC11) (rC12) (rC14) (rC15) (rC17) (rC18) (rC19) SC ++ wLT ca qA (rf4 (qY0 0) (qY1 0) (qY2 0) (qY3 0)) ++ w9 ca qY0 SY0 ++ w9 ca qY1 SY1 ++ w9 ca qY2 SY2 ++ w9 ca qY3 SY3)) [0, 1, 2, 3, 8, 9, 4, 5, 6, 7] rfl rfl
        obtain ⟨z7, hg, hf⟩ := tc_bi hf
        refine tc_iS0 (As := [.int (z6)]) (rest := [.ref (qC 0)]) X hP hD hS (mJ6_bitCount_0f7a4 hg) okJ6_bitCount_0f7a4 wl_X11_284 wt_J6_bitCount_0f7a4 ⟨rfl, rfl, Nat.le_of_ble_eq_true rfl, Nat.le_of_ble_eq_true rfl⟩ rfl hl.1 (Nat.le_of_ble_eq_true rfl) dX11_laws_28 (fun H locs hP hD hS => ?_)
        obtain ⟨z8, hg, hf⟩ := tc_bi hf
        refine tc_iV (As := [.int (z7)]) (rest := []) (b := qC 0) (wc := w11 ca qC (.ref (qA 0)) (rC4) (rC6) (rC7) (rC10) (rC11) (rC12) (rC14) (rC15) (rC17) (rC18) (rC19) SC) (wr := wLT ca qA (rf4 (qY0 0) (qY1 0) (qY2 0) (qY3 0)) ++ w9 ca qY0 SY0 ++ w9 ca qY1 SY1 ++ w9 ca qY2 SY2 ++ w9 ca qY3 SY3) X hP hD hS (mX11_answer hg) okX11_answer wl_X11_182 wi_X11_answer ws_X11_X11_answer_X11_answer ⟨rfl, rfl, Nat.le_of_ble_eq_true rfl, Nat.le_of_ble_eq_true rfl⟩ 11 0 rfl rfl [0] [1, 2, 3, 4, 5, 6, 7, 8, 9] ⟨rfl, rfl, rfl, rfl, by decide⟩ rfl hl.1 (Nat.le_of_ble_eq_true rfl) dX11_laws_31 (fun H locs hP hD hS => ?_)
        have hP := hP.sub (ws' := (w11 ca qC (.ref (qA 0)) (rC4) (rC6) (rC7) (rC10) (rC11) (rC12) (rC14) (rC15) (rC17) (rC18) (rC19) z8.2 ++ wLT ca qA (rf4 (qY0 0) (qY1 0) (qY2 0) (qY3 0)) ++ w9 ca qY0 SY0 ++ w9 ca qY1 SY1 ++ w9 ca qY2 SY2 ++ w9 ca qY3 SY3)) [9, 0, 1, 2, 3, 4, 5, 6, 7, 8] rfl
        have hD := hD.sub (ws' := (w11 ca qC (.ref (qA 0)) (rC4) (rC6) (rC7) (rC10) (rC11) (rC12) (rC14) (rC15) (rC17) (rC18) (rC19) z8.2 ++ wLT ca qA (rf4 (qY0 0) (qY1 0) (qY2 0) (qY3 0)) ++ w9 ca qY0 SY0 ++ w9 ca qY1 SY1 ++ w9 ca qY2 SY2 ++ w9 ca qY3 SY3)) [9, 0, 1, 2, 3, 4, 5, 6, 7, 8] rfl rfl
        obtain rfl := Option.some.inj hf
        exact tc_ri X hP hD hS rfl dX11_laws_34 rfl rfl
      · have hf := tc_neg hq2_1 hf
        by_cases hq2_2 : a1 = (2 : Int32)
        · have hf := tc_pos hq2_2 hf
          refine tc_ald (b := qY2 0) X hP 1 4 rfl rfl 2 (by rw [hq2_2]; decide) (by rw [hq2_2]; exact inb_vp (by decide)) rfl dX11_laws_23 ?_
          refine lv_iload_n hx hb dX11_laws_24 rfl (lv_at hl 3 rfl) ?_
          obtain ⟨z9, hg, hf⟩ := tc_bi hf
          refine tc_iS (As := [.ref (qY2 0), .int (a2)]) (rest := [.ref (qC 0)]) (wc := w9 ca qY2 SY2) (wr := w11 ca qC (.ref (qA 0)) (rC4) (rC6) (rC7) (rC10) (rC11) (rC12) (rC14) (rC15) (rC17) (rC18) (rC19) SC ++ wLT ca qA (rf4 (qY0 0) (qY1 0) (qY2 0) (qY3 0)) ++ w9 ca qY0 SY0 ++ w9 ca qY1 SY1 ++ w9 ca qY3 SY3) X hP hD hS (mX11_fittingLaws hg) okX11_fittingLaws wl_X11_335 wt_X11_fittingLaws ⟨rfl, rfl, Nat.le_of_ble_eq_true rfl, Nat.le_of_ble_eq_true rfl⟩ [6, 7] [0, 1, 2, 3, 4, 5, 8, 9] ⟨rfl, rfl, rfl, rfl, by decide⟩ rfl hl.1 (Nat.le_of_ble_eq_true rfl) dX11_laws_25 (fun H locs hP hD hS => ?_)
          have hP := hP.sub (ws' := (w11 ca qC (.ref (qA 0)) (rC4) (rC6) (rC7) (rC10) (rC11) (rC12) (rC14) (rC15) (rC17) (rC18) (rC19) SC ++ wLT ca qA (rf4 (qY0 0) (qY1 0) (qY2 0) (qY3 0)) ++ w9 ca qY0 SY0 ++ w9 ca qY1 SY1 ++ w9 ca qY2 SY2 ++ w9 ca qY3 SY3)) [0, 1, 2, 3, 4, 5, 8, 9, 6, 7] rfl
          have hD := hD.sub (ws' := (w11 ca qC (.ref (qA 0)) (rC4) (rC6) (rC7) (rC10) (rC11) (rC12) (rC14) (rC15) (rC17) (rC18) (rC19) SC ++ wLT ca qA (rf4 (qY0 0) (qY1 0) (qY2 0) (qY3 0)) ++ w9 ca qY0 SY0 ++ w9 ca qY1 SY1 ++ w9 ca qY2 SY2 ++ w9 ca qY3 SY3)) [0, 1, 2, 3, 4, 5, 8, 9, 6, 7] rfl rfl
          obtain ⟨z10, hg, hf⟩ := tc_bi hf
          refine tc_iS0 (As := [.int (z9)]) (rest := [.ref (qC 0)]) X hP hD hS (mJ6_bitCount_0f7a4 hg) okJ6_bitCount_0f7a4 wl_X11_284 wt_J6_bitCount_0f7a4 ⟨rfl, rfl, Nat.le_of_ble_eq_true rfl, Nat.le_of_ble_eq_true rfl⟩ rfl hl.1 (Nat.le_of_ble_eq_true rfl) dX11_laws_28 (fun H locs hP hD hS => ?_)
          obtain ⟨z11, hg, hf⟩ := tc_bi hf
          refine tc_iV (As := [.int (z10)]) (rest := []) (b := qC 0) (wc := w11 ca qC (.ref (qA 0)) (rC4) (rC6) (rC7) (rC10) (rC11) (rC12) (rC14) (rC15) (rC17) (rC18) (rC19) SC) (wr := wLT ca qA (rf4 (qY0 0) (qY1 0) (qY2 0) (qY3 0)) ++ w9 ca qY0 SY0 ++ w9 ca qY1 SY1 ++ w9 ca qY2 SY2 ++ w9 ca qY3 SY3) X hP hD hS (mX11_answer hg) okX11_answer wl_X11_182 wi_X11_answer ws_X11_X11_answer_X11_answer ⟨rfl, rfl, Nat.le_of_ble_eq_true rfl, Nat.le_of_ble_eq_true rfl⟩ 11 0 rfl rfl [0] [1, 2, 3, 4, 5, 6, 7, 8, 9] ⟨rfl, rfl, rfl, rfl, by decide⟩ rfl hl.1 (Nat.le_of_ble_eq_true rfl) dX11_laws_31 (fun H locs hP hD hS => ?_)
          have hP := hP.sub (ws' := (w11 ca qC (.ref (qA 0)) (rC4) (rC6) (rC7) (rC10) (rC11) (rC12) (rC14) (rC15) (rC17) (rC18) (rC19) z11.2 ++ wLT ca qA (rf4 (qY0 0) (qY1 0) (qY2 0) (qY3 0)) ++ w9 ca qY0 SY0 ++ w9 ca qY1 SY1 ++ w9 ca qY2 SY2 ++ w9 ca qY3 SY3)) [9, 0, 1, 2, 3, 4, 5, 6, 7, 8] rfl
          have hD := hD.sub (ws' := (w11 ca qC (.ref (qA 0)) (rC4) (rC6) (rC7) (rC10) (rC11) (rC12) (rC14) (rC15) (rC17) (rC18) (rC19) z11.2 ++ wLT ca qA (rf4 (qY0 0) (qY1 0) (qY2 0) (qY3 0)) ++ w9 ca qY0 SY0 ++ w9 ca qY1 SY1 ++ w9 ca qY2 SY2 ++ w9 ca qY3 SY3)) [9, 0, 1, 2, 3, 4, 5, 6, 7, 8] rfl rfl
          obtain rfl := Option.some.inj hf
          exact tc_ri X hP hD hS rfl dX11_laws_34 rfl rfl
        · have hf := tc_neg hq2_2 hf
          by_cases hq2_3 : a1 = (3 : Int32)
          · have hf := tc_pos hq2_3 hf
            refine tc_ald (b := qY3 0) X hP 1 4 rfl rfl 3 (by rw [hq2_3]; decide) (by rw [hq2_3]; exact inb_vp (by decide)) rfl dX11_laws_23 ?_
            refine lv_iload_n hx hb dX11_laws_24 rfl (lv_at hl 3 rfl) ?_
            obtain ⟨z12, hg, hf⟩ := tc_bi hf
            refine tc_iS (As := [.ref (qY3 0), .int (a2)]) (rest := [.ref (qC 0)]) (wc := w9 ca qY3 SY3) (wr := w11 ca qC (.ref (qA 0)) (rC4) (rC6) (rC7) (rC10) (rC11) (rC12) (rC14) (rC15) (rC17) (rC18) (rC19) SC ++ wLT ca qA (rf4 (qY0 0) (qY1 0) (qY2 0) (qY3 0)) ++ w9 ca qY0 SY0 ++ w9 ca qY1 SY1 ++ w9 ca qY2 SY2) X hP hD hS (mX11_fittingLaws hg) okX11_fittingLaws wl_X11_335 wt_X11_fittingLaws ⟨rfl, rfl, Nat.le_of_ble_eq_true rfl, Nat.le_of_ble_eq_true rfl⟩ [8, 9] [0, 1, 2, 3, 4, 5, 6, 7] ⟨rfl, rfl, rfl, rfl, by decide⟩ rfl hl.1 (Nat.le_of_ble_eq_true rfl) dX11_laws_25 (fun H locs hP hD hS => ?_)
            have hP := hP.sub (ws' := (w11 ca qC (.ref (qA 0)) (rC4) (rC6) (rC7) (rC10) (rC11) (rC12) (rC14) (rC15) (rC17) (rC18) (rC19) SC ++ wLT ca qA (rf4 (qY0 0) (qY1 0) (qY2 0) (qY3 0)) ++ w9 ca qY0 SY0 ++ w9 ca qY1 SY1 ++ w9 ca qY2 SY2 ++ w9 ca qY3 SY3)) [0, 1, 2, 3, 4, 5, 6, 7, 8, 9] rfl
            have hD := hD.sub (ws' := (w11 ca qC (.ref (qA 0)) (rC4) (rC6) (rC7) (rC10) (rC11) (rC12) (rC14) (rC15) (rC17) (rC18) (rC19) SC ++ wLT ca qA (rf4 (qY0 0) (qY1 0) (qY2 0) (qY3 0)) ++ w9 ca qY0 SY0 ++ w9 ca qY1 SY1 ++ w9 ca qY2 SY2 ++ w9 ca qY3 SY3)) [0, 1, 2, 3, 4, 5, 6, 7, 8, 9] rfl rfl
            obtain ⟨z13, hg, hf⟩ := tc_bi hf
            refine tc_iS0 (As := [.int (z12)]) (rest := [.ref (qC 0)]) X hP hD hS (mJ6_bitCount_0f7a4 hg) okJ6_bitCount_0f7a4 wl_X11_284 wt_J6_bitCount_0f7a4 ⟨rfl, rfl, Nat.le_of_ble_eq_true rfl, Nat.le_of_ble_eq_true rfl⟩ rfl hl.1 (Nat.le_of_ble_eq_true rfl) dX11_laws_28 (fun H locs hP hD hS => ?_)
            obtain ⟨z14, hg, hf⟩ := tc_bi hf
            refine tc_iV (As := [.int (z13)]) (rest := []) (b := qC 0) (wc := w11 ca qC (.ref (qA 0)) (rC4) (rC6) (rC7) (rC10) (rC11) (rC12) (rC14) (rC15) (rC17) (rC18) (rC19) SC) (wr := wLT ca qA (rf4 (qY0 0) (qY1 0) (qY2 0) (qY3 0)) ++ w9 ca qY0 SY0 ++ w9 ca qY1 SY1 ++ w9 ca qY2 SY2 ++ w9 ca qY3 SY3) X hP hD hS (mX11_answer hg) okX11_answer wl_X11_182 wi_X11_answer ws_X11_X11_answer_X11_answer ⟨rfl, rfl, Nat.le_of_ble_eq_true rfl, Nat.le_of_ble_eq_true rfl⟩ 11 0 rfl rfl [0] [1, 2, 3, 4, 5, 6, 7, 8, 9] ⟨rfl, rfl, rfl, rfl, by decide⟩ rfl hl.1 (Nat.le_of_ble_eq_true rfl) dX11_laws_31 (fun H locs hP hD hS => ?_)
            have hP := hP.sub (ws' := (w11 ca qC (.ref (qA 0)) (rC4) (rC6) (rC7) (rC10) (rC11) (rC12) (rC14) (rC15) (rC17) (rC18) (rC19) z14.2 ++ wLT ca qA (rf4 (qY0 0) (qY1 0) (qY2 0) (qY3 0)) ++ w9 ca qY0 SY0 ++ w9 ca qY1 SY1 ++ w9 ca qY2 SY2 ++ w9 ca qY3 SY3)) [9, 0, 1, 2, 3, 4, 5, 6, 7, 8] rfl
            have hD := hD.sub (ws' := (w11 ca qC (.ref (qA 0)) (rC4) (rC6) (rC7) (rC10) (rC11) (rC12) (rC14) (rC15) (rC17) (rC18) (rC19) z14.2 ++ wLT ca qA (rf4 (qY0 0) (qY1 0) (qY2 0) (qY3 0)) ++ w9 ca qY0 SY0 ++ w9 ca qY1 SY1 ++ w9 ca qY2 SY2 ++ w9 ca qY3 SY3)) [9, 0, 1, 2, 3, 4, 5, 6, 7, 8] rfl rfl
            obtain rfl := Option.some.inj hf
            exact tc_ri X hP hD hS rfl dX11_laws_34 rfl rfl
          · have hf := tc_neg hq2_3 hf
            cases hf
  · have hf := tc_neg hc hf
    refine lv_aload_n hx hb dX11_laws_11 rfl (lv_at hl 1 rfl) ?_
    refine lv_iload_n hx hb dX11_laws_12 rfl (lv_at hl 0 rfl) ?_
    obtain ⟨z15, hg, hf⟩ := tc_bi hf
    refine tc_iV (As := [.int (z1)]) (rest := []) (b := qC 0) (wc := w11 ca qC (.ref (qA 0)) (rC4) (rC6) (rC7) (rC10) (rC11) (rC12) (rC14) (rC15) (rC17) (rC18) (rC19) SC) (wr := wLT ca qA (rf4 (qY0 0) (qY1 0) (qY2 0) (qY3 0)) ++ w9 ca qY0 SY0 ++ w9 ca qY1 SY1 ++ w9 ca qY2 SY2 ++ w9 ca qY3 SY3) X hP hD hS (mX11_refuse hg) okX11_refuse wl_X11_121 wi_X11_refuse ws_X11_X11_refuse_X11_refuse ⟨rfl, rfl, Nat.le_of_ble_eq_true rfl, Nat.le_of_ble_eq_true rfl⟩ 11 0 rfl rfl [0] [1, 2, 3, 4, 5, 6, 7, 8, 9] ⟨rfl, rfl, rfl, rfl, by decide⟩ rfl hl.1 (Nat.le_of_ble_eq_true rfl) dX11_laws_13 (fun H locs hP hD hS => ?_)
    have hP := hP.sub (ws' := (w11 ca qC (.ref (qA 0)) (rC4) (rC6) (rC7) (rC10) (rC11) (rC12) (rC14) (rC15) (rC17) (rC18) (rC19) z15.2 ++ wLT ca qA (rf4 (qY0 0) (qY1 0) (qY2 0) (qY3 0)) ++ w9 ca qY0 SY0 ++ w9 ca qY1 SY1 ++ w9 ca qY2 SY2 ++ w9 ca qY3 SY3)) [9, 0, 1, 2, 3, 4, 5, 6, 7, 8] rfl
    have hD := hD.sub (ws' := (w11 ca qC (.ref (qA 0)) (rC4) (rC6) (rC7) (rC10) (rC11) (rC12) (rC14) (rC15) (rC17) (rC18) (rC19) z15.2 ++ wLT ca qA (rf4 (qY0 0) (qY1 0) (qY2 0) (qY3 0)) ++ w9 ca qY0 SY0 ++ w9 ca qY1 SY1 ++ w9 ca qY2 SY2 ++ w9 ca qY3 SY3)) [9, 0, 1, 2, 3, 4, 5, 6, 7, 8] rfl rfl
    obtain rfl := Option.some.inj hf
    exact tc_ri X hP hD hS rfl dX11_laws_16 rfl rfl
def fX11_lawOf_29  (SY0 : ms_T) (SY1 : ms_T) (SY2 : ms_T) (SY3 : ms_T)  (SC : ms_T) : Option (Int32 × ms_T) :=
  (fX11_refuse SC (5 : Int32)).bind fun z2 =>
  some (z2.1, z2.2)
def fX11_lawOf_50  (SY0 : ms_T) (SY1 : ms_T) (SY2 : ms_T) (SY3 : ms_T)  : Nat → ms_T → Int32 → Int32 → Int32 → Option (Int32 × ms_T)
  | 0, _, _, _, _ => none
  | n + 1, SC, v3, v5, v6 =>
    if (32 : Int32) ≤ v6 then
      (fX11_refuse SC (8 : Int32)).bind fun z5 =>
      some (z5.1, z5.2)
    else
      if ((v5 >>> (v6 &&& 31)) &&& (1 : Int32)) = 0 then
        fX11_lawOf_50 SY0 SY1 SY2 SY3 n SC v3 v5 (v6 + (1 : Int32))
      else
        if v3 = 0 then
          (fX11_answer SC (v6 / (8 : Int32))).bind fun z7 =>
          some (z7.1, z7.2)
        else
          (fX11_answer SC (v6 - v6 / (8 : Int32) * (8 : Int32))).bind fun z6 =>
          some (z6.1, z6.2)
def fX11_lawOf  (SC : ms_T) (SY0 : ms_T) (SY1 : ms_T) (SY2 : ms_T) (SY3 : ms_T) (a1 : Int32) (a2 : Int32) (a3 : Int32) : Option (Int32 × ms_T) :=
  (fX11_lawStatus SC SY0 SY1 SY2 SY3 a1 a2).bind fun z1 =>
  if z1 = 0 then
    if a3 < 0 then
      fX11_lawOf_29 SY0 SY1 SY2 SY3 SC
    else
      if a3 ≤ (1 : Int32) then
        if a1 = (0 : Int32) then
          (fX11_fittingLaws SY0 a2).bind fun z4 =>
          fX11_lawOf_50 SY0 SY1 SY2 SY3 FU SC a3 z4 (0 : Int32)
        else
          if a1 = (1 : Int32) then
            (fX11_fittingLaws SY1 a2).bind fun z8 =>
            fX11_lawOf_50 SY0 SY1 SY2 SY3 FU SC a3 z8 (0 : Int32)
          else
            if a1 = (2 : Int32) then
              (fX11_fittingLaws SY2 a2).bind fun z9 =>
              fX11_lawOf_50 SY0 SY1 SY2 SY3 FU SC a3 z9 (0 : Int32)
            else
              if a1 = (3 : Int32) then
                (fX11_fittingLaws SY3 a2).bind fun z10 =>
                fX11_lawOf_50 SY0 SY1 SY2 SY3 FU SC a3 z10 (0 : Int32)
              else
                none
      else
        fX11_lawOf_29 SY0 SY1 SY2 SY3 SC
  else
    (fX11_refuse SC z1).bind fun z11 =>
    some (z11.1, z11.2)
abbrev rmX11_lawOf : Room := { frames := 3, cells := 0, slots := 0, locals := 70 }
theorem okX11_lawOf : tc_ok yX11_lawOf cX11_lawOf 7 (some .int) 3 := ⟨wc_X11_lawOf, wn_X11, by decide, by decide, by decide +kernel⟩
set_option maxRecDepth 20000 in
theorem tX11_lawOf_29 {qC : Nat → Nat} {qA : Nat → Nat} {qY0 : Nat → Nat} {qY1 : Nat → Nat} {qY2 : Nat → Nat} {qY3 : Nat → Nat} {rC4 : Value} {rC6 : Value} {rC7 : Value} {rC10 : Value} {rC11 : Value} {rC12 : Value} {rC14 : Value} {rC15 : Value} {rC17 : Value} {rC18 : Value} {rC19 : Value} (X : tc_X dC dI ca A RX11 cX11_lawOf 7 (some .int) p s m args meth c) (z : Int32 × ms_T)  (SY0 : ms_T) (SY1 : ms_T) (SY2 : ms_T) (SY3 : ms_T)   : ∀ (SC : ms_T), fX11_lawOf_29 SY0 SY1 SY2 SY3 SC = some z → ∀ (H : Heap) (locs : List Loc) (ls : Array Slot), va_P (dC, dI) classes (w11 ca qC (.ref (qA 0)) (rC4) (rC6) (rC7) (rC10) (rC11) (rC12) (rC14) (rC15) (rC17) (rC18) (rC19) SC ++ wLT ca qA (rf4 (qY0 0) (qY1 0) (qY2 0) (qY3 0)) ++ w9 ca qY0 SY0 ++ w9 ca qY1 SY1 ++ w9 ca qY2 SY2 ++ w9 ca qY3 SY3) H → va_D A (w11 ca qC (.ref (qA 0)) (rC4) (rC6) (rC7) (rC10) (rC11) (rC12) (rC14) (rC15) (rC17) (rC18) (rC19) SC ++ wLT ca qA (rf4 (qY0 0) (qY1 0) (qY2 0) (qY3 0)) ++ w9 ca qY0 SY0 ++ w9 ca qY1 SY1 ++ w9 ca qY2 SY2 ++ w9 ca qY3 SY3) → va_S A s.heap H locs → lv_has ls 7 [(0, .ref (qC 0))] → W p l e rmX11_lawOf s m args below meth c H locs 0 0 (MQ below (tc_QI dC dI ca A (w11 ca qC (.ref (qA 0)) (rC4) (rC6) (rC7) (rC10) (rC11) (rC12) (rC14) (rC15) (rC17) (rC18) (rC19) z.2 ++ wLT ca qA (rf4 (qY0 0) (qY1 0) (qY2 0) (qY3 0)) ++ w9 ca qY0 SY0 ++ w9 ca qY1 SY1 ++ w9 ca qY2 SY2 ++ w9 ca qY3 SY3) (z.1)) args s 0 0 A) (F0 m 29 ls []) := by
  obtain ⟨hx, hb, hr, hml, hown, hts, hlk, hK, hA, hG⟩ := id X
  intro SC hf H locs ls hP hD hS hl
  unfold fX11_lawOf_29 at hf
  refine lv_aload_n hx hb dX11_lawOf_29 rfl (lv_at hl 0 rfl) ?_
  refine lv_iconst (v := (5 : Int32)) hx hb dX11_lawOf_30 (by decide) ?_
  obtain ⟨z2, hg, hf⟩ := tc_bi hf
  refine tc_iV (As := [.int ((5 : Int32))]) (rest := []) (b := qC 0) (wc := w11 ca qC (.ref (qA 0)) (rC4) (rC6) (rC7) (rC10) (rC11) (rC12) (rC14) (rC15) (rC17) (rC18) (rC19) SC) (wr := wLT ca qA (rf4 (qY0 0) (qY1 0) (qY2 0) (qY3 0)) ++ w9 ca qY0 SY0 ++ w9 ca qY1 SY1 ++ w9 ca qY2 SY2 ++ w9 ca qY3 SY3) X hP hD hS (mX11_refuse hg) okX11_refuse wl_X11_121 wi_X11_refuse ws_X11_X11_refuse_X11_refuse ⟨rfl, rfl, Nat.le_of_ble_eq_true rfl, Nat.le_of_ble_eq_true rfl⟩ 11 0 rfl rfl [0] [1, 2, 3, 4, 5, 6, 7, 8, 9] ⟨rfl, rfl, rfl, rfl, by decide⟩ rfl hl.1 (Nat.le_of_ble_eq_true rfl) dX11_lawOf_31 (fun H locs hP hD hS => ?_)
  have hP := hP.sub (ws' := (w11 ca qC (.ref (qA 0)) (rC4) (rC6) (rC7) (rC10) (rC11) (rC12) (rC14) (rC15) (rC17) (rC18) (rC19) z2.2 ++ wLT ca qA (rf4 (qY0 0) (qY1 0) (qY2 0) (qY3 0)) ++ w9 ca qY0 SY0 ++ w9 ca qY1 SY1 ++ w9 ca qY2 SY2 ++ w9 ca qY3 SY3)) [9, 0, 1, 2, 3, 4, 5, 6, 7, 8] rfl
  have hD := hD.sub (ws' := (w11 ca qC (.ref (qA 0)) (rC4) (rC6) (rC7) (rC10) (rC11) (rC12) (rC14) (rC15) (rC17) (rC18) (rC19) z2.2 ++ wLT ca qA (rf4 (qY0 0) (qY1 0) (qY2 0) (qY3 0)) ++ w9 ca qY0 SY0 ++ w9 ca qY1 SY1 ++ w9 ca qY2 SY2 ++ w9 ca qY3 SY3)) [9, 0, 1, 2, 3, 4, 5, 6, 7, 8] rfl rfl
  obtain rfl := Option.some.inj hf
  exact tc_ri X hP hD hS rfl dX11_lawOf_34 rfl rfl
set_option maxRecDepth 20000 in
theorem tX11_lawOf_50 {qC : Nat → Nat} {qA : Nat → Nat} {qY0 : Nat → Nat} {qY1 : Nat → Nat} {qY2 : Nat → Nat} {qY3 : Nat → Nat} {rC4 : Value} {rC6 : Value} {rC7 : Value} {rC10 : Value} {rC11 : Value} {rC12 : Value} {rC14 : Value} {rC15 : Value} {rC17 : Value} {rC18 : Value} {rC19 : Value} (X : tc_X dC dI ca A RX11 cX11_lawOf 7 (some .int) p s m args meth c) (z : Int32 × ms_T)  (SY0 : ms_T) (SY1 : ms_T) (SY2 : ms_T) (SY3 : ms_T)   : ∀ n : Nat, ∀ (SC : ms_T) (v3 : Int32) (v5 : Int32) (v6 : Int32), fX11_lawOf_50 SY0 SY1 SY2 SY3 n SC v3 v5 v6 = some z → ∀ (H : Heap) (locs : List Loc) (ls : Array Slot), va_P (dC, dI) classes (w11 ca qC (.ref (qA 0)) (rC4) (rC6) (rC7) (rC10) (rC11) (rC12) (rC14) (rC15) (rC17) (rC18) (rC19) SC ++ wLT ca qA (rf4 (qY0 0) (qY1 0) (qY2 0) (qY3 0)) ++ w9 ca qY0 SY0 ++ w9 ca qY1 SY1 ++ w9 ca qY2 SY2 ++ w9 ca qY3 SY3) H → va_D A (w11 ca qC (.ref (qA 0)) (rC4) (rC6) (rC7) (rC10) (rC11) (rC12) (rC14) (rC15) (rC17) (rC18) (rC19) SC ++ wLT ca qA (rf4 (qY0 0) (qY1 0) (qY2 0) (qY3 0)) ++ w9 ca qY0 SY0 ++ w9 ca qY1 SY1 ++ w9 ca qY2 SY2 ++ w9 ca qY3 SY3) → va_S A s.heap H locs → lv_has ls 7 [(0, .ref (qC 0)), (3, .int (v3)), (5, .int (v5)), (6, .int (v6))] → W p l e rmX11_lawOf s m args below meth c H locs 0 0 (MQ below (tc_QI dC dI ca A (w11 ca qC (.ref (qA 0)) (rC4) (rC6) (rC7) (rC10) (rC11) (rC12) (rC14) (rC15) (rC17) (rC18) (rC19) z.2 ++ wLT ca qA (rf4 (qY0 0) (qY1 0) (qY2 0) (qY3 0)) ++ w9 ca qY0 SY0 ++ w9 ca qY1 SY1 ++ w9 ca qY2 SY2 ++ w9 ca qY3 SY3) (z.1)) args s 0 0 A) (F0 m 50 ls []) := by
  obtain ⟨hx, hb, hr, hml, hown, hts, hlk, hK, hA, hG⟩ := id X
  intro n
  induction n with
  | zero => intro SC v3 v5 v6 hf; exact absurd (show none = some z from hf) (fun h => by cases h)
  | succ n ih =>
    intro SC v3 v5 v6 hf H locs ls hP hD hS hl
    rw [fX11_lawOf_50] at hf
    refine lv_iload hx hb dX11_lawOf_50 (lv_at hl 3 rfl) ?_
    refine lv_bipush (v := (32 : Int32)) hx hb dX11_lawOf_52 (by decide) ?_
    refine lv_icmp_ge (tgt := 95) hx hb dX11_lawOf_54 (by decide) (fun hc => ?_) (fun hc => ?_)
    · have hf := tc_pos hc hf
      refine lv_aload_n hx hb dX11_lawOf_95 rfl (lv_at hl 0 rfl) ?_
      refine lv_bipush (v := (8 : Int32)) hx hb dX11_lawOf_96 (by decide) ?_
      obtain ⟨z5, hg, hf⟩ := tc_bi hf
      refine tc_iV (As := [.int ((8 : Int32))]) (rest := []) (b := qC 0) (wc := w11 ca qC (.ref (qA 0)) (rC4) (rC6) (rC7) (rC10) (rC11) (rC12) (rC14) (rC15) (rC17) (rC18) (rC19) SC) (wr := wLT ca qA (rf4 (qY0 0) (qY1 0) (qY2 0) (qY3 0)) ++ w9 ca qY0 SY0 ++ w9 ca qY1 SY1 ++ w9 ca qY2 SY2 ++ w9 ca qY3 SY3) X hP hD hS (mX11_refuse hg) okX11_refuse wl_X11_121 wi_X11_refuse ws_X11_X11_refuse_X11_refuse ⟨rfl, rfl, Nat.le_of_ble_eq_true rfl, Nat.le_of_ble_eq_true rfl⟩ 11 0 rfl rfl [0] [1, 2, 3, 4, 5, 6, 7, 8, 9] ⟨rfl, rfl, rfl, rfl, by decide⟩ rfl hl.1 (Nat.le_of_ble_eq_true rfl) dX11_lawOf_98 (fun H locs hP hD hS => ?_)
      have hP := hP.sub (ws' := (w11 ca qC (.ref (qA 0)) (rC4) (rC6) (rC7) (rC10) (rC11) (rC12) (rC14) (rC15) (rC17) (rC18) (rC19) z5.2 ++ wLT ca qA (rf4 (qY0 0) (qY1 0) (qY2 0) (qY3 0)) ++ w9 ca qY0 SY0 ++ w9 ca qY1 SY1 ++ w9 ca qY2 SY2 ++ w9 ca qY3 SY3)) [9, 0, 1, 2, 3, 4, 5, 6, 7, 8] rfl
      have hD := hD.sub (ws' := (w11 ca qC (.ref (qA 0)) (rC4) (rC6) (rC7) (rC10) (rC11) (rC12) (rC14) (rC15) (rC17) (rC18) (rC19) z5.2 ++ wLT ca qA (rf4 (qY0 0) (qY1 0) (qY2 0) (qY3 0)) ++ w9 ca qY0 SY0 ++ w9 ca qY1 SY1 ++ w9 ca qY2 SY2 ++ w9 ca qY3 SY3)) [9, 0, 1, 2, 3, 4, 5, 6, 7, 8] rfl rfl
      obtain rfl := Option.some.inj hf
      exact tc_ri X hP hD hS rfl dX11_lawOf_101 rfl rfl
    · have hf := tc_neg hc hf
      refine lv_iload hx hb dX11_lawOf_57 (lv_at hl 2 rfl) ?_
      refine lv_iload hx hb dX11_lawOf_59 (lv_at hl 3 rfl) ?_
      refine lv_ishr hx hb dX11_lawOf_61 ?_
      refine lv_iconst (v := (1 : Int32)) hx hb dX11_lawOf_62 (by decide) ?_
      refine lv_iand hx hb dX11_lawOf_63 ?_
      refine lv_if_eq (tgt := 89) hx hb dX11_lawOf_64 (by decide) (fun hc => ?_) (fun hc => ?_)
      · have hf := tc_pos hc hf
        refine lv_iinc (v := v6 + (1 : Int32)) (lv' := [(6, .int (v6 + (1 : Int32))), (0, .ref (qC 0)), (3, .int (v3)), (5, .int (v5))]) hx hb dX11_lawOf_89 hl (k := 3) rfl rfl (by decide) rfl (fun ls hl => ?_)
        refine lv_goto (tgt := 50) hx hb dX11_lawOf_92 (by decide) ?_
        exact ih SC v3 v5 (v6 + (1 : Int32)) hf _ _ _ hP hD hS (lv_sub hl [1, 2, 3, 0] rfl)
      · have hf := tc_neg hc hf
        refine lv_aload_n hx hb dX11_lawOf_67 rfl (lv_at hl 0 rfl) ?_
        refine lv_iload_n hx hb dX11_lawOf_68 rfl (lv_at hl 1 rfl) ?_
        refine lv_if_ne (tgt := 80) hx hb dX11_lawOf_69 (by decide) (fun hc => ?_) (fun hc => ?_)
        · have hf := tc_neg hc hf
          refine lv_iload hx hb dX11_lawOf_80 (lv_at hl 3 rfl) ?_
          refine lv_bipush (v := (8 : Int32)) hx hb dX11_lawOf_82 (by decide) ?_
          refine lv_irem hx hb dX11_lawOf_84 (by decide) ?_
          obtain ⟨z6, hg, hf⟩ := tc_bi hf
          refine tc_iV (As := [.int (v6 - v6 / (8 : Int32) * (8 : Int32))]) (rest := []) (b := qC 0) (wc := w11 ca qC (.ref (qA 0)) (rC4) (rC6) (rC7) (rC10) (rC11) (rC12) (rC14) (rC15) (rC17) (rC18) (rC19) SC) (wr := wLT ca qA (rf4 (qY0 0) (qY1 0) (qY2 0) (qY3 0)) ++ w9 ca qY0 SY0 ++ w9 ca qY1 SY1 ++ w9 ca qY2 SY2 ++ w9 ca qY3 SY3) X hP hD hS (mX11_answer hg) okX11_answer wl_X11_182 wi_X11_answer ws_X11_X11_answer_X11_answer ⟨rfl, rfl, Nat.le_of_ble_eq_true rfl, Nat.le_of_ble_eq_true rfl⟩ 11 0 rfl rfl [0] [1, 2, 3, 4, 5, 6, 7, 8, 9] ⟨rfl, rfl, rfl, rfl, by decide⟩ rfl hl.1 (Nat.le_of_ble_eq_true rfl) dX11_lawOf_85 (fun H locs hP hD hS => ?_)
          have hP := hP.sub (ws' := (w11 ca qC (.ref (qA 0)) (rC4) (rC6) (rC7) (rC10) (rC11) (rC12) (rC14) (rC15) (rC17) (rC18) (rC19) z6.2 ++ wLT ca qA (rf4 (qY0 0) (qY1 0) (qY2 0) (qY3 0)) ++ w9 ca qY0 SY0 ++ w9 ca qY1 SY1 ++ w9 ca qY2 SY2 ++ w9 ca qY3 SY3)) [9, 0, 1, 2, 3, 4, 5, 6, 7, 8] rfl
          have hD := hD.sub (ws' := (w11 ca qC (.ref (qA 0)) (rC4) (rC6) (rC7) (rC10) (rC11) (rC12) (rC14) (rC15) (rC17) (rC18) (rC19) z6.2 ++ wLT ca qA (rf4 (qY0 0) (qY1 0) (qY2 0) (qY3 0)) ++ w9 ca qY0 SY0 ++ w9 ca qY1 SY1 ++ w9 ca qY2 SY2 ++ w9 ca qY3 SY3)) [9, 0, 1, 2, 3, 4, 5, 6, 7, 8] rfl rfl
          obtain rfl := Option.some.inj hf
          exact tc_ri X hP hD hS rfl dX11_lawOf_88 rfl rfl
        · have hf := tc_pos hc hf
          refine lv_iload hx hb dX11_lawOf_72 (lv_at hl 3 rfl) ?_
          refine lv_bipush (v := (8 : Int32)) hx hb dX11_lawOf_74 (by decide) ?_
          refine lv_idiv hx hb dX11_lawOf_76 (by decide) ?_
          refine lv_goto (tgt := 85) hx hb dX11_lawOf_77 (by decide) ?_
          obtain ⟨z7, hg, hf⟩ := tc_bi hf
          refine tc_iV (As := [.int (v6 / (8 : Int32))]) (rest := []) (b := qC 0) (wc := w11 ca qC (.ref (qA 0)) (rC4) (rC6) (rC7) (rC10) (rC11) (rC12) (rC14) (rC15) (rC17) (rC18) (rC19) SC) (wr := wLT ca qA (rf4 (qY0 0) (qY1 0) (qY2 0) (qY3 0)) ++ w9 ca qY0 SY0 ++ w9 ca qY1 SY1 ++ w9 ca qY2 SY2 ++ w9 ca qY3 SY3) X hP hD hS (mX11_answer hg) okX11_answer wl_X11_182 wi_X11_answer ws_X11_X11_answer_X11_answer ⟨rfl, rfl, Nat.le_of_ble_eq_true rfl, Nat.le_of_ble_eq_true rfl⟩ 11 0 rfl rfl [0] [1, 2, 3, 4, 5, 6, 7, 8, 9] ⟨rfl, rfl, rfl, rfl, by decide⟩ rfl hl.1 (Nat.le_of_ble_eq_true rfl) dX11_lawOf_85 (fun H locs hP hD hS => ?_)
          have hP := hP.sub (ws' := (w11 ca qC (.ref (qA 0)) (rC4) (rC6) (rC7) (rC10) (rC11) (rC12) (rC14) (rC15) (rC17) (rC18) (rC19) z7.2 ++ wLT ca qA (rf4 (qY0 0) (qY1 0) (qY2 0) (qY3 0)) ++ w9 ca qY0 SY0 ++ w9 ca qY1 SY1 ++ w9 ca qY2 SY2 ++ w9 ca qY3 SY3)) [9, 0, 1, 2, 3, 4, 5, 6, 7, 8] rfl
          have hD := hD.sub (ws' := (w11 ca qC (.ref (qA 0)) (rC4) (rC6) (rC7) (rC10) (rC11) (rC12) (rC14) (rC15) (rC17) (rC18) (rC19) z7.2 ++ wLT ca qA (rf4 (qY0 0) (qY1 0) (qY2 0) (qY3 0)) ++ w9 ca qY0 SY0 ++ w9 ca qY1 SY1 ++ w9 ca qY2 SY2 ++ w9 ca qY3 SY3)) [9, 0, 1, 2, 3, 4, 5, 6, 7, 8] rfl rfl
          obtain rfl := Option.some.inj hf
          exact tc_ri X hP hD hS rfl dX11_lawOf_88 rfl rfl
set_option maxRecDepth 20000 in
theorem mX11_lawOf {qC : Nat → Nat} {qA : Nat → Nat} {qY0 : Nat → Nat} {qY1 : Nat → Nat} {qY2 : Nat → Nat} {qY3 : Nat → Nat} {rC4 : Value} {rC6 : Value} {rC7 : Value} {rC10 : Value} {rC11 : Value} {rC12 : Value} {rC14 : Value} {rC15 : Value} {rC17 : Value} {rC18 : Value} {rC19 : Value} {SC : ms_T} {SY0 : ms_T} {SY1 : ms_T} {SY2 : ms_T} {SY3 : ms_T} {a1 : Int32} {a2 : Int32} {a3 : Int32} {z : Int32 × ms_T}  (hf : fX11_lawOf SC SY0 SY1 SY2 SY3 a1 a2 a3 = some z) : tc_MI l dC dI ca yX11_lawOf cX11_lawOf 7 (some .int) rmX11_lawOf [.ref (qC 0), .int (a1), .int (a2), .int (a3)] (w11 ca qC (.ref (qA 0)) (rC4) (rC6) (rC7) (rC10) (rC11) (rC12) (rC14) (rC15) (rC17) (rC18) (rC19) SC ++ wLT ca qA (rf4 (qY0 0) (qY1 0) (qY2 0) (qY3 0)) ++ w9 ca qY0 SY0 ++ w9 ca qY1 SY1 ++ w9 ca qY2 SY2 ++ w9 ca qY3 SY3) (w11 ca qC (.ref (qA 0)) (rC4) (rC6) (rC7) (rC10) (rC11) (rC12) (rC14) (rC15) (rC17) (rC18) (rC19) z.2 ++ wLT ca qA (rf4 (qY0 0) (qY1 0) (qY2 0) (qY3 0)) ++ w9 ca qY0 SY0 ++ w9 ca qY1 SY1 ++ w9 ca qY2 SY2 ++ w9 ca qY3 SY3) (z.1) := by
  refine tc_metI (own := RX11) (by decide) rfl ?_ (Nat.le_of_ble_eq_true rfl)
  intro p e s m below meth c A X hP hD hS ls hl
  obtain ⟨hx, hb, hr, hml, hown, hts, hlk, hK, hA, hG⟩ := id X
  unfold fX11_lawOf at hf
  have hl : lv_has ls 7 [(0, .ref (qC 0)), (1, .int (a1)), (2, .int (a2)), (3, .int (a3))] := hl
  refine lv_aload_n hx hb dX11_lawOf_0 rfl (lv_at hl 0 rfl) ?_
  refine lv_iload_n hx hb dX11_lawOf_1 rfl (lv_at hl 1 rfl) ?_
  refine lv_iload_n hx hb dX11_lawOf_2 rfl (lv_at hl 2 rfl) ?_
  obtain ⟨z1, hg, hf⟩ := tc_bi hf
  refine tc_iVs (As := [.int (a1), .int (a2)]) (rest := []) (b := qC 0) X hP hD hS (mX11_lawStatus hg) okX11_lawStatus wl_X11_332 wi_X11_lawStatus ws_X11_X11_lawStatus_X11_lawStatus ⟨rfl, rfl, Nat.le_of_ble_eq_true rfl, Nat.le_of_ble_eq_true rfl⟩ 11 0 rfl rfl rfl hl.1 (Nat.le_of_ble_eq_true rfl) dX11_lawOf_3 (fun H locs hP hD hS => ?_)
  refine lv_istore (lv' := [(4, .int (z1)), (0, .ref (qC 0)), (1, .int (a1)), (2, .int (a2)), (3, .int (a3))]) hx hb dX11_lawOf_6 hl (by decide) rfl (fun ls hl => ?_)
  refine lv_iload hx hb dX11_lawOf_8 (lv_at hl 0 rfl) ?_
  refine lv_if_eq (tgt := 20) hx hb dX11_lawOf_10 (by decide) (fun hc => ?_) (fun hc => ?_)
  · have hf := tc_pos hc hf
    refine lv_iload_n hx hb dX11_lawOf_20 rfl (lv_at hl 4 rfl) ?_
    refine lv_if_lt (tgt := 29) hx hb dX11_lawOf_21 (by decide) (fun hc => ?_) (fun hc => ?_)
    · have hf := tc_pos hc hf
      exact tX11_lawOf_29 X z SY0 SY1 SY2 SY3 SC hf _ _ _ hP hD hS (lv_sub hl [1] rfl)
    · have hf := tc_neg hc hf
      refine lv_iload_n hx hb dX11_lawOf_24 rfl (lv_at hl 4 rfl) ?_
      refine lv_iconst (v := (1 : Int32)) hx hb dX11_lawOf_25 (by decide) ?_
      refine lv_icmp_le (tgt := 35) hx hb dX11_lawOf_26 (by decide) (fun hc => ?_) (fun hc => ?_)
      · have hf := tc_pos hc hf
        refine lv_aload_n hx hb dX11_lawOf_35 rfl (lv_at hl 1 rfl) ?_
        refine va_get (D := (dC, dI)) (ci := 11) (v := .ref (qA 0)) (C := RX11) (T := TX11) (N := 20) hx hb hts i_X11 hown hK hP 0 rfl rfl 3 (by decide) (hts _ wf_X11_11) (fun _ h9 => h9) rfl dX11_lawOf_36 ?_
        refine lv_iload_n hx hb dX11_lawOf_39 rfl (lv_at hl 2 rfl) ?_
        by_cases hq3_0 : a1 = (0 : Int32)
        · have hf := tc_pos hq3_0 hf
          refine tc_ald (b := qY0 0) X hP 1 4 rfl rfl 0 (by rw [hq3_0]; decide) (by rw [hq3_0]; exact inb_vp (by decide)) rfl dX11_lawOf_40 ?_
          refine lv_iload_n hx hb dX11_lawOf_41 rfl (lv_at hl 3 rfl) ?_
          obtain ⟨z4, hg, hf⟩ := tc_bi hf
          refine tc_iS (As := [.ref (qY0 0), .int (a2)]) (rest := []) (wc := w9 ca qY0 SY0) (wr := w11 ca qC (.ref (qA 0)) (rC4) (rC6) (rC7) (rC10) (rC11) (rC12) (rC14) (rC15) (rC17) (rC18) (rC19) SC ++ wLT ca qA (rf4 (qY0 0) (qY1 0) (qY2 0) (qY3 0)) ++ w9 ca qY1 SY1 ++ w9 ca qY2 SY2 ++ w9 ca qY3 SY3) X hP hD hS (mX11_fittingLaws hg) okX11_fittingLaws wl_X11_335 wt_X11_fittingLaws ⟨rfl, rfl, Nat.le_of_ble_eq_true rfl, Nat.le_of_ble_eq_true rfl⟩ [2, 3] [0, 1, 4, 5, 6, 7, 8, 9] ⟨rfl, rfl, rfl, rfl, by decide⟩ rfl hl.1 (Nat.le_of_ble_eq_true rfl) dX11_lawOf_42 (fun H locs hP hD hS => ?_)
          have hP := hP.sub (ws' := (w11 ca qC (.ref (qA 0)) (rC4) (rC6) (rC7) (rC10) (rC11) (rC12) (rC14) (rC15) (rC17) (rC18) (rC19) SC ++ wLT ca qA (rf4 (qY0 0) (qY1 0) (qY2 0) (qY3 0)) ++ w9 ca qY0 SY0 ++ w9 ca qY1 SY1 ++ w9 ca qY2 SY2 ++ w9 ca qY3 SY3)) [0, 1, 8, 9, 2, 3, 4, 5, 6, 7] rfl
          have hD := hD.sub (ws' := (w11 ca qC (.ref (qA 0)) (rC4) (rC6) (rC7) (rC10) (rC11) (rC12) (rC14) (rC15) (rC17) (rC18) (rC19) SC ++ wLT ca qA (rf4 (qY0 0) (qY1 0) (qY2 0) (qY3 0)) ++ w9 ca qY0 SY0 ++ w9 ca qY1 SY1 ++ w9 ca qY2 SY2 ++ w9 ca qY3 SY3)) [0, 1, 8, 9, 2, 3, 4, 5, 6, 7] rfl rfl
          refine lv_istore (lv' := [(5, .int (z4)), (4, .int (z1)), (0, .ref (qC 0)), (1, .int (a1)), (2, .int (a2)), (3, .int (a3))]) hx hb dX11_lawOf_45 hl (by decide) rfl (fun ls hl => ?_)
          refine lv_iconst (v := (0 : Int32)) hx hb dX11_lawOf_47 (by decide) ?_
          refine lv_istore (lv' := [(6, .int ((0 : Int32))), (5, .int (z4)), (4, .int (z1)), (0, .ref (qC 0)), (1, .int (a1)), (2, .int (a2)), (3, .int (a3))]) hx hb dX11_lawOf_48 hl (by decide) rfl (fun ls hl => ?_)
          exact tX11_lawOf_50 X z SY0 SY1 SY2 SY3 FU SC a3 z4 (0 : Int32) hf _ _ _ hP hD hS (lv_sub hl [3, 6, 1, 0] rfl)
        · have hf := tc_neg hq3_0 hf
          by_cases hq3_1 : a1 = (1 : Int32)
          · have hf := tc_pos hq3_1 hf
            refine tc_ald (b := qY1 0) X hP 1 4 rfl rfl 1 (by rw [hq3_1]; decide) (by rw [hq3_1]; exact inb_vp (by decide)) rfl dX11_lawOf_40 ?_
            refine lv_iload_n hx hb dX11_lawOf_41 rfl (lv_at hl 3 rfl) ?_
            obtain ⟨z8, hg, hf⟩ := tc_bi hf
            refine tc_iS (As := [.ref (qY1 0), .int (a2)]) (rest := []) (wc := w9 ca qY1 SY1) (wr := w11 ca qC (.ref (qA 0)) (rC4) (rC6) (rC7) (rC10) (rC11) (rC12) (rC14) (rC15) (rC17) (rC18) (rC19) SC ++ wLT ca qA (rf4 (qY0 0) (qY1 0) (qY2 0) (qY3 0)) ++ w9 ca qY0 SY0 ++ w9 ca qY2 SY2 ++ w9 ca qY3 SY3) X hP hD hS (mX11_fittingLaws hg) okX11_fittingLaws wl_X11_335 wt_X11_fittingLaws ⟨rfl, rfl, Nat.le_of_ble_eq_true rfl, Nat.le_of_ble_eq_true rfl⟩ [4, 5] [0, 1, 2, 3, 6, 7, 8, 9] ⟨rfl, rfl, rfl, rfl, by decide⟩ rfl hl.1 (Nat.le_of_ble_eq_true rfl) dX11_lawOf_42 (fun H locs hP hD hS => ?_)
            have hP := hP.sub (ws' := (w11 ca qC (.ref (qA 0)) (rC4) (rC6) (rC7) (rC10) (rC11) (rC12) (rC14) (rC15) (rC17) (rC18) (rC19) SC ++ wLT ca qA (rf4 (qY0 0) (qY1 0) (qY2 0) (qY3 0)) ++ w9 ca qY0 SY0 ++ w9 ca qY1 SY1 ++ w9 ca qY2 SY2 ++ w9 ca qY3 SY3)) [0, 1, 2, 3, 8, 9, 4, 5, 6, 7] rfl
            have hD := hD.sub (ws' := (w11 ca qC (.ref (qA 0)) (rC4) (rC6) (rC7) (rC10) (rC11) (rC12) (rC14) (rC15) (rC17) (rC18) (rC19) SC ++ wLT ca qA (rf4 (qY0 0) (qY1 0) (qY2 0) (qY3 0)) ++ w9 ca qY0 SY0 ++ w9 ca qY1 SY1 ++ w9 ca qY2 SY2 ++ w9 ca qY3 SY3)) [0, 1, 2, 3, 8, 9, 4, 5, 6, 7] rfl rfl
            refine lv_istore (lv' := [(5, .int (z8)), (4, .int (z1)), (0, .ref (qC 0)), (1, .int (a1)), (2, .int (a2)), (3, .int (a3))]) hx hb dX11_lawOf_45 hl (by decide) rfl (fun ls hl => ?_)
            refine lv_iconst (v := (0 : Int32)) hx hb dX11_lawOf_47 (by decide) ?_
            refine lv_istore (lv' := [(6, .int ((0 : Int32))), (5, .int (z8)), (4, .int (z1)), (0, .ref (qC 0)), (1, .int (a1)), (2, .int (a2)), (3, .int (a3))]) hx hb dX11_lawOf_48 hl (by decide) rfl (fun ls hl => ?_)
            exact tX11_lawOf_50 X z SY0 SY1 SY2 SY3 FU SC a3 z8 (0 : Int32) hf _ _ _ hP hD hS (lv_sub hl [3, 6, 1, 0] rfl)
          · have hf := tc_neg hq3_1 hf
            by_cases hq3_2 : a1 = (2 : Int32)
            · have hf := tc_pos hq3_2 hf
              refine tc_ald (b := qY2 0) X hP 1 4 rfl rfl 2 (by rw [hq3_2]; decide) (by rw [hq3_2]; exact inb_vp (by decide)) rfl dX11_lawOf_40 ?_
              refine lv_iload_n hx hb dX11_lawOf_41 rfl (lv_at hl 3 rfl) ?_
              obtain ⟨z9, hg, hf⟩ := tc_bi hf
              refine tc_iS (As := [.ref (qY2 0), .int (a2)]) (rest := []) (wc := w9 ca qY2 SY2) (wr := w11 ca qC (.ref (qA 0)) (rC4) (rC6) (rC7) (rC10) (rC11) (rC12) (rC14) (rC15) (rC17) (rC18) (rC19) SC ++ wLT ca qA (rf4 (qY0 0) (qY1 0) (qY2 0) (qY3 0)) ++ w9 ca qY0 SY0 ++ w9 ca qY1 SY1 ++ w9 ca qY3 SY3) X hP hD hS (mX11_fittingLaws hg) okX11_fittingLaws wl_X11_335 wt_X11_fittingLaws ⟨rfl, rfl, Nat.le_of_ble_eq_true rfl, Nat.le_of_ble_eq_true rfl⟩ [6, 7] [0, 1, 2, 3, 4, 5, 8, 9] ⟨rfl, rfl, rfl, rfl, by decide⟩ rfl hl.1 (Nat.le_of_ble_eq_true rfl) dX11_lawOf_42 (fun H locs hP hD hS => ?_)
              have hP := hP.sub (ws' := (w11 ca qC (.ref (qA 0)) (rC4) (rC6) (rC7) (rC10) (rC11) (rC12) (rC14) (rC15) (rC17) (rC18) (rC19) SC ++ wLT ca qA (rf4 (qY0 0) (qY1 0) (qY2 0) (qY3 0)) ++ w9 ca qY0 SY0 ++ w9 ca qY1 SY1 ++ w9 ca qY2 SY2 ++ w9 ca qY3 SY3)) [0, 1, 2, 3, 4, 5, 8, 9, 6, 7] rfl
              have hD := hD.sub (ws' := (w11 ca qC (.ref (qA 0)) (rC4) (rC6) (rC7) (rC10) (rC11) (rC12) (rC14) (rC15) (rC17) (rC18) (rC19) SC ++ wLT ca qA (rf4 (qY0 0) (qY1 0) (qY2 0) (qY3 0)) ++ w9 ca qY0 SY0 ++ w9 ca qY1 SY1 ++ w9 ca qY2 SY2 ++ w9 ca qY3 SY3)) [0, 1, 2, 3, 4, 5, 8, 9, 6, 7] rfl rfl
              refine lv_istore (lv' := [(5, .int (z9)), (4, .int (z1)), (0, .ref (qC 0)), (1, .int (a1)), (2, .int (a2)), (3, .int (a3))]) hx hb dX11_lawOf_45 hl (by decide) rfl (fun ls hl => ?_)
              refine lv_iconst (v := (0 : Int32)) hx hb dX11_lawOf_47 (by decide) ?_
              refine lv_istore (lv' := [(6, .int ((0 : Int32))), (5, .int (z9)), (4, .int (z1)), (0, .ref (qC 0)), (1, .int (a1)), (2, .int (a2)), (3, .int (a3))]) hx hb dX11_lawOf_48 hl (by decide) rfl (fun ls hl => ?_)
              exact tX11_lawOf_50 X z SY0 SY1 SY2 SY3 FU SC a3 z9 (0 : Int32) hf _ _ _ hP hD hS (lv_sub hl [3, 6, 1, 0] rfl)
            · have hf := tc_neg hq3_2 hf
              by_cases hq3_3 : a1 = (3 : Int32)
              · have hf := tc_pos hq3_3 hf
                refine tc_ald (b := qY3 0) X hP 1 4 rfl rfl 3 (by rw [hq3_3]; decide) (by rw [hq3_3]; exact inb_vp (by decide)) rfl dX11_lawOf_40 ?_
                refine lv_iload_n hx hb dX11_lawOf_41 rfl (lv_at hl 3 rfl) ?_
                obtain ⟨z10, hg, hf⟩ := tc_bi hf
                refine tc_iS (As := [.ref (qY3 0), .int (a2)]) (rest := []) (wc := w9 ca qY3 SY3) (wr := w11 ca qC (.ref (qA 0)) (rC4) (rC6) (rC7) (rC10) (rC11) (rC12) (rC14) (rC15) (rC17) (rC18) (rC19) SC ++ wLT ca qA (rf4 (qY0 0) (qY1 0) (qY2 0) (qY3 0)) ++ w9 ca qY0 SY0 ++ w9 ca qY1 SY1 ++ w9 ca qY2 SY2) X hP hD hS (mX11_fittingLaws hg) okX11_fittingLaws wl_X11_335 wt_X11_fittingLaws ⟨rfl, rfl, Nat.le_of_ble_eq_true rfl, Nat.le_of_ble_eq_true rfl⟩ [8, 9] [0, 1, 2, 3, 4, 5, 6, 7] ⟨rfl, rfl, rfl, rfl, by decide⟩ rfl hl.1 (Nat.le_of_ble_eq_true rfl) dX11_lawOf_42 (fun H locs hP hD hS => ?_)
                have hP := hP.sub (ws' := (w11 ca qC (.ref (qA 0)) (rC4) (rC6) (rC7) (rC10) (rC11) (rC12) (rC14) (rC15) (rC17) (rC18) (rC19) SC ++ wLT ca qA (rf4 (qY0 0) (qY1 0) (qY2 0) (qY3 0)) ++ w9 ca qY0 SY0 ++ w9 ca qY1 SY1 ++ w9 ca qY2 SY2 ++ w9 ca qY3 SY3)) [0, 1, 2, 3, 4, 5, 6, 7, 8, 9] rfl
                have hD := hD.sub (ws' := (w11 ca qC (.ref (qA 0)) (rC4) (rC6) (rC7) (rC10) (rC11) (rC12) (rC14) (rC15) (rC17) (rC18) (rC19) SC ++ wLT ca qA (rf4 (qY0 0) (qY1 0) (qY2 0) (qY3 0)) ++ w9 ca qY0 SY0 ++ w9 ca qY1 SY1 ++ w9 ca qY2 SY2 ++ w9 ca qY3 SY3)) [0, 1, 2, 3, 4, 5, 6, 7, 8, 9] rfl rfl
                refine lv_istore (lv' := [(5, .int (z10)), (4, .int (z1)), (0, .ref (qC 0)), (1, .int (a1)), (2, .int (a2)), (3, .int (a3))]) hx hb dX11_lawOf_45 hl (by decide) rfl (fun ls hl => ?_)
                refine lv_iconst (v := (0 : Int32)) hx hb dX11_lawOf_47 (by decide) ?_
                refine lv_istore (lv' := [(6, .int ((0 : Int32))), (5, .int (z10)), (4, .int (z1)), (0, .ref (qC 0)), (1, .int (a1)), (2, .int (a2)), (3, .int (a3))]) hx hb dX11_lawOf_48 hl (by decide) rfl (fun ls hl => ?_)
                exact tX11_lawOf_50 X z SY0 SY1 SY2 SY3 FU SC a3 z10 (0 : Int32) hf _ _ _ hP hD hS (lv_sub hl [3, 6, 1, 0] rfl)
              · have hf := tc_neg hq3_3 hf
                cases hf
      · have hf := tc_neg hc hf
        exact tX11_lawOf_29 X z SY0 SY1 SY2 SY3 SC hf _ _ _ hP hD hS (lv_sub hl [1] rfl)
  · have hf := tc_neg hc hf
    refine lv_aload_n hx hb dX11_lawOf_13 rfl (lv_at hl 1 rfl) ?_
    refine lv_iload hx hb dX11_lawOf_14 (lv_at hl 0 rfl) ?_
    obtain ⟨z11, hg, hf⟩ := tc_bi hf
    refine tc_iV (As := [.int (z1)]) (rest := []) (b := qC 0) (wc := w11 ca qC (.ref (qA 0)) (rC4) (rC6) (rC7) (rC10) (rC11) (rC12) (rC14) (rC15) (rC17) (rC18) (rC19) SC) (wr := wLT ca qA (rf4 (qY0 0) (qY1 0) (qY2 0) (qY3 0)) ++ w9 ca qY0 SY0 ++ w9 ca qY1 SY1 ++ w9 ca qY2 SY2 ++ w9 ca qY3 SY3) X hP hD hS (mX11_refuse hg) okX11_refuse wl_X11_121 wi_X11_refuse ws_X11_X11_refuse_X11_refuse ⟨rfl, rfl, Nat.le_of_ble_eq_true rfl, Nat.le_of_ble_eq_true rfl⟩ 11 0 rfl rfl [0] [1, 2, 3, 4, 5, 6, 7, 8, 9] ⟨rfl, rfl, rfl, rfl, by decide⟩ rfl hl.1 (Nat.le_of_ble_eq_true rfl) dX11_lawOf_16 (fun H locs hP hD hS => ?_)
    have hP := hP.sub (ws' := (w11 ca qC (.ref (qA 0)) (rC4) (rC6) (rC7) (rC10) (rC11) (rC12) (rC14) (rC15) (rC17) (rC18) (rC19) z11.2 ++ wLT ca qA (rf4 (qY0 0) (qY1 0) (qY2 0) (qY3 0)) ++ w9 ca qY0 SY0 ++ w9 ca qY1 SY1 ++ w9 ca qY2 SY2 ++ w9 ca qY3 SY3)) [9, 0, 1, 2, 3, 4, 5, 6, 7, 8] rfl
    have hD := hD.sub (ws' := (w11 ca qC (.ref (qA 0)) (rC4) (rC6) (rC7) (rC10) (rC11) (rC12) (rC14) (rC15) (rC17) (rC18) (rC19) z11.2 ++ wLT ca qA (rf4 (qY0 0) (qY1 0) (qY2 0) (qY3 0)) ++ w9 ca qY0 SY0 ++ w9 ca qY1 SY1 ++ w9 ca qY2 SY2 ++ w9 ca qY3 SY3)) [9, 0, 1, 2, 3, 4, 5, 6, 7, 8] rfl rfl
    obtain rfl := Option.some.inj hf
    exact tc_ri X hP hD hS rfl dX11_lawOf_19 rfl rfl
def fX11_mostAtOne_15   (k4 : Int32 → Int32 → Int32 → Int32 → Option (Int32)) : Nat → Int32 → Int32 → Int32 → Int32 → Int32 → Int32 → Option (Int32)
  | 0, _, _, _, _, _, _ => none
  | n + 1, v0, v1, v2, v3, v4, v5 =>
    if (32 : Int32) ≤ v5 then
      k4 v0 v1 (jmax v2 v4) (v3 + (1 : Int32))
    else
      if ((v0 >>> (v5 &&& 31)) &&& (1 : Int32)) = 0 then
        fX11_mostAtOne_15 k4 n v0 v1 v2 v3 v4 (v5 + (1 : Int32))
      else
        (fX11_landsBy v5 v1).bind fun z1 =>
        if z1 = v3 then
          fX11_mostAtOne_15 k4 n v0 v1 v2 v3 (v4 + (1 : Int32)) (v5 + (1 : Int32))
        else
          fX11_mostAtOne_15 k4 n v0 v1 v2 v3 v4 (v5 + (1 : Int32))
def fX11_mostAtOne_4    : Nat → Int32 → Int32 → Int32 → Int32 → Option (Int32)
  | 0, _, _, _, _ => none
  | n + 1, v0, v1, v2, v3 =>
    if v1 < v3 then
      some (v2)
    else
      fX11_mostAtOne_15 (fX11_mostAtOne_4 n) FU v0 v1 v2 v3 (0 : Int32) (0 : Int32)
def fX11_mostAtOne   (a0 : Int32) (a1 : Int32) : Option (Int32) :=
  fX11_mostAtOne_4 FU a0 a1 (0 : Int32) (0 : Int32)
abbrev rmX11_mostAtOne : Room := { frames := 2, cells := 0, slots := 0, locals := 45 }
theorem okX11_mostAtOne : tc_ok yX11_mostAtOne cX11_mostAtOne 6 (some .int) 2 := ⟨wc_X11_mostAtOne, wn_X11, by decide, by decide, by decide +kernel⟩
set_option maxRecDepth 20000 in
theorem tX11_mostAtOne_15   (X : tc_X dC dI ca A RX11 cX11_mostAtOne 6 (some .int) p s m args meth c) (z : Int32)   (k4 : Int32 → Int32 → Int32 → Int32 → Option (Int32)) (hk4 : ∀ (v0 : Int32) (v1 : Int32) (v2 : Int32) (v3 : Int32), k4 v0 v1 v2 v3 = some z → ∀ (H : Heap) (locs : List Loc) (ls : Array Slot), va_P (dC, dI) classes [] H → va_D A [] → va_S A s.heap H locs → lv_has ls 6 [(0, .int (v0)), (1, .int (v1)), (2, .int (v2)), (3, .int (v3))] → W p l e rmX11_mostAtOne s m args below meth c H locs 0 0 (MQ below (tc_QI dC dI ca A [] (z)) args s 0 0 A) (F0 m 4 ls [])) : ∀ n : Nat, ∀ (v0 : Int32) (v1 : Int32) (v2 : Int32) (v3 : Int32) (v4 : Int32) (v5 : Int32), fX11_mostAtOne_15 k4 n v0 v1 v2 v3 v4 v5 = some z → ∀ (H : Heap) (locs : List Loc) (ls : Array Slot), va_P (dC, dI) classes [] H → va_D A [] → va_S A s.heap H locs → lv_has ls 6 [(0, .int (v0)), (1, .int (v1)), (2, .int (v2)), (3, .int (v3)), (4, .int (v4)), (5, .int (v5))] → W p l e rmX11_mostAtOne s m args below meth c H locs 0 0 (MQ below (tc_QI dC dI ca A [] (z)) args s 0 0 A) (F0 m 15 ls []) := by
  obtain ⟨hx, hb, hr, hml, hown, hts, hlk, hK, hA, hG⟩ := id X
  intro n
  induction n with
  | zero => intro v0 v1 v2 v3 v4 v5 hf; exact absurd (show none = some z from hf) (fun h => by cases h)
  | succ n ih =>
    intro v0 v1 v2 v3 v4 v5 hf H locs ls hP hD hS hl
    rw [fX11_mostAtOne_15] at hf
    refine lv_iload hx hb dX11_mostAtOne_15 (lv_at hl 5 rfl) ?_
    refine lv_bipush (v := (32 : Int32)) hx hb dX11_mostAtOne_17 (by decide) ?_
    refine lv_icmp_ge (tgt := 50) hx hb dX11_mostAtOne_19 (by decide) (fun hc => ?_) (fun hc => ?_)
    · have hf := tc_pos hc hf
      refine lv_iload_n hx hb dX11_mostAtOne_50 rfl (lv_at hl 2 rfl) ?_
      refine lv_iload hx hb dX11_mostAtOne_51 (lv_at hl 4 rfl) ?_
      refine tc_mmax (rest := []) X hl.1 wl_X11_434 (Nat.le_of_ble_eq_true rfl) (Nat.le_of_ble_eq_true rfl) dX11_mostAtOne_53 ?_
      refine lv_istore_n (lv' := [(2, .int (jmax v2 v4)), (0, .int (v0)), (1, .int (v1)), (3, .int (v3)), (4, .int (v4)), (5, .int (v5))]) hx hb dX11_mostAtOne_56 rfl hl (by decide) rfl (fun ls hl => ?_)
      refine lv_iinc (v := v3 + (1 : Int32)) (lv' := [(3, .int (v3 + (1 : Int32))), (2, .int (jmax v2 v4)), (0, .int (v0)), (1, .int (v1)), (4, .int (v4)), (5, .int (v5))]) hx hb dX11_mostAtOne_57 hl (k := 3) rfl rfl (by decide) rfl (fun ls hl => ?_)
      refine lv_goto (tgt := 4) hx hb dX11_mostAtOne_60 (by decide) ?_
      exact hk4 v0 v1 (jmax v2 v4) (v3 + (1 : Int32)) hf _ _ _ hP hD hS (lv_sub hl [2, 3, 1, 0] rfl)
    · have hf := tc_neg hc hf
      refine lv_iload_n hx hb dX11_mostAtOne_22 rfl (lv_at hl 0 rfl) ?_
      refine lv_iload hx hb dX11_mostAtOne_23 (lv_at hl 5 rfl) ?_
      refine lv_ishr hx hb dX11_mostAtOne_25 ?_
      refine lv_iconst (v := (1 : Int32)) hx hb dX11_mostAtOne_26 (by decide) ?_
      refine lv_iand hx hb dX11_mostAtOne_27 ?_
      refine lv_if_eq (tgt := 44) hx hb dX11_mostAtOne_28 (by decide) (fun hc => ?_) (fun hc => ?_)
      · have hf := tc_pos hc hf
        refine lv_iinc (v := v5 + (1 : Int32)) (lv' := [(5, .int (v5 + (1 : Int32))), (0, .int (v0)), (1, .int (v1)), (2, .int (v2)), (3, .int (v3)), (4, .int (v4))]) hx hb dX11_mostAtOne_44 hl (k := 5) rfl rfl (by decide) rfl (fun ls hl => ?_)
        refine lv_goto (tgt := 15) hx hb dX11_mostAtOne_47 (by decide) ?_
        exact ih v0 v1 v2 v3 v4 (v5 + (1 : Int32)) hf _ _ _ hP hD hS (lv_sub hl [1, 2, 3, 4, 5, 0] rfl)
      · have hf := tc_neg hc hf
        refine lv_iload hx hb dX11_mostAtOne_31 (lv_at hl 5 rfl) ?_
        refine lv_iload_n hx hb dX11_mostAtOne_33 rfl (lv_at hl 1 rfl) ?_
        obtain ⟨z1, hg, hf⟩ := tc_bi hf
        refine tc_iS0 (As := [.int (v5), .int (v1)]) (rest := []) X hP hD hS (mX11_landsBy hg) okX11_landsBy wl_X11_431 wt_X11_landsBy ⟨rfl, rfl, Nat.le_of_ble_eq_true rfl, Nat.le_of_ble_eq_true rfl⟩ rfl hl.1 (Nat.le_of_ble_eq_true rfl) dX11_mostAtOne_34 (fun H locs hP hD hS => ?_)
        refine lv_iload_n hx hb dX11_mostAtOne_37 rfl (lv_at hl 3 rfl) ?_
        refine lv_icmp_ne (tgt := 44) hx hb dX11_mostAtOne_38 (by decide) (fun hc => ?_) (fun hc => ?_)
        · have hf := tc_neg hc hf
          refine lv_iinc (v := v5 + (1 : Int32)) (lv' := [(5, .int (v5 + (1 : Int32))), (0, .int (v0)), (1, .int (v1)), (2, .int (v2)), (3, .int (v3)), (4, .int (v4))]) hx hb dX11_mostAtOne_44 hl (k := 5) rfl rfl (by decide) rfl (fun ls hl => ?_)
          refine lv_goto (tgt := 15) hx hb dX11_mostAtOne_47 (by decide) ?_
          exact ih v0 v1 v2 v3 v4 (v5 + (1 : Int32)) hf _ _ _ hP hD hS (lv_sub hl [1, 2, 3, 4, 5, 0] rfl)
        · have hf := tc_pos hc hf
          refine lv_iinc (v := v4 + (1 : Int32)) (lv' := [(4, .int (v4 + (1 : Int32))), (0, .int (v0)), (1, .int (v1)), (2, .int (v2)), (3, .int (v3)), (5, .int (v5))]) hx hb dX11_mostAtOne_41 hl (k := 4) rfl rfl (by decide) rfl (fun ls hl => ?_)
          refine lv_iinc (v := v5 + (1 : Int32)) (lv' := [(5, .int (v5 + (1 : Int32))), (4, .int (v4 + (1 : Int32))), (0, .int (v0)), (1, .int (v1)), (2, .int (v2)), (3, .int (v3))]) hx hb dX11_mostAtOne_44 hl (k := 5) rfl rfl (by decide) rfl (fun ls hl => ?_)
          refine lv_goto (tgt := 15) hx hb dX11_mostAtOne_47 (by decide) ?_
          exact ih v0 v1 v2 v3 (v4 + (1 : Int32)) (v5 + (1 : Int32)) hf _ _ _ hP hD hS (lv_sub hl [2, 3, 4, 5, 1, 0] rfl)
set_option maxRecDepth 20000 in
theorem tX11_mostAtOne_4   (X : tc_X dC dI ca A RX11 cX11_mostAtOne 6 (some .int) p s m args meth c) (z : Int32)     : ∀ n : Nat, ∀ (v0 : Int32) (v1 : Int32) (v2 : Int32) (v3 : Int32), fX11_mostAtOne_4 n v0 v1 v2 v3 = some z → ∀ (H : Heap) (locs : List Loc) (ls : Array Slot), va_P (dC, dI) classes [] H → va_D A [] → va_S A s.heap H locs → lv_has ls 6 [(0, .int (v0)), (1, .int (v1)), (2, .int (v2)), (3, .int (v3))] → W p l e rmX11_mostAtOne s m args below meth c H locs 0 0 (MQ below (tc_QI dC dI ca A [] (z)) args s 0 0 A) (F0 m 4 ls []) := by
  obtain ⟨hx, hb, hr, hml, hown, hts, hlk, hK, hA, hG⟩ := id X
  intro n
  induction n with
  | zero => intro v0 v1 v2 v3 hf; exact absurd (show none = some z from hf) (fun h => by cases h)
  | succ n ih =>
    intro v0 v1 v2 v3 hf H locs ls hP hD hS hl
    rw [fX11_mostAtOne_4] at hf
    refine lv_iload_n hx hb dX11_mostAtOne_4 rfl (lv_at hl 3 rfl) ?_
    refine lv_iload_n hx hb dX11_mostAtOne_5 rfl (lv_at hl 1 rfl) ?_
    refine lv_icmp_gt (tgt := 63) hx hb dX11_mostAtOne_6 (by decide) (fun hc => ?_) (fun hc => ?_)
    · have hf := tc_pos hc hf
      refine lv_iload_n hx hb dX11_mostAtOne_63 rfl (lv_at hl 2 rfl) ?_
      obtain rfl := Option.some.inj hf
      exact tc_ri X hP hD hS rfl dX11_mostAtOne_64 rfl rfl
    · have hf := tc_neg hc hf
      refine lv_iconst (v := (0 : Int32)) hx hb dX11_mostAtOne_9 (by decide) ?_
      refine lv_istore (lv' := [(4, .int ((0 : Int32))), (0, .int (v0)), (1, .int (v1)), (2, .int (v2)), (3, .int (v3))]) hx hb dX11_mostAtOne_10 hl (by decide) rfl (fun ls hl => ?_)
      refine lv_iconst (v := (0 : Int32)) hx hb dX11_mostAtOne_12 (by decide) ?_
      refine lv_istore (lv' := [(5, .int ((0 : Int32))), (4, .int ((0 : Int32))), (0, .int (v0)), (1, .int (v1)), (2, .int (v2)), (3, .int (v3))]) hx hb dX11_mostAtOne_13 hl (by decide) rfl (fun ls hl => ?_)
      exact tX11_mostAtOne_15 X z (fX11_mostAtOne_4 n) ih FU v0 v1 v2 v3 (0 : Int32) (0 : Int32) hf _ _ _ hP hD hS (lv_sub hl [2, 3, 4, 5, 1, 0] rfl)
set_option maxRecDepth 20000 in
theorem mX11_mostAtOne    {a0 : Int32} {a1 : Int32} {z : Int32}  (hf : fX11_mostAtOne a0 a1 = some z) : tc_MI l dC dI ca yX11_mostAtOne cX11_mostAtOne 6 (some .int) rmX11_mostAtOne [.int (a0), .int (a1)] [] [] (z) := by
  refine tc_metI (own := RX11) (by decide) rfl ?_ (Nat.le_of_ble_eq_true rfl)
  intro p e s m below meth c A X hP hD hS ls hl
  obtain ⟨hx, hb, hr, hml, hown, hts, hlk, hK, hA, hG⟩ := id X
  unfold fX11_mostAtOne at hf
  have hl : lv_has ls 6 [(0, .int (a0)), (1, .int (a1))] := hl
  refine lv_iconst (v := (0 : Int32)) hx hb dX11_mostAtOne_0 (by decide) ?_
  refine lv_istore_n (lv' := [(2, .int ((0 : Int32))), (0, .int (a0)), (1, .int (a1))]) hx hb dX11_mostAtOne_1 rfl hl (by decide) rfl (fun ls hl => ?_)
  refine lv_iconst (v := (0 : Int32)) hx hb dX11_mostAtOne_2 (by decide) ?_
  refine lv_istore_n (lv' := [(3, .int ((0 : Int32))), (2, .int ((0 : Int32))), (0, .int (a0)), (1, .int (a1))]) hx hb dX11_mostAtOne_3 rfl hl (by decide) rfl (fun ls hl => ?_)
  exact tX11_mostAtOne_4 X z FU a0 a1 (0 : Int32) (0 : Int32) hf _ _ _ hP hD hS (lv_sub hl [2, 3, 1, 0] rfl)
def fX11_ask_59  (SY0 : ms_T) (SY1 : ms_T) (SY2 : ms_T) (SY3 : ms_T)  : Nat → ms_T → Int32 → Int32 → Int32 → Int32 → Option (Int32 × ms_T)
  | 0, _, _, _, _, _ => none
  | n + 1, SC, v4, v5, v6, v7 =>
    if (9 : Int32) < v7 then
      (fX11_answer SC v5).bind fun z6 =>
      some (z6.1, z6.2)
    else
      (fX11_mostAtOne v4 v7).bind fun z7 =>
      if v6 ≤ z7 then
        fX11_ask_59 SY0 SY1 SY2 SY3 n SC v4 v5 v6 (v7 + (1 : Int32))
      else
        fX11_ask_59 SY0 SY1 SY2 SY3 n SC v4 v7 z7 (v7 + (1 : Int32))
def fX11_ask  (SC : ms_T) (SY0 : ms_T) (SY1 : ms_T) (SY2 : ms_T) (SY3 : ms_T) (a1 : Int32) (a2 : Int32) : Option (Int32 × ms_T) :=
  (fX11_lawStatus SC SY0 SY1 SY2 SY3 a1 a2).bind fun z1 =>
  if z1 = 0 then
    if a1 = (0 : Int32) then
      (fX11_fittingLaws SY0 a2).bind fun z3 =>
      (fJ6_bitCount_0f7a4 z3).bind fun z4 =>
      if (2 : Int32) ≤ z4 then
        (fX11_mostAtOne z3 (1 : Int32)).bind fun z5 =>
        fX11_ask_59 SY0 SY1 SY2 SY3 FU SC z3 (1 : Int32) z5 (2 : Int32)
      else
        (fX11_refuse SC (8 : Int32)).bind fun z8 =>
        some (z8.1, z8.2)
    else
      if a1 = (1 : Int32) then
        (fX11_fittingLaws SY1 a2).bind fun z9 =>
        (fJ6_bitCount_0f7a4 z9).bind fun z10 =>
        if (2 : Int32) ≤ z10 then
          (fX11_mostAtOne z9 (1 : Int32)).bind fun z11 =>
          fX11_ask_59 SY0 SY1 SY2 SY3 FU SC z9 (1 : Int32) z11 (2 : Int32)
        else
          (fX11_refuse SC (8 : Int32)).bind fun z12 =>
          some (z12.1, z12.2)
      else
        if a1 = (2 : Int32) then
          (fX11_fittingLaws SY2 a2).bind fun z13 =>
          (fJ6_bitCount_0f7a4 z13).bind fun z14 =>
          if (2 : Int32) ≤ z14 then
            (fX11_mostAtOne z13 (1 : Int32)).bind fun z15 =>
            fX11_ask_59 SY0 SY1 SY2 SY3 FU SC z13 (1 : Int32) z15 (2 : Int32)
          else
            (fX11_refuse SC (8 : Int32)).bind fun z16 =>
            some (z16.1, z16.2)
        else
          if a1 = (3 : Int32) then
            (fX11_fittingLaws SY3 a2).bind fun z17 =>
            (fJ6_bitCount_0f7a4 z17).bind fun z18 =>
            if (2 : Int32) ≤ z18 then
              (fX11_mostAtOne z17 (1 : Int32)).bind fun z19 =>
              fX11_ask_59 SY0 SY1 SY2 SY3 FU SC z17 (1 : Int32) z19 (2 : Int32)
            else
              (fX11_refuse SC (8 : Int32)).bind fun z20 =>
              some (z20.1, z20.2)
          else
            none
  else
    (fX11_refuse SC z1).bind fun z21 =>
    some (z21.1, z21.2)
abbrev rmX11_ask : Room := { frames := 3, cells := 0, slots := 0, locals := 70 }
theorem okX11_ask : tc_ok yX11_ask cX11_ask 9 (some .int) 2 := ⟨wc_X11_ask, wn_X11, by decide, by decide, by decide +kernel⟩
set_option maxRecDepth 20000 in
theorem tX11_ask_59 {qC : Nat → Nat} {qA : Nat → Nat} {qY0 : Nat → Nat} {qY1 : Nat → Nat} {qY2 : Nat → Nat} {qY3 : Nat → Nat} {rC4 : Value} {rC6 : Value} {rC7 : Value} {rC10 : Value} {rC11 : Value} {rC12 : Value} {rC14 : Value} {rC15 : Value} {rC17 : Value} {rC18 : Value} {rC19 : Value} (X : tc_X dC dI ca A RX11 cX11_ask 9 (some .int) p s m args meth c) (z : Int32 × ms_T)  (SY0 : ms_T) (SY1 : ms_T) (SY2 : ms_T) (SY3 : ms_T)   : ∀ n : Nat, ∀ (SC : ms_T) (v4 : Int32) (v5 : Int32) (v6 : Int32) (v7 : Int32), fX11_ask_59 SY0 SY1 SY2 SY3 n SC v4 v5 v6 v7 = some z → ∀ (H : Heap) (locs : List Loc) (ls : Array Slot), va_P (dC, dI) classes (w11 ca qC (.ref (qA 0)) (rC4) (rC6) (rC7) (rC10) (rC11) (rC12) (rC14) (rC15) (rC17) (rC18) (rC19) SC ++ wLT ca qA (rf4 (qY0 0) (qY1 0) (qY2 0) (qY3 0)) ++ w9 ca qY0 SY0 ++ w9 ca qY1 SY1 ++ w9 ca qY2 SY2 ++ w9 ca qY3 SY3) H → va_D A (w11 ca qC (.ref (qA 0)) (rC4) (rC6) (rC7) (rC10) (rC11) (rC12) (rC14) (rC15) (rC17) (rC18) (rC19) SC ++ wLT ca qA (rf4 (qY0 0) (qY1 0) (qY2 0) (qY3 0)) ++ w9 ca qY0 SY0 ++ w9 ca qY1 SY1 ++ w9 ca qY2 SY2 ++ w9 ca qY3 SY3) → va_S A s.heap H locs → lv_has ls 9 [(0, .ref (qC 0)), (4, .int (v4)), (5, .int (v5)), (6, .int (v6)), (7, .int (v7))] → W p l e rmX11_ask s m args below meth c H locs 0 0 (MQ below (tc_QI dC dI ca A (w11 ca qC (.ref (qA 0)) (rC4) (rC6) (rC7) (rC10) (rC11) (rC12) (rC14) (rC15) (rC17) (rC18) (rC19) z.2 ++ wLT ca qA (rf4 (qY0 0) (qY1 0) (qY2 0) (qY3 0)) ++ w9 ca qY0 SY0 ++ w9 ca qY1 SY1 ++ w9 ca qY2 SY2 ++ w9 ca qY3 SY3) (z.1)) args s 0 0 A) (F0 m 59 ls []) := by
  obtain ⟨hx, hb, hr, hml, hown, hts, hlk, hK, hA, hG⟩ := id X
  intro n
  induction n with
  | zero => intro SC v4 v5 v6 v7 hf; exact absurd (show none = some z from hf) (fun h => by cases h)
  | succ n ih =>
    intro SC v4 v5 v6 v7 hf H locs ls hP hD hS hl
    rw [fX11_ask_59] at hf
    refine lv_iload hx hb dX11_ask_59 (lv_at hl 4 rfl) ?_
    refine lv_bipush (v := (9 : Int32)) hx hb dX11_ask_61 (by decide) ?_
    refine lv_icmp_gt (tgt := 96) hx hb dX11_ask_63 (by decide) (fun hc => ?_) (fun hc => ?_)
    · have hf := tc_pos hc hf
      refine lv_aload_n hx hb dX11_ask_96 rfl (lv_at hl 0 rfl) ?_
      refine lv_iload hx hb dX11_ask_97 (lv_at hl 2 rfl) ?_
      obtain ⟨z6, hg, hf⟩ := tc_bi hf
      refine tc_iV (As := [.int (v5)]) (rest := []) (b := qC 0) (wc := w11 ca qC (.ref (qA 0)) (rC4) (rC6) (rC7) (rC10) (rC11) (rC12) (rC14) (rC15) (rC17) (rC18) (rC19) SC) (wr := wLT ca qA (rf4 (qY0 0) (qY1 0) (qY2 0) (qY3 0)) ++ w9 ca qY0 SY0 ++ w9 ca qY1 SY1 ++ w9 ca qY2 SY2 ++ w9 ca qY3 SY3) X hP hD hS (mX11_answer hg) okX11_answer wl_X11_182 wi_X11_answer ws_X11_X11_answer_X11_answer ⟨rfl, rfl, Nat.le_of_ble_eq_true rfl, Nat.le_of_ble_eq_true rfl⟩ 11 0 rfl rfl [0] [1, 2, 3, 4, 5, 6, 7, 8, 9] ⟨rfl, rfl, rfl, rfl, by decide⟩ rfl hl.1 (Nat.le_of_ble_eq_true rfl) dX11_ask_99 (fun H locs hP hD hS => ?_)
      have hP := hP.sub (ws' := (w11 ca qC (.ref (qA 0)) (rC4) (rC6) (rC7) (rC10) (rC11) (rC12) (rC14) (rC15) (rC17) (rC18) (rC19) z6.2 ++ wLT ca qA (rf4 (qY0 0) (qY1 0) (qY2 0) (qY3 0)) ++ w9 ca qY0 SY0 ++ w9 ca qY1 SY1 ++ w9 ca qY2 SY2 ++ w9 ca qY3 SY3)) [9, 0, 1, 2, 3, 4, 5, 6, 7, 8] rfl
      have hD := hD.sub (ws' := (w11 ca qC (.ref (qA 0)) (rC4) (rC6) (rC7) (rC10) (rC11) (rC12) (rC14) (rC15) (rC17) (rC18) (rC19) z6.2 ++ wLT ca qA (rf4 (qY0 0) (qY1 0) (qY2 0) (qY3 0)) ++ w9 ca qY0 SY0 ++ w9 ca qY1 SY1 ++ w9 ca qY2 SY2 ++ w9 ca qY3 SY3)) [9, 0, 1, 2, 3, 4, 5, 6, 7, 8] rfl rfl
      obtain rfl := Option.some.inj hf
      exact tc_ri X hP hD hS rfl dX11_ask_102 rfl rfl
    · have hf := tc_neg hc hf
      refine lv_iload hx hb dX11_ask_66 (lv_at hl 1 rfl) ?_
      refine lv_iload hx hb dX11_ask_68 (lv_at hl 4 rfl) ?_
      obtain ⟨z7, hg, hf⟩ := tc_bi hf
      refine tc_iS0 (As := [.int (v4), .int (v7)]) (rest := []) X hP hD hS (mX11_mostAtOne hg) okX11_mostAtOne wl_X11_339 wt_X11_mostAtOne ⟨rfl, rfl, Nat.le_of_ble_eq_true rfl, Nat.le_of_ble_eq_true rfl⟩ rfl hl.1 (Nat.le_of_ble_eq_true rfl) dX11_ask_70 (fun H locs hP hD hS => ?_)
      refine lv_istore (lv' := [(8, .int (z7)), (0, .ref (qC 0)), (4, .int (v4)), (5, .int (v5)), (6, .int (v6)), (7, .int (v7))]) hx hb dX11_ask_73 hl (by decide) rfl (fun ls hl => ?_)
      refine lv_iload hx hb dX11_ask_75 (lv_at hl 0 rfl) ?_
      refine lv_iload hx hb dX11_ask_77 (lv_at hl 4 rfl) ?_
      refine lv_icmp_ge (tgt := 90) hx hb dX11_ask_79 (by decide) (fun hc => ?_) (fun hc => ?_)
      · have hf := tc_pos hc hf
        refine lv_iinc (v := v7 + (1 : Int32)) (lv' := [(7, .int (v7 + (1 : Int32))), (8, .int (z7)), (0, .ref (qC 0)), (4, .int (v4)), (5, .int (v5)), (6, .int (v6))]) hx hb dX11_ask_90 hl (k := 5) rfl rfl (by decide) rfl (fun ls hl => ?_)
        refine lv_goto (tgt := 59) hx hb dX11_ask_93 (by decide) ?_
        exact ih SC v4 v5 v6 (v7 + (1 : Int32)) hf _ _ _ hP hD hS (lv_sub hl [2, 3, 4, 5, 0] rfl)
      · have hf := tc_neg hc hf
        refine lv_iload hx hb dX11_ask_82 (lv_at hl 0 rfl) ?_
        refine lv_istore (lv' := [(6, .int (z7)), (8, .int (z7)), (0, .ref (qC 0)), (4, .int (v4)), (5, .int (v5)), (7, .int (v7))]) hx hb dX11_ask_84 hl (by decide) rfl (fun ls hl => ?_)
        refine lv_iload hx hb dX11_ask_86 (lv_at hl 5 rfl) ?_
        refine lv_istore (lv' := [(5, .int (v7)), (6, .int (z7)), (8, .int (z7)), (0, .ref (qC 0)), (4, .int (v4)), (7, .int (v7))]) hx hb dX11_ask_88 hl (by decide) rfl (fun ls hl => ?_)
        refine lv_iinc (v := v7 + (1 : Int32)) (lv' := [(7, .int (v7 + (1 : Int32))), (5, .int (v7)), (6, .int (z7)), (8, .int (z7)), (0, .ref (qC 0)), (4, .int (v4))]) hx hb dX11_ask_90 hl (k := 5) rfl rfl (by decide) rfl (fun ls hl => ?_)
        refine lv_goto (tgt := 59) hx hb dX11_ask_93 (by decide) ?_
        exact ih SC v4 v7 z7 (v7 + (1 : Int32)) hf _ _ _ hP hD hS (lv_sub hl [4, 5, 1, 2, 0] rfl)
set_option maxRecDepth 20000 in
theorem mX11_ask {qC : Nat → Nat} {qA : Nat → Nat} {qY0 : Nat → Nat} {qY1 : Nat → Nat} {qY2 : Nat → Nat} {qY3 : Nat → Nat} {rC4 : Value} {rC6 : Value} {rC7 : Value} {rC10 : Value} {rC11 : Value} {rC12 : Value} {rC14 : Value} {rC15 : Value} {rC17 : Value} {rC18 : Value} {rC19 : Value} {SC : ms_T} {SY0 : ms_T} {SY1 : ms_T} {SY2 : ms_T} {SY3 : ms_T} {a1 : Int32} {a2 : Int32} {z : Int32 × ms_T}  (hf : fX11_ask SC SY0 SY1 SY2 SY3 a1 a2 = some z) : tc_MI l dC dI ca yX11_ask cX11_ask 9 (some .int) rmX11_ask [.ref (qC 0), .int (a1), .int (a2)] (w11 ca qC (.ref (qA 0)) (rC4) (rC6) (rC7) (rC10) (rC11) (rC12) (rC14) (rC15) (rC17) (rC18) (rC19) SC ++ wLT ca qA (rf4 (qY0 0) (qY1 0) (qY2 0) (qY3 0)) ++ w9 ca qY0 SY0 ++ w9 ca qY1 SY1 ++ w9 ca qY2 SY2 ++ w9 ca qY3 SY3) (w11 ca qC (.ref (qA 0)) (rC4) (rC6) (rC7) (rC10) (rC11) (rC12) (rC14) (rC15) (rC17) (rC18) (rC19) z.2 ++ wLT ca qA (rf4 (qY0 0) (qY1 0) (qY2 0) (qY3 0)) ++ w9 ca qY0 SY0 ++ w9 ca qY1 SY1 ++ w9 ca qY2 SY2 ++ w9 ca qY3 SY3) (z.1) := by
  refine tc_metI (own := RX11) (by decide) rfl ?_ (Nat.le_of_ble_eq_true rfl)
  intro p e s m below meth c A X hP hD hS ls hl
  obtain ⟨hx, hb, hr, hml, hown, hts, hlk, hK, hA, hG⟩ := id X
  unfold fX11_ask at hf
  have hl : lv_has ls 9 [(0, .ref (qC 0)), (1, .int (a1)), (2, .int (a2))] := hl
  refine lv_aload_n hx hb dX11_ask_0 rfl (lv_at hl 0 rfl) ?_
  refine lv_iload_n hx hb dX11_ask_1 rfl (lv_at hl 1 rfl) ?_
  refine lv_iload_n hx hb dX11_ask_2 rfl (lv_at hl 2 rfl) ?_
  obtain ⟨z1, hg, hf⟩ := tc_bi hf
  refine tc_iVs (As := [.int (a1), .int (a2)]) (rest := []) (b := qC 0) X hP hD hS (mX11_lawStatus hg) okX11_lawStatus wl_X11_332 wi_X11_lawStatus ws_X11_X11_lawStatus_X11_lawStatus ⟨rfl, rfl, Nat.le_of_ble_eq_true rfl, Nat.le_of_ble_eq_true rfl⟩ 11 0 rfl rfl rfl hl.1 (Nat.le_of_ble_eq_true rfl) dX11_ask_3 (fun H locs hP hD hS => ?_)
  refine lv_istore_n (lv' := [(3, .int (z1)), (0, .ref (qC 0)), (1, .int (a1)), (2, .int (a2))]) hx hb dX11_ask_6 rfl hl (by decide) rfl (fun ls hl => ?_)
  refine lv_iload_n hx hb dX11_ask_7 rfl (lv_at hl 0 rfl) ?_
  refine lv_if_eq (tgt := 17) hx hb dX11_ask_8 (by decide) (fun hc => ?_) (fun hc => ?_)
  · have hf := tc_pos hc hf
    refine lv_aload_n hx hb dX11_ask_17 rfl (lv_at hl 1 rfl) ?_
    refine va_get (D := (dC, dI)) (ci := 11) (v := .ref (qA 0)) (C := RX11) (T := TX11) (N := 20) hx hb hts i_X11 hown hK hP 0 rfl rfl 3 (by decide) (hts _ wf_X11_11) (fun _ h9 => h9) rfl dX11_ask_18 ?_
    refine lv_iload_n hx hb dX11_ask_21 rfl (lv_at hl 2 rfl) ?_
    by_cases hq2_0 : a1 = (0 : Int32)
    · have hf := tc_pos hq2_0 hf
      refine tc_ald (b := qY0 0) X hP 1 4 rfl rfl 0 (by rw [hq2_0]; decide) (by rw [hq2_0]; exact inb_vp (by decide)) rfl dX11_ask_22 ?_
      refine lv_iload_n hx hb dX11_ask_23 rfl (lv_at hl 3 rfl) ?_
      obtain ⟨z3, hg, hf⟩ := tc_bi hf
      refine tc_iS (As := [.ref (qY0 0), .int (a2)]) (rest := []) (wc := w9 ca qY0 SY0) (wr := w11 ca qC (.ref (qA 0)) (rC4) (rC6) (rC7) (rC10) (rC11) (rC12) (rC14) (rC15) (rC17) (rC18) (rC19) SC ++ wLT ca qA (rf4 (qY0 0) (qY1 0) (qY2 0) (qY3 0)) ++ w9 ca qY1 SY1 ++ w9 ca qY2 SY2 ++ w9 ca qY3 SY3) X hP hD hS (mX11_fittingLaws hg) okX11_fittingLaws wl_X11_335 wt_X11_fittingLaws ⟨rfl, rfl, Nat.le_of_ble_eq_true rfl, Nat.le_of_ble_eq_true rfl⟩ [2, 3] [0, 1, 4, 5, 6, 7, 8, 9] ⟨rfl, rfl, rfl, rfl, by decide⟩ rfl hl.1 (Nat.le_of_ble_eq_true rfl) dX11_ask_24 (fun H locs hP hD hS => ?_)
      have hP := hP.sub (ws' := (w11 ca qC (.ref (qA 0)) (rC4) (rC6) (rC7) (rC10) (rC11) (rC12) (rC14) (rC15) (rC17) (rC18) (rC19) SC ++ wLT ca qA (rf4 (qY0 0) (qY1 0) (qY2 0) (qY3 0)) ++ w9 ca qY0 SY0 ++ w9 ca qY1 SY1 ++ w9 ca qY2 SY2 ++ w9 ca qY3 SY3)) [0, 1, 8, 9, 2, 3, 4, 5, 6, 7] rfl
      have hD := hD.sub (ws' := (w11 ca qC (.ref (qA 0)) (rC4) (rC6) (rC7) (rC10) (rC11) (rC12) (rC14) (rC15) (rC17) (rC18) (rC19) SC ++ wLT ca qA (rf4 (qY0 0) (qY1 0) (qY2 0) (qY3 0)) ++ w9 ca qY0 SY0 ++ w9 ca qY1 SY1 ++ w9 ca qY2 SY2 ++ w9 ca qY3 SY3)) [0, 1, 8, 9, 2, 3, 4, 5, 6, 7] rfl rfl
      refine lv_istore (lv' := [(4, .int (z3)), (3, .int (z1)), (0, .ref (qC 0)), (1, .int (a1)), (2, .int (a2))]) hx hb dX11_ask_27 hl (by decide) rfl (fun ls hl => ?_)
      refine lv_iload hx hb dX11_ask_29 (lv_at hl 0 rfl) ?_
      obtain ⟨z4, hg, hf⟩ := tc_bi hf
      refine tc_iS0 (As := [.int (z3)]) (rest := []) X hP hD hS (mJ6_bitCount_0f7a4 hg) okJ6_bitCount_0f7a4 wl_X11_284 wt_J6_bitCount_0f7a4 ⟨rfl, rfl, Nat.le_of_ble_eq_true rfl, Nat.le_of_ble_eq_true rfl⟩ rfl hl.1 (Nat.le_of_ble_eq_true rfl) dX11_ask_31 (fun H locs hP hD hS => ?_)
      refine lv_iconst (v := (2 : Int32)) hx hb dX11_ask_34 (by decide) ?_
      refine lv_icmp_ge (tgt := 45) hx hb dX11_ask_35 (by decide) (fun hc => ?_) (fun hc => ?_)
      · have hf := tc_pos hc hf
        refine lv_iconst (v := (1 : Int32)) hx hb dX11_ask_45 (by decide) ?_
        refine lv_istore (lv' := [(5, .int ((1 : Int32))), (4, .int (z3)), (3, .int (z1)), (0, .ref (qC 0)), (1, .int (a1)), (2, .int (a2))]) hx hb dX11_ask_46 hl (by decide) rfl (fun ls hl => ?_)
        refine lv_iload hx hb dX11_ask_48 (lv_at hl 1 rfl) ?_
        refine lv_iconst (v := (1 : Int32)) hx hb dX11_ask_50 (by decide) ?_
        obtain ⟨z5, hg, hf⟩ := tc_bi hf
        refine tc_iS0 (As := [.int (z3), .int ((1 : Int32))]) (rest := []) X hP hD hS (mX11_mostAtOne hg) okX11_mostAtOne wl_X11_339 wt_X11_mostAtOne ⟨rfl, rfl, Nat.le_of_ble_eq_true rfl, Nat.le_of_ble_eq_true rfl⟩ rfl hl.1 (Nat.le_of_ble_eq_true rfl) dX11_ask_51 (fun H locs hP hD hS => ?_)
        refine lv_istore (lv' := [(6, .int (z5)), (5, .int ((1 : Int32))), (4, .int (z3)), (3, .int (z1)), (0, .ref (qC 0)), (1, .int (a1)), (2, .int (a2))]) hx hb dX11_ask_54 hl (by decide) rfl (fun ls hl => ?_)
        refine lv_iconst (v := (2 : Int32)) hx hb dX11_ask_56 (by decide) ?_
        refine lv_istore (lv' := [(7, .int ((2 : Int32))), (6, .int (z5)), (5, .int ((1 : Int32))), (4, .int (z3)), (3, .int (z1)), (0, .ref (qC 0)), (1, .int (a1)), (2, .int (a2))]) hx hb dX11_ask_57 hl (by decide) rfl (fun ls hl => ?_)
        exact tX11_ask_59 X z SY0 SY1 SY2 SY3 FU SC z3 (1 : Int32) z5 (2 : Int32) hf _ _ _ hP hD hS (lv_sub hl [5, 3, 2, 1, 0] rfl)
      · have hf := tc_neg hc hf
        refine lv_aload_n hx hb dX11_ask_38 rfl (lv_at hl 2 rfl) ?_
        refine lv_bipush (v := (8 : Int32)) hx hb dX11_ask_39 (by decide) ?_
        obtain ⟨z8, hg, hf⟩ := tc_bi hf
        refine tc_iV (As := [.int ((8 : Int32))]) (rest := []) (b := qC 0) (wc := w11 ca qC (.ref (qA 0)) (rC4) (rC6) (rC7) (rC10) (rC11) (rC12) (rC14) (rC15) (rC17) (rC18) (rC19) SC) (wr := wLT ca qA (rf4 (qY0 0) (qY1 0) (qY2 0) (qY3 0)) ++ w9 ca qY0 SY0 ++ w9 ca qY1 SY1 ++ w9 ca qY2 SY2 ++ w9 ca qY3 SY3) X hP hD hS (mX11_refuse hg) okX11_refuse wl_X11_121 wi_X11_refuse ws_X11_X11_refuse_X11_refuse ⟨rfl, rfl, Nat.le_of_ble_eq_true rfl, Nat.le_of_ble_eq_true rfl⟩ 11 0 rfl rfl [0] [1, 2, 3, 4, 5, 6, 7, 8, 9] ⟨rfl, rfl, rfl, rfl, by decide⟩ rfl hl.1 (Nat.le_of_ble_eq_true rfl) dX11_ask_41 (fun H locs hP hD hS => ?_)
        have hP := hP.sub (ws' := (w11 ca qC (.ref (qA 0)) (rC4) (rC6) (rC7) (rC10) (rC11) (rC12) (rC14) (rC15) (rC17) (rC18) (rC19) z8.2 ++ wLT ca qA (rf4 (qY0 0) (qY1 0) (qY2 0) (qY3 0)) ++ w9 ca qY0 SY0 ++ w9 ca qY1 SY1 ++ w9 ca qY2 SY2 ++ w9 ca qY3 SY3)) [9, 0, 1, 2, 3, 4, 5, 6, 7, 8] rfl
        have hD := hD.sub (ws' := (w11 ca qC (.ref (qA 0)) (rC4) (rC6) (rC7) (rC10) (rC11) (rC12) (rC14) (rC15) (rC17) (rC18) (rC19) z8.2 ++ wLT ca qA (rf4 (qY0 0) (qY1 0) (qY2 0) (qY3 0)) ++ w9 ca qY0 SY0 ++ w9 ca qY1 SY1 ++ w9 ca qY2 SY2 ++ w9 ca qY3 SY3)) [9, 0, 1, 2, 3, 4, 5, 6, 7, 8] rfl rfl
        obtain rfl := Option.some.inj hf
        exact tc_ri X hP hD hS rfl dX11_ask_44 rfl rfl
    · have hf := tc_neg hq2_0 hf
      by_cases hq2_1 : a1 = (1 : Int32)
      · have hf := tc_pos hq2_1 hf
        refine tc_ald (b := qY1 0) X hP 1 4 rfl rfl 1 (by rw [hq2_1]; decide) (by rw [hq2_1]; exact inb_vp (by decide)) rfl dX11_ask_22 ?_
        refine lv_iload_n hx hb dX11_ask_23 rfl (lv_at hl 3 rfl) ?_
        obtain ⟨z9, hg, hf⟩ := tc_bi hf
        refine tc_iS (As := [.ref (qY1 0), .int (a2)]) (rest := []) (wc := w9 ca qY1 SY1) (wr := w11 ca qC (.ref (qA 0)) (rC4) (rC6) (rC7) (rC10) (rC11) (rC12) (rC14) (rC15) (rC17) (rC18) (rC19) SC ++ wLT ca qA (rf4 (qY0 0) (qY1 0) (qY2 0) (qY3 0)) ++ w9 ca qY0 SY0 ++ w9 ca qY2 SY2 ++ w9 ca qY3 SY3) X hP hD hS (mX11_fittingLaws hg) okX11_fittingLaws wl_X11_335 wt_X11_fittingLaws ⟨rfl, rfl, Nat.le_of_ble_eq_true rfl, Nat.le_of_ble_eq_true rfl⟩ [4, 5] [0, 1, 2, 3, 6, 7, 8, 9] ⟨rfl, rfl, rfl, rfl, by decide⟩ rfl hl.1 (Nat.le_of_ble_eq_true rfl) dX11_ask_24 (fun H locs hP hD hS => ?_)
        have hP := hP.sub (ws' := (w11 ca qC (.ref (qA 0)) (rC4) (rC6) (rC7) (rC10) (rC11) (rC12) (rC14) (rC15) (rC17) (rC18) (rC19) SC ++ wLT ca qA (rf4 (qY0 0) (qY1 0) (qY2 0) (qY3 0)) ++ w9 ca qY0 SY0 ++ w9 ca qY1 SY1 ++ w9 ca qY2 SY2 ++ w9 ca qY3 SY3)) [0, 1, 2, 3, 8, 9, 4, 5, 6, 7] rfl
        have hD := hD.sub (ws' := (w11 ca qC (.ref (qA 0)) (rC4) (rC6) (rC7) (rC10) (rC11) (rC12) (rC14) (rC15) (rC17) (rC18) (rC19) SC ++ wLT ca qA (rf4 (qY0 0) (qY1 0) (qY2 0) (qY3 0)) ++ w9 ca qY0 SY0 ++ w9 ca qY1 SY1 ++ w9 ca qY2 SY2 ++ w9 ca qY3 SY3)) [0, 1, 2, 3, 8, 9, 4, 5, 6, 7] rfl rfl
        refine lv_istore (lv' := [(4, .int (z9)), (3, .int (z1)), (0, .ref (qC 0)), (1, .int (a1)), (2, .int (a2))]) hx hb dX11_ask_27 hl (by decide) rfl (fun ls hl => ?_)
        refine lv_iload hx hb dX11_ask_29 (lv_at hl 0 rfl) ?_
        obtain ⟨z10, hg, hf⟩ := tc_bi hf
        refine tc_iS0 (As := [.int (z9)]) (rest := []) X hP hD hS (mJ6_bitCount_0f7a4 hg) okJ6_bitCount_0f7a4 wl_X11_284 wt_J6_bitCount_0f7a4 ⟨rfl, rfl, Nat.le_of_ble_eq_true rfl, Nat.le_of_ble_eq_true rfl⟩ rfl hl.1 (Nat.le_of_ble_eq_true rfl) dX11_ask_31 (fun H locs hP hD hS => ?_)
        refine lv_iconst (v := (2 : Int32)) hx hb dX11_ask_34 (by decide) ?_
        refine lv_icmp_ge (tgt := 45) hx hb dX11_ask_35 (by decide) (fun hc => ?_) (fun hc => ?_)
        · have hf := tc_pos hc hf
          refine lv_iconst (v := (1 : Int32)) hx hb dX11_ask_45 (by decide) ?_
          refine lv_istore (lv' := [(5, .int ((1 : Int32))), (4, .int (z9)), (3, .int (z1)), (0, .ref (qC 0)), (1, .int (a1)), (2, .int (a2))]) hx hb dX11_ask_46 hl (by decide) rfl (fun ls hl => ?_)
          refine lv_iload hx hb dX11_ask_48 (lv_at hl 1 rfl) ?_
          refine lv_iconst (v := (1 : Int32)) hx hb dX11_ask_50 (by decide) ?_
          obtain ⟨z11, hg, hf⟩ := tc_bi hf
          refine tc_iS0 (As := [.int (z9), .int ((1 : Int32))]) (rest := []) X hP hD hS (mX11_mostAtOne hg) okX11_mostAtOne wl_X11_339 wt_X11_mostAtOne ⟨rfl, rfl, Nat.le_of_ble_eq_true rfl, Nat.le_of_ble_eq_true rfl⟩ rfl hl.1 (Nat.le_of_ble_eq_true rfl) dX11_ask_51 (fun H locs hP hD hS => ?_)
          refine lv_istore (lv' := [(6, .int (z11)), (5, .int ((1 : Int32))), (4, .int (z9)), (3, .int (z1)), (0, .ref (qC 0)), (1, .int (a1)), (2, .int (a2))]) hx hb dX11_ask_54 hl (by decide) rfl (fun ls hl => ?_)
          refine lv_iconst (v := (2 : Int32)) hx hb dX11_ask_56 (by decide) ?_
          refine lv_istore (lv' := [(7, .int ((2 : Int32))), (6, .int (z11)), (5, .int ((1 : Int32))), (4, .int (z9)), (3, .int (z1)), (0, .ref (qC 0)), (1, .int (a1)), (2, .int (a2))]) hx hb dX11_ask_57 hl (by decide) rfl (fun ls hl => ?_)
          exact tX11_ask_59 X z SY0 SY1 SY2 SY3 FU SC z9 (1 : Int32) z11 (2 : Int32) hf _ _ _ hP hD hS (lv_sub hl [5, 3, 2, 1, 0] rfl)
        · have hf := tc_neg hc hf
          refine lv_aload_n hx hb dX11_ask_38 rfl (lv_at hl 2 rfl) ?_
          refine lv_bipush (v := (8 : Int32)) hx hb dX11_ask_39 (by decide) ?_
          obtain ⟨z12, hg, hf⟩ := tc_bi hf
          refine tc_iV (As := [.int ((8 : Int32))]) (rest := []) (b := qC 0) (wc := w11 ca qC (.ref (qA 0)) (rC4) (rC6) (rC7) (rC10) (rC11) (rC12) (rC14) (rC15) (rC17) (rC18) (rC19) SC) (wr := wLT ca qA (rf4 (qY0 0) (qY1 0) (qY2 0) (qY3 0)) ++ w9 ca qY0 SY0 ++ w9 ca qY1 SY1 ++ w9 ca qY2 SY2 ++ w9 ca qY3 SY3) X hP hD hS (mX11_refuse hg) okX11_refuse wl_X11_121 wi_X11_refuse ws_X11_X11_refuse_X11_refuse ⟨rfl, rfl, Nat.le_of_ble_eq_true rfl, Nat.le_of_ble_eq_true rfl⟩ 11 0 rfl rfl [0] [1, 2, 3, 4, 5, 6, 7, 8, 9] ⟨rfl, rfl, rfl, rfl, by decide⟩ rfl hl.1 (Nat.le_of_ble_eq_true rfl) dX11_ask_41 (fun H locs hP hD hS => ?_)
          have hP := hP.sub (ws' := (w11 ca qC (.ref (qA 0)) (rC4) (rC6) (rC7) (rC10) (rC11) (rC12) (rC14) (rC15) (rC17) (rC18) (rC19) z12.2 ++ wLT ca qA (rf4 (qY0 0) (qY1 0) (qY2 0) (qY3 0)) ++ w9 ca qY0 SY0 ++ w9 ca qY1 SY1 ++ w9 ca qY2 SY2 ++ w9 ca qY3 SY3)) [9, 0, 1, 2, 3, 4, 5, 6, 7, 8] rfl
          have hD := hD.sub (ws' := (w11 ca qC (.ref (qA 0)) (rC4) (rC6) (rC7) (rC10) (rC11) (rC12) (rC14) (rC15) (rC17) (rC18) (rC19) z12.2 ++ wLT ca qA (rf4 (qY0 0) (qY1 0) (qY2 0) (qY3 0)) ++ w9 ca qY0 SY0 ++ w9 ca qY1 SY1 ++ w9 ca qY2 SY2 ++ w9 ca qY3 SY3)) [9, 0, 1, 2, 3, 4, 5, 6, 7, 8] rfl rfl
          obtain rfl := Option.some.inj hf
          exact tc_ri X hP hD hS rfl dX11_ask_44 rfl rfl
      · have hf := tc_neg hq2_1 hf
        by_cases hq2_2 : a1 = (2 : Int32)
        · have hf := tc_pos hq2_2 hf
          refine tc_ald (b := qY2 0) X hP 1 4 rfl rfl 2 (by rw [hq2_2]; decide) (by rw [hq2_2]; exact inb_vp (by decide)) rfl dX11_ask_22 ?_
          refine lv_iload_n hx hb dX11_ask_23 rfl (lv_at hl 3 rfl) ?_
          obtain ⟨z13, hg, hf⟩ := tc_bi hf
          refine tc_iS (As := [.ref (qY2 0), .int (a2)]) (rest := []) (wc := w9 ca qY2 SY2) (wr := w11 ca qC (.ref (qA 0)) (rC4) (rC6) (rC7) (rC10) (rC11) (rC12) (rC14) (rC15) (rC17) (rC18) (rC19) SC ++ wLT ca qA (rf4 (qY0 0) (qY1 0) (qY2 0) (qY3 0)) ++ w9 ca qY0 SY0 ++ w9 ca qY1 SY1 ++ w9 ca qY3 SY3) X hP hD hS (mX11_fittingLaws hg) okX11_fittingLaws wl_X11_335 wt_X11_fittingLaws ⟨rfl, rfl, Nat.le_of_ble_eq_true rfl, Nat.le_of_ble_eq_true rfl⟩ [6, 7] [0, 1, 2, 3, 4, 5, 8, 9] ⟨rfl, rfl, rfl, rfl, by decide⟩ rfl hl.1 (Nat.le_of_ble_eq_true rfl) dX11_ask_24 (fun H locs hP hD hS => ?_)
          have hP := hP.sub (ws' := (w11 ca qC (.ref (qA 0)) (rC4) (rC6) (rC7) (rC10) (rC11) (rC12) (rC14) (rC15) (rC17) (rC18) (rC19) SC ++ wLT ca qA (rf4 (qY0 0) (qY1 0) (qY2 0) (qY3 0)) ++ w9 ca qY0 SY0 ++ w9 ca qY1 SY1 ++ w9 ca qY2 SY2 ++ w9 ca qY3 SY3)) [0, 1, 2, 3, 4, 5, 8, 9, 6, 7] rfl
          have hD := hD.sub (ws' := (w11 ca qC (.ref (qA 0)) (rC4) (rC6) (rC7) (rC10) (rC11) (rC12) (rC14) (rC15) (rC17) (rC18) (rC19) SC ++ wLT ca qA (rf4 (qY0 0) (qY1 0) (qY2 0) (qY3 0)) ++ w9 ca qY0 SY0 ++ w9 ca qY1 SY1 ++ w9 ca qY2 SY2 ++ w9 ca qY3 SY3)) [0, 1, 2, 3, 4, 5, 8, 9, 6, 7] rfl rfl
          refine lv_istore (lv' := [(4, .int (z13)), (3, .int (z1)), (0, .ref (qC 0)), (1, .int (a1)), (2, .int (a2))]) hx hb dX11_ask_27 hl (by decide) rfl (fun ls hl => ?_)
          refine lv_iload hx hb dX11_ask_29 (lv_at hl 0 rfl) ?_
          obtain ⟨z14, hg, hf⟩ := tc_bi hf
          refine tc_iS0 (As := [.int (z13)]) (rest := []) X hP hD hS (mJ6_bitCount_0f7a4 hg) okJ6_bitCount_0f7a4 wl_X11_284 wt_J6_bitCount_0f7a4 ⟨rfl, rfl, Nat.le_of_ble_eq_true rfl, Nat.le_of_ble_eq_true rfl⟩ rfl hl.1 (Nat.le_of_ble_eq_true rfl) dX11_ask_31 (fun H locs hP hD hS => ?_)
          refine lv_iconst (v := (2 : Int32)) hx hb dX11_ask_34 (by decide) ?_
          refine lv_icmp_ge (tgt := 45) hx hb dX11_ask_35 (by decide) (fun hc => ?_) (fun hc => ?_)
          · have hf := tc_pos hc hf
            refine lv_iconst (v := (1 : Int32)) hx hb dX11_ask_45 (by decide) ?_
            refine lv_istore (lv' := [(5, .int ((1 : Int32))), (4, .int (z13)), (3, .int (z1)), (0, .ref (qC 0)), (1, .int (a1)), (2, .int (a2))]) hx hb dX11_ask_46 hl (by decide) rfl (fun ls hl => ?_)
            refine lv_iload hx hb dX11_ask_48 (lv_at hl 1 rfl) ?_
            refine lv_iconst (v := (1 : Int32)) hx hb dX11_ask_50 (by decide) ?_
            obtain ⟨z15, hg, hf⟩ := tc_bi hf
            refine tc_iS0 (As := [.int (z13), .int ((1 : Int32))]) (rest := []) X hP hD hS (mX11_mostAtOne hg) okX11_mostAtOne wl_X11_339 wt_X11_mostAtOne ⟨rfl, rfl, Nat.le_of_ble_eq_true rfl, Nat.le_of_ble_eq_true rfl⟩ rfl hl.1 (Nat.le_of_ble_eq_true rfl) dX11_ask_51 (fun H locs hP hD hS => ?_)
            refine lv_istore (lv' := [(6, .int (z15)), (5, .int ((1 : Int32))), (4, .int (z13)), (3, .int (z1)), (0, .ref (qC 0)), (1, .int (a1)), (2, .int (a2))]) hx hb dX11_ask_54 hl (by decide) rfl (fun ls hl => ?_)
            refine lv_iconst (v := (2 : Int32)) hx hb dX11_ask_56 (by decide) ?_
            refine lv_istore (lv' := [(7, .int ((2 : Int32))), (6, .int (z15)), (5, .int ((1 : Int32))), (4, .int (z13)), (3, .int (z1)), (0, .ref (qC 0)), (1, .int (a1)), (2, .int (a2))]) hx hb dX11_ask_57 hl (by decide) rfl (fun ls hl => ?_)
            exact tX11_ask_59 X z SY0 SY1 SY2 SY3 FU SC z13 (1 : Int32) z15 (2 : Int32) hf _ _ _ hP hD hS (lv_sub hl [5, 3, 2, 1, 0] rfl)
          · have hf := tc_neg hc hf
            refine lv_aload_n hx hb dX11_ask_38 rfl (lv_at hl 2 rfl) ?_
            refine lv_bipush (v := (8 : Int32)) hx hb dX11_ask_39 (by decide) ?_
            obtain ⟨z16, hg, hf⟩ := tc_bi hf
            refine tc_iV (As := [.int ((8 : Int32))]) (rest := []) (b := qC 0) (wc := w11 ca qC (.ref (qA 0)) (rC4) (rC6) (rC7) (rC10) (rC11) (rC12) (rC14) (rC15) (rC17) (rC18) (rC19) SC) (wr := wLT ca qA (rf4 (qY0 0) (qY1 0) (qY2 0) (qY3 0)) ++ w9 ca qY0 SY0 ++ w9 ca qY1 SY1 ++ w9 ca qY2 SY2 ++ w9 ca qY3 SY3) X hP hD hS (mX11_refuse hg) okX11_refuse wl_X11_121 wi_X11_refuse ws_X11_X11_refuse_X11_refuse ⟨rfl, rfl, Nat.le_of_ble_eq_true rfl, Nat.le_of_ble_eq_true rfl⟩ 11 0 rfl rfl [0] [1, 2, 3, 4, 5, 6, 7, 8, 9] ⟨rfl, rfl, rfl, rfl, by decide⟩ rfl hl.1 (Nat.le_of_ble_eq_true rfl) dX11_ask_41 (fun H locs hP hD hS => ?_)
            have hP := hP.sub (ws' := (w11 ca qC (.ref (qA 0)) (rC4) (rC6) (rC7) (rC10) (rC11) (rC12) (rC14) (rC15) (rC17) (rC18) (rC19) z16.2 ++ wLT ca qA (rf4 (qY0 0) (qY1 0) (qY2 0) (qY3 0)) ++ w9 ca qY0 SY0 ++ w9 ca qY1 SY1 ++ w9 ca qY2 SY2 ++ w9 ca qY3 SY3)) [9, 0, 1, 2, 3, 4, 5, 6, 7, 8] rfl
            have hD := hD.sub (ws' := (w11 ca qC (.ref (qA 0)) (rC4) (rC6) (rC7) (rC10) (rC11) (rC12) (rC14) (rC15) (rC17) (rC18) (rC19) z16.2 ++ wLT ca qA (rf4 (qY0 0) (qY1 0) (qY2 0) (qY3 0)) ++ w9 ca qY0 SY0 ++ w9 ca qY1 SY1 ++ w9 ca qY2 SY2 ++ w9 ca qY3 SY3)) [9, 0, 1, 2, 3, 4, 5, 6, 7, 8] rfl rfl
            obtain rfl := Option.some.inj hf
            exact tc_ri X hP hD hS rfl dX11_ask_44 rfl rfl
        · have hf := tc_neg hq2_2 hf
          by_cases hq2_3 : a1 = (3 : Int32)
          · have hf := tc_pos hq2_3 hf
            refine tc_ald (b := qY3 0) X hP 1 4 rfl rfl 3 (by rw [hq2_3]; decide) (by rw [hq2_3]; exact inb_vp (by decide)) rfl dX11_ask_22 ?_
            refine lv_iload_n hx hb dX11_ask_23 rfl (lv_at hl 3 rfl) ?_
            obtain ⟨z17, hg, hf⟩ := tc_bi hf
            refine tc_iS (As := [.ref (qY3 0), .int (a2)]) (rest := []) (wc := w9 ca qY3 SY3) (wr := w11 ca qC (.ref (qA 0)) (rC4) (rC6) (rC7) (rC10) (rC11) (rC12) (rC14) (rC15) (rC17) (rC18) (rC19) SC ++ wLT ca qA (rf4 (qY0 0) (qY1 0) (qY2 0) (qY3 0)) ++ w9 ca qY0 SY0 ++ w9 ca qY1 SY1 ++ w9 ca qY2 SY2) X hP hD hS (mX11_fittingLaws hg) okX11_fittingLaws wl_X11_335 wt_X11_fittingLaws ⟨rfl, rfl, Nat.le_of_ble_eq_true rfl, Nat.le_of_ble_eq_true rfl⟩ [8, 9] [0, 1, 2, 3, 4, 5, 6, 7] ⟨rfl, rfl, rfl, rfl, by decide⟩ rfl hl.1 (Nat.le_of_ble_eq_true rfl) dX11_ask_24 (fun H locs hP hD hS => ?_)
            have hP := hP.sub (ws' := (w11 ca qC (.ref (qA 0)) (rC4) (rC6) (rC7) (rC10) (rC11) (rC12) (rC14) (rC15) (rC17) (rC18) (rC19) SC ++ wLT ca qA (rf4 (qY0 0) (qY1 0) (qY2 0) (qY3 0)) ++ w9 ca qY0 SY0 ++ w9 ca qY1 SY1 ++ w9 ca qY2 SY2 ++ w9 ca qY3 SY3)) [0, 1, 2, 3, 4, 5, 6, 7, 8, 9] rfl
            have hD := hD.sub (ws' := (w11 ca qC (.ref (qA 0)) (rC4) (rC6) (rC7) (rC10) (rC11) (rC12) (rC14) (rC15) (rC17) (rC18) (rC19) SC ++ wLT ca qA (rf4 (qY0 0) (qY1 0) (qY2 0) (qY3 0)) ++ w9 ca qY0 SY0 ++ w9 ca qY1 SY1 ++ w9 ca qY2 SY2 ++ w9 ca qY3 SY3)) [0, 1, 2, 3, 4, 5, 6, 7, 8, 9] rfl rfl
            refine lv_istore (lv' := [(4, .int (z17)), (3, .int (z1)), (0, .ref (qC 0)), (1, .int (a1)), (2, .int (a2))]) hx hb dX11_ask_27 hl (by decide) rfl (fun ls hl => ?_)
            refine lv_iload hx hb dX11_ask_29 (lv_at hl 0 rfl) ?_
            obtain ⟨z18, hg, hf⟩ := tc_bi hf
            refine tc_iS0 (As := [.int (z17)]) (rest := []) X hP hD hS (mJ6_bitCount_0f7a4 hg) okJ6_bitCount_0f7a4 wl_X11_284 wt_J6_bitCount_0f7a4 ⟨rfl, rfl, Nat.le_of_ble_eq_true rfl, Nat.le_of_ble_eq_true rfl⟩ rfl hl.1 (Nat.le_of_ble_eq_true rfl) dX11_ask_31 (fun H locs hP hD hS => ?_)
            refine lv_iconst (v := (2 : Int32)) hx hb dX11_ask_34 (by decide) ?_
            refine lv_icmp_ge (tgt := 45) hx hb dX11_ask_35 (by decide) (fun hc => ?_) (fun hc => ?_)
            · have hf := tc_pos hc hf
              refine lv_iconst (v := (1 : Int32)) hx hb dX11_ask_45 (by decide) ?_
              refine lv_istore (lv' := [(5, .int ((1 : Int32))), (4, .int (z17)), (3, .int (z1)), (0, .ref (qC 0)), (1, .int (a1)), (2, .int (a2))]) hx hb dX11_ask_46 hl (by decide) rfl (fun ls hl => ?_)
              refine lv_iload hx hb dX11_ask_48 (lv_at hl 1 rfl) ?_
              refine lv_iconst (v := (1 : Int32)) hx hb dX11_ask_50 (by decide) ?_
              obtain ⟨z19, hg, hf⟩ := tc_bi hf
              refine tc_iS0 (As := [.int (z17), .int ((1 : Int32))]) (rest := []) X hP hD hS (mX11_mostAtOne hg) okX11_mostAtOne wl_X11_339 wt_X11_mostAtOne ⟨rfl, rfl, Nat.le_of_ble_eq_true rfl, Nat.le_of_ble_eq_true rfl⟩ rfl hl.1 (Nat.le_of_ble_eq_true rfl) dX11_ask_51 (fun H locs hP hD hS => ?_)
              refine lv_istore (lv' := [(6, .int (z19)), (5, .int ((1 : Int32))), (4, .int (z17)), (3, .int (z1)), (0, .ref (qC 0)), (1, .int (a1)), (2, .int (a2))]) hx hb dX11_ask_54 hl (by decide) rfl (fun ls hl => ?_)
              refine lv_iconst (v := (2 : Int32)) hx hb dX11_ask_56 (by decide) ?_
              refine lv_istore (lv' := [(7, .int ((2 : Int32))), (6, .int (z19)), (5, .int ((1 : Int32))), (4, .int (z17)), (3, .int (z1)), (0, .ref (qC 0)), (1, .int (a1)), (2, .int (a2))]) hx hb dX11_ask_57 hl (by decide) rfl (fun ls hl => ?_)
              exact tX11_ask_59 X z SY0 SY1 SY2 SY3 FU SC z17 (1 : Int32) z19 (2 : Int32) hf _ _ _ hP hD hS (lv_sub hl [5, 3, 2, 1, 0] rfl)
            · have hf := tc_neg hc hf
              refine lv_aload_n hx hb dX11_ask_38 rfl (lv_at hl 2 rfl) ?_
              refine lv_bipush (v := (8 : Int32)) hx hb dX11_ask_39 (by decide) ?_
              obtain ⟨z20, hg, hf⟩ := tc_bi hf
              refine tc_iV (As := [.int ((8 : Int32))]) (rest := []) (b := qC 0) (wc := w11 ca qC (.ref (qA 0)) (rC4) (rC6) (rC7) (rC10) (rC11) (rC12) (rC14) (rC15) (rC17) (rC18) (rC19) SC) (wr := wLT ca qA (rf4 (qY0 0) (qY1 0) (qY2 0) (qY3 0)) ++ w9 ca qY0 SY0 ++ w9 ca qY1 SY1 ++ w9 ca qY2 SY2 ++ w9 ca qY3 SY3) X hP hD hS (mX11_refuse hg) okX11_refuse wl_X11_121 wi_X11_refuse ws_X11_X11_refuse_X11_refuse ⟨rfl, rfl, Nat.le_of_ble_eq_true rfl, Nat.le_of_ble_eq_true rfl⟩ 11 0 rfl rfl [0] [1, 2, 3, 4, 5, 6, 7, 8, 9] ⟨rfl, rfl, rfl, rfl, by decide⟩ rfl hl.1 (Nat.le_of_ble_eq_true rfl) dX11_ask_41 (fun H locs hP hD hS => ?_)
              have hP := hP.sub (ws' := (w11 ca qC (.ref (qA 0)) (rC4) (rC6) (rC7) (rC10) (rC11) (rC12) (rC14) (rC15) (rC17) (rC18) (rC19) z20.2 ++ wLT ca qA (rf4 (qY0 0) (qY1 0) (qY2 0) (qY3 0)) ++ w9 ca qY0 SY0 ++ w9 ca qY1 SY1 ++ w9 ca qY2 SY2 ++ w9 ca qY3 SY3)) [9, 0, 1, 2, 3, 4, 5, 6, 7, 8] rfl
              have hD := hD.sub (ws' := (w11 ca qC (.ref (qA 0)) (rC4) (rC6) (rC7) (rC10) (rC11) (rC12) (rC14) (rC15) (rC17) (rC18) (rC19) z20.2 ++ wLT ca qA (rf4 (qY0 0) (qY1 0) (qY2 0) (qY3 0)) ++ w9 ca qY0 SY0 ++ w9 ca qY1 SY1 ++ w9 ca qY2 SY2 ++ w9 ca qY3 SY3)) [9, 0, 1, 2, 3, 4, 5, 6, 7, 8] rfl rfl
              obtain rfl := Option.some.inj hf
              exact tc_ri X hP hD hS rfl dX11_ask_44 rfl rfl
          · have hf := tc_neg hq2_3 hf
            cases hf
  · have hf := tc_neg hc hf
    refine lv_aload_n hx hb dX11_ask_11 rfl (lv_at hl 1 rfl) ?_
    refine lv_iload_n hx hb dX11_ask_12 rfl (lv_at hl 0 rfl) ?_
    obtain ⟨z21, hg, hf⟩ := tc_bi hf
    refine tc_iV (As := [.int (z1)]) (rest := []) (b := qC 0) (wc := w11 ca qC (.ref (qA 0)) (rC4) (rC6) (rC7) (rC10) (rC11) (rC12) (rC14) (rC15) (rC17) (rC18) (rC19) SC) (wr := wLT ca qA (rf4 (qY0 0) (qY1 0) (qY2 0) (qY3 0)) ++ w9 ca qY0 SY0 ++ w9 ca qY1 SY1 ++ w9 ca qY2 SY2 ++ w9 ca qY3 SY3) X hP hD hS (mX11_refuse hg) okX11_refuse wl_X11_121 wi_X11_refuse ws_X11_X11_refuse_X11_refuse ⟨rfl, rfl, Nat.le_of_ble_eq_true rfl, Nat.le_of_ble_eq_true rfl⟩ 11 0 rfl rfl [0] [1, 2, 3, 4, 5, 6, 7, 8, 9] ⟨rfl, rfl, rfl, rfl, by decide⟩ rfl hl.1 (Nat.le_of_ble_eq_true rfl) dX11_ask_13 (fun H locs hP hD hS => ?_)
    have hP := hP.sub (ws' := (w11 ca qC (.ref (qA 0)) (rC4) (rC6) (rC7) (rC10) (rC11) (rC12) (rC14) (rC15) (rC17) (rC18) (rC19) z21.2 ++ wLT ca qA (rf4 (qY0 0) (qY1 0) (qY2 0) (qY3 0)) ++ w9 ca qY0 SY0 ++ w9 ca qY1 SY1 ++ w9 ca qY2 SY2 ++ w9 ca qY3 SY3)) [9, 0, 1, 2, 3, 4, 5, 6, 7, 8] rfl
    have hD := hD.sub (ws' := (w11 ca qC (.ref (qA 0)) (rC4) (rC6) (rC7) (rC10) (rC11) (rC12) (rC14) (rC15) (rC17) (rC18) (rC19) z21.2 ++ wLT ca qA (rf4 (qY0 0) (qY1 0) (qY2 0) (qY3 0)) ++ w9 ca qY0 SY0 ++ w9 ca qY1 SY1 ++ w9 ca qY2 SY2 ++ w9 ca qY3 SY3)) [9, 0, 1, 2, 3, 4, 5, 6, 7, 8] rfl rfl
    obtain rfl := Option.some.inj hf
    exact tc_ri X hP hD hS rfl dX11_ask_16 rfl rfl
def fX11_fallStatus  (SC : ms_T) (SP0 : ms_T) (ST0 : ms_T) (a1 : Int32) (a2 : Int32) : Option (Int32) :=
  (fX7_isTalker ST0 a1).bind fun z1 =>
  if z1 = 0 then
    some ((2 : Int32))
  else
    (fX7_isHeight ST0 a2).bind fun z2 =>
    if z2 = 0 then
      some ((2 : Int32))
    else
      if a2 = 0 then
        some ((5 : Int32))
      else
        some ((0 : Int32))
abbrev rmX11_fallStatus : Room := { frames := 1, cells := 0, slots := 0, locals := 21 }
theorem okX11_fallStatus : tc_ok yX11_fallStatus cX11_fallStatus 3 (some .int) 2 := ⟨wc_X11_fallStatus, wn_X11, by decide, by decide, by decide +kernel⟩
set_option maxRecDepth 20000 in
theorem mX11_fallStatus {qC : Nat → Nat} {qP0 : Nat → Nat} {qT0 : Nat → Nat} {rC3 : Value} {rC4 : Value} {rC6 : Value} {rC7 : Value} {rC11 : Value} {rC12 : Value} {rC14 : Value} {rC15 : Value} {rC17 : Value} {rC18 : Value} {rC19 : Value} {rP01 : Value} {SC : ms_T} {SP0 : ms_T} {ST0 : ms_T} {a1 : Int32} {a2 : Int32} {z : Int32}  (hf : fX11_fallStatus SC SP0 ST0 a1 a2 = some z) : tc_MI l dC dI ca yX11_fallStatus cX11_fallStatus 3 (some .int) rmX11_fallStatus [.ref (qC 0), .int (a1), .int (a2)] (w11 ca qC (rC3) (rC4) (rC6) (rC7) (.ref (qP0 0)) (rC11) (rC12) (rC14) (rC15) (rC17) (rC18) (rC19) SC ++ w6 ca qP0 (.ref (qT0 0)) (rP01) SP0 ++ w7 ca qT0 ST0) (w11 ca qC (rC3) (rC4) (rC6) (rC7) (.ref (qP0 0)) (rC11) (rC12) (rC14) (rC15) (rC17) (rC18) (rC19) SC ++ w6 ca qP0 (.ref (qT0 0)) (rP01) SP0 ++ w7 ca qT0 ST0) (z) := by
  refine tc_metI (own := RX11) (by decide) rfl ?_ (Nat.le_of_ble_eq_true rfl)
  intro p e s m below meth c A X hP hD hS ls hl
  obtain ⟨hx, hb, hr, hml, hown, hts, hlk, hK, hA, hG⟩ := id X
  unfold fX11_fallStatus at hf
  have hl : lv_has ls 3 [(0, .ref (qC 0)), (1, .int (a1)), (2, .int (a2))] := hl
  refine lv_aload_n hx hb dX11_fallStatus_0 rfl (lv_at hl 0 rfl) ?_
  refine va_get (D := (dC, dI)) (ci := 11) (v := .ref (qP0 0)) (C := RX11) (T := TX11) (N := 20) hx hb hts i_X11 hown hK hP 0 rfl rfl 10 (by decide) (hts _ wf_X11_39) (fun _ h9 => h9) rfl dX11_fallStatus_1 ?_
  refine va_get (D := (dC, dI)) (ci := 6) (v := .ref (qT0 0)) (C := RX6) (T := TX6) (N := 2) hx hb hts i_X6 hown hK hP 1 rfl rfl 0 (by decide) (hts _ wf_X11_152) (fun _ h9 => h9) rfl dX11_fallStatus_4 ?_
  refine lv_iload_n hx hb dX11_fallStatus_7 rfl (lv_at hl 1 rfl) ?_
  obtain ⟨z1, hg, hf⟩ := tc_bi hf
  refine tc_iV (As := [.int (a1)]) (rest := []) (b := qT0 0) (wc := w7 ca qT0 ST0) (wr := w11 ca qC (rC3) (rC4) (rC6) (rC7) (.ref (qP0 0)) (rC11) (rC12) (rC14) (rC15) (rC17) (rC18) (rC19) SC ++ w6 ca qP0 (.ref (qT0 0)) (rP01) SP0) X hP hD hS (mX7_isTalker hg) okX7_isTalker wl_X11_244 wi_X7_isTalker ws_X7_X7_isTalker_X7_isTalker ⟨rfl, rfl, Nat.le_of_ble_eq_true rfl, Nat.le_of_ble_eq_true rfl⟩ 7 0 rfl rfl [2, 3, 4, 5, 6, 7, 8, 9, 10, 11, 12] [0, 1] ⟨rfl, rfl, rfl, rfl, by decide⟩ rfl hl.1 (Nat.le_of_ble_eq_true rfl) dX11_fallStatus_8 (fun H locs hP hD hS => ?_)
  have hP := hP.sub (ws' := (w11 ca qC (rC3) (rC4) (rC6) (rC7) (.ref (qP0 0)) (rC11) (rC12) (rC14) (rC15) (rC17) (rC18) (rC19) SC ++ w6 ca qP0 (.ref (qT0 0)) (rP01) SP0 ++ w7 ca qT0 ST0)) [0, 1, 2, 3, 4, 5, 6, 7, 8, 9, 10, 11, 12] rfl
  have hD := hD.sub (ws' := (w11 ca qC (rC3) (rC4) (rC6) (rC7) (.ref (qP0 0)) (rC11) (rC12) (rC14) (rC15) (rC17) (rC18) (rC19) SC ++ w6 ca qP0 (.ref (qT0 0)) (rP01) SP0 ++ w7 ca qT0 ST0)) [0, 1, 2, 3, 4, 5, 6, 7, 8, 9, 10, 11, 12] rfl rfl
  refine lv_if_eq (tgt := 28) hx hb dX11_fallStatus_11 (by decide) (fun hc => ?_) (fun hc => ?_)
  · have hf := tc_pos hc hf
    refine lv_iconst (v := (2 : Int32)) hx hb dX11_fallStatus_28 (by decide) ?_
    obtain rfl := Option.some.inj hf
    exact tc_ri X hP hD hS rfl dX11_fallStatus_29 rfl rfl
  · have hf := tc_neg hc hf
    refine lv_aload_n hx hb dX11_fallStatus_14 rfl (lv_at hl 0 rfl) ?_
    refine va_get (D := (dC, dI)) (ci := 11) (v := .ref (qP0 0)) (C := RX11) (T := TX11) (N := 20) hx hb hts i_X11 hown hK hP 0 rfl rfl 10 (by decide) (hts _ wf_X11_39) (fun _ h9 => h9) rfl dX11_fallStatus_15 ?_
    refine va_get (D := (dC, dI)) (ci := 6) (v := .ref (qT0 0)) (C := RX6) (T := TX6) (N := 2) hx hb hts i_X6 hown hK hP 1 rfl rfl 0 (by decide) (hts _ wf_X11_152) (fun _ h9 => h9) rfl dX11_fallStatus_18 ?_
    refine lv_iload_n hx hb dX11_fallStatus_21 rfl (lv_at hl 2 rfl) ?_
    obtain ⟨z2, hg, hf⟩ := tc_bi hf
    refine tc_iV (As := [.int (a2)]) (rest := []) (b := qT0 0) (wc := w7 ca qT0 ST0) (wr := w11 ca qC (rC3) (rC4) (rC6) (rC7) (.ref (qP0 0)) (rC11) (rC12) (rC14) (rC15) (rC17) (rC18) (rC19) SC ++ w6 ca qP0 (.ref (qT0 0)) (rP01) SP0) X hP hD hS (mX7_isHeight hg) okX7_isHeight wl_X11_289 wi_X7_isHeight ws_X7_X7_isHeight_X7_isHeight ⟨rfl, rfl, Nat.le_of_ble_eq_true rfl, Nat.le_of_ble_eq_true rfl⟩ 7 0 rfl rfl [2, 3, 4, 5, 6, 7, 8, 9, 10, 11, 12] [0, 1] ⟨rfl, rfl, rfl, rfl, by decide⟩ rfl hl.1 (Nat.le_of_ble_eq_true rfl) dX11_fallStatus_22 (fun H locs hP hD hS => ?_)
    have hP := hP.sub (ws' := (w11 ca qC (rC3) (rC4) (rC6) (rC7) (.ref (qP0 0)) (rC11) (rC12) (rC14) (rC15) (rC17) (rC18) (rC19) SC ++ w6 ca qP0 (.ref (qT0 0)) (rP01) SP0 ++ w7 ca qT0 ST0)) [0, 1, 2, 3, 4, 5, 6, 7, 8, 9, 10, 11, 12] rfl
    have hD := hD.sub (ws' := (w11 ca qC (rC3) (rC4) (rC6) (rC7) (.ref (qP0 0)) (rC11) (rC12) (rC14) (rC15) (rC17) (rC18) (rC19) SC ++ w6 ca qP0 (.ref (qT0 0)) (rP01) SP0 ++ w7 ca qT0 ST0)) [0, 1, 2, 3, 4, 5, 6, 7, 8, 9, 10, 11, 12] rfl rfl
    refine lv_if_ne (tgt := 30) hx hb dX11_fallStatus_25 (by decide) (fun hc => ?_) (fun hc => ?_)
    · have hf := tc_neg hc hf
      refine lv_iload_n hx hb dX11_fallStatus_30 rfl (lv_at hl 2 rfl) ?_
      refine lv_if_ne (tgt := 38) hx hb dX11_fallStatus_31 (by decide) (fun hc => ?_) (fun hc => ?_)
      · have hf := tc_neg hc hf
        refine lv_iconst (v := (0 : Int32)) hx hb dX11_fallStatus_38 (by decide) ?_
        obtain rfl := Option.some.inj hf
        exact tc_ri X hP hD hS rfl dX11_fallStatus_39 rfl rfl
      · have hf := tc_pos hc hf
        refine lv_iconst (v := (5 : Int32)) hx hb dX11_fallStatus_34 (by decide) ?_
        refine lv_goto (tgt := 39) hx hb dX11_fallStatus_35 (by decide) ?_
        obtain rfl := Option.some.inj hf
        exact tc_ri X hP hD hS rfl dX11_fallStatus_39 rfl rfl
    · have hf := tc_pos hc hf
      refine lv_iconst (v := (2 : Int32)) hx hb dX11_fallStatus_28 (by decide) ?_
      obtain rfl := Option.some.inj hf
      exact tc_ri X hP hD hS rfl dX11_fallStatus_29 rfl rfl
def fX11_best  (SC : ms_T) (SP0 : ms_T) (ST0 : ms_T) (SK : ms_T) (a1 : Int32) (a2 : Int32) : Option (Int32 × ms_T × ms_T) :=
  (fX11_fallStatus SC SP0 ST0 a1 a2).bind fun z1 =>
  if z1 = 0 then
    (fX5_weigh SK ST0 a1).bind fun z2 =>
    if inb a2 10 = true then
      (fX11_tell SC (la z2 3 a2) ((1 : Int64) <<< (((4 : Int32) * a2).toInt64 &&& 63))).bind fun z4 =>
      if z4.1 &&& 1 = z4.1 then
        some (z4.1, z4.2, z2)
      else none
    else none
  else
    (fX11_deny SC z1).bind fun z5 =>
    if z5.1 &&& 1 = z5.1 then
      some (z5.1, z5.2, SK)
    else none
abbrev rmX11_best : Room := { frames := 3, cells := 0, slots := 0, locals := 70 }
theorem okX11_best : tc_ok yX11_best cX11_best 4 (some .boolean) 2 := ⟨wc_X11_best, wn_X11, by decide, by decide, by decide +kernel⟩
set_option maxRecDepth 20000 in
theorem mX11_best {qC : Nat → Nat} {qP0 : Nat → Nat} {qT0 : Nat → Nat} {qK : Nat → Nat} {rC3 : Value} {rC4 : Value} {rC6 : Value} {rC7 : Value} {rC11 : Value} {rC12 : Value} {rC14 : Value} {rC15 : Value} {rC17 : Value} {rC18 : Value} {rP01 : Value} {SC : ms_T} {SP0 : ms_T} {ST0 : ms_T} {SK : ms_T} {a1 : Int32} {a2 : Int32} {z : Int32 × ms_T × ms_T}  (hf : fX11_best SC SP0 ST0 SK a1 a2 = some z) : tc_MI l dC dI ca yX11_best cX11_best 4 (some .boolean) rmX11_best [.ref (qC 0), .int (a1), .int (a2)] (w11 ca qC (rC3) (rC4) (rC6) (rC7) (.ref (qP0 0)) (rC11) (rC12) (rC14) (rC15) (rC17) (rC18) (.ref (qK 0)) SC ++ w6 ca qP0 (.ref (qT0 0)) (rP01) SP0 ++ w7 ca qT0 ST0 ++ w5 ca qK SK) (w11 ca qC (rC3) (rC4) (rC6) (rC7) (.ref (qP0 0)) (rC11) (rC12) (rC14) (rC15) (rC17) (rC18) (.ref (qK 0)) z.2.1 ++ w6 ca qP0 (.ref (qT0 0)) (rP01) SP0 ++ w7 ca qT0 ST0 ++ w5 ca qK z.2.2) (z.1) := by
  refine tc_metI (own := RX11) (by decide) rfl ?_ (Nat.le_of_ble_eq_true rfl)
  intro p e s m below meth c A X hP hD hS ls hl
  obtain ⟨hx, hb, hr, hml, hown, hts, hlk, hK, hA, hG⟩ := id X
  unfold fX11_best at hf
  have hl : lv_has ls 4 [(0, .ref (qC 0)), (1, .int (a1)), (2, .int (a2))] := hl
  refine lv_aload_n hx hb dX11_best_0 rfl (lv_at hl 0 rfl) ?_
  refine lv_iload_n hx hb dX11_best_1 rfl (lv_at hl 1 rfl) ?_
  refine lv_iload_n hx hb dX11_best_2 rfl (lv_at hl 2 rfl) ?_
  obtain ⟨z1, hg, hf⟩ := tc_bi hf
  refine tc_iV (As := [.int (a1), .int (a2)]) (rest := []) (b := qC 0) (wc := w11 ca qC (rC3) (rC4) (rC6) (rC7) (.ref (qP0 0)) (rC11) (rC12) (rC14) (rC15) (rC17) (rC18) (.ref (qK 0)) SC ++ w6 ca qP0 (.ref (qT0 0)) (rP01) SP0 ++ w7 ca qT0 ST0) (wr := w5 ca qK SK) X hP hD hS (mX11_fallStatus hg) okX11_fallStatus wl_X11_342 wi_X11_fallStatus ws_X11_X11_fallStatus_X11_fallStatus ⟨rfl, rfl, Nat.le_of_ble_eq_true rfl, Nat.le_of_ble_eq_true rfl⟩ 11 0 rfl rfl [0, 1, 2, 3, 4, 5, 6, 7, 8, 9, 10, 11, 12] [13, 14, 15, 16, 17] ⟨rfl, rfl, rfl, rfl, by decide⟩ rfl hl.1 (Nat.le_of_ble_eq_true rfl) dX11_best_3 (fun H locs hP hD hS => ?_)
  have hP := hP.sub (ws' := (w11 ca qC (rC3) (rC4) (rC6) (rC7) (.ref (qP0 0)) (rC11) (rC12) (rC14) (rC15) (rC17) (rC18) (.ref (qK 0)) SC ++ w6 ca qP0 (.ref (qT0 0)) (rP01) SP0 ++ w7 ca qT0 ST0 ++ w5 ca qK SK)) [5, 6, 7, 8, 9, 10, 11, 12, 13, 14, 15, 16, 17, 0, 1, 2, 3, 4] rfl
  have hD := hD.sub (ws' := (w11 ca qC (rC3) (rC4) (rC6) (rC7) (.ref (qP0 0)) (rC11) (rC12) (rC14) (rC15) (rC17) (rC18) (.ref (qK 0)) SC ++ w6 ca qP0 (.ref (qT0 0)) (rP01) SP0 ++ w7 ca qT0 ST0 ++ w5 ca qK SK)) [5, 6, 7, 8, 9, 10, 11, 12, 13, 14, 15, 16, 17, 0, 1, 2, 3, 4] rfl rfl
  refine lv_istore_n (lv' := [(3, .int (z1)), (0, .ref (qC 0)), (1, .int (a1)), (2, .int (a2))]) hx hb dX11_best_6 rfl hl (by decide) rfl (fun ls hl => ?_)
  refine lv_iload_n hx hb dX11_best_7 rfl (lv_at hl 0 rfl) ?_
  refine lv_if_eq (tgt := 17) hx hb dX11_best_8 (by decide) (fun hc => ?_) (fun hc => ?_)
  · have hf := tc_pos hc hf
    refine lv_aload_n hx hb dX11_best_17 rfl (lv_at hl 1 rfl) ?_
    refine va_get (D := (dC, dI)) (ci := 11) (v := .ref (qK 0)) (C := RX11) (T := TX11) (N := 20) hx hb hts i_X11 hown hK hP 0 rfl rfl 19 (by decide) (hts _ wf_X11_77) (fun _ h9 => h9) rfl dX11_best_18 ?_
    refine lv_aload_n hx hb dX11_best_21 rfl (lv_at hl 1 rfl) ?_
    refine va_get (D := (dC, dI)) (ci := 11) (v := .ref (qP0 0)) (C := RX11) (T := TX11) (N := 20) hx hb hts i_X11 hown hK hP 0 rfl rfl 10 (by decide) (hts _ wf_X11_39) (fun _ h9 => h9) rfl dX11_best_22 ?_
    refine va_get (D := (dC, dI)) (ci := 6) (v := .ref (qT0 0)) (C := RX6) (T := TX6) (N := 2) hx hb hts i_X6 hown hK hP 1 rfl rfl 0 (by decide) (hts _ wf_X11_152) (fun _ h9 => h9) rfl dX11_best_25 ?_
    refine lv_iload_n hx hb dX11_best_28 rfl (lv_at hl 2 rfl) ?_
    obtain ⟨z2, hg, hf⟩ := tc_bi hf
    refine tc_vV (As := [.ref (qT0 0), .int (a1)]) (rest := []) (b := qK 0) (wc := w5 ca qK SK ++ w7 ca qT0 ST0) (wr := w11 ca qC (rC3) (rC4) (rC6) (rC7) (.ref (qP0 0)) (rC11) (rC12) (rC14) (rC15) (rC17) (rC18) (.ref (qK 0)) SC ++ w6 ca qP0 (.ref (qT0 0)) (rP01) SP0) X hP hD hS (mX5_weigh hg) okX5_weigh wl_X11_345 wi_X5_weigh ws_X5_X5_weigh_X5_weigh ⟨rfl, rfl, Nat.le_of_ble_eq_true rfl, Nat.le_of_ble_eq_true rfl⟩ 5 0 rfl rfl [13, 14, 15, 16, 17, 2, 3, 4, 5, 6, 7, 8, 9, 10, 11, 12] [0, 1] ⟨rfl, rfl, rfl, rfl, by decide⟩ rfl hl.1 (Nat.le_of_ble_eq_true rfl) dX11_best_29 (fun H locs hP hD hS => ?_)
    have hP := hP.sub (ws' := (w11 ca qC (rC3) (rC4) (rC6) (rC7) (.ref (qP0 0)) (rC11) (rC12) (rC14) (rC15) (rC17) (rC18) (.ref (qK 0)) SC ++ w6 ca qP0 (.ref (qT0 0)) (rP01) SP0 ++ w7 ca qT0 ST0 ++ w5 ca qK z2)) [0, 1, 7, 8, 9, 10, 11, 12, 13, 14, 15, 16, 17, 2, 3, 4, 5, 6] rfl
    have hD := hD.sub (ws' := (w11 ca qC (rC3) (rC4) (rC6) (rC7) (.ref (qP0 0)) (rC11) (rC12) (rC14) (rC15) (rC17) (rC18) (.ref (qK 0)) SC ++ w6 ca qP0 (.ref (qT0 0)) (rP01) SP0 ++ w7 ca qT0 ST0 ++ w5 ca qK z2)) [0, 1, 7, 8, 9, 10, 11, 12, 13, 14, 15, 16, 17, 2, 3, 4, 5, 6] rfl rfl
    refine lv_aload_n hx hb dX11_best_32 rfl (lv_at hl 1 rfl) ?_
    refine lv_aload_n hx hb dX11_best_33 rfl (lv_at hl 1 rfl) ?_
    refine va_get (D := (dC, dI)) (ci := 11) (v := .ref (qK 0)) (C := RX11) (T := TX11) (N := 20) hx hb hts i_X11 hown hK hP 0 rfl rfl 19 (by decide) (hts _ wf_X11_77) (fun _ h9 => h9) rfl dX11_best_34 ?_
    refine va_get (D := (dC, dI)) (ci := 5) (v := .ref (qK 3)) (C := RX5) (T := TX5) (N := 4) hx hb hts i_X5 hown hK hP 13 rfl rfl 2 (by decide) (hts _ wf_X11_349) (fun _ h9 => h9) rfl dX11_best_37 ?_
    refine lv_iload_n hx hb dX11_best_40 rfl (lv_at hl 3 rfl) ?_
    obtain ⟨hi3, hf⟩ := tc_in hf
    refine va_lald hx hb hK hP 16 2 rfl rfl hi3 dX11_best_41 ?_
    refine lv_lconst (v := (1 : Int64)) hx hb dX11_best_42 (by decide) ?_
    refine lv_iconst (v := (4 : Int32)) hx hb dX11_best_43 (by decide) ?_
    refine lv_iload_n hx hb dX11_best_44 rfl (lv_at hl 3 rfl) ?_
    refine lv_imul hx hb dX11_best_45 ?_
    refine lv_lshl (v := (1 : Int64) <<< (((4 : Int32) * a2).toInt64 &&& 63)) hx hb dX11_best_46 rfl ?_
    obtain ⟨z4, hg, hf⟩ := tc_bi hf
    refine tc_iV (As := [.long (la z2 3 a2), .long ((1 : Int64) <<< (((4 : Int32) * a2).toInt64 &&& 63))]) (rest := []) (b := qC 0) (wc := w11 ca qC (rC3) (rC4) (rC6) (rC7) (.ref (qP0 0)) (rC11) (rC12) (rC14) (rC15) (rC17) (rC18) (.ref (qK 0)) SC) (wr := w6 ca qP0 (.ref (qT0 0)) (rP01) SP0 ++ w7 ca qT0 ST0 ++ w5 ca qK z2) X hP hD hS (mX11_tell hg) okX11_tell wl_X11_328 wi_X11_tell ws_X11_X11_tell_X11_tell ⟨rfl, rfl, Nat.le_of_ble_eq_true rfl, Nat.le_of_ble_eq_true rfl⟩ 11 0 rfl rfl [0] [1, 2, 3, 4, 5, 6, 7, 8, 9, 10, 11, 12, 13, 14, 15, 16, 17] ⟨rfl, rfl, rfl, rfl, by decide⟩ rfl hl.1 (Nat.le_of_ble_eq_true rfl) dX11_best_47 (fun H locs hP hD hS => ?_)
    have hP := hP.sub (ws' := (w11 ca qC (rC3) (rC4) (rC6) (rC7) (.ref (qP0 0)) (rC11) (rC12) (rC14) (rC15) (rC17) (rC18) (.ref (qK 0)) z4.2 ++ w6 ca qP0 (.ref (qT0 0)) (rP01) SP0 ++ w7 ca qT0 ST0 ++ w5 ca qK z2)) [17, 0, 1, 2, 3, 4, 5, 6, 7, 8, 9, 10, 11, 12, 13, 14, 15, 16] rfl
    have hD := hD.sub (ws' := (w11 ca qC (rC3) (rC4) (rC6) (rC7) (.ref (qP0 0)) (rC11) (rC12) (rC14) (rC15) (rC17) (rC18) (.ref (qK 0)) z4.2 ++ w6 ca qP0 (.ref (qT0 0)) (rP01) SP0 ++ w7 ca qT0 ST0 ++ w5 ca qK z2)) [17, 0, 1, 2, 3, 4, 5, 6, 7, 8, 9, 10, 11, 12, 13, 14, 15, 16] rfl rfl
    obtain ⟨hz1, hf⟩ := tc_ck hf
    obtain rfl := Option.some.inj hf
    exact tc_rz X hP hD hS rfl dX11_best_50 hz1 rfl rfl
  · have hf := tc_neg hc hf
    refine lv_aload_n hx hb dX11_best_11 rfl (lv_at hl 1 rfl) ?_
    refine lv_iload_n hx hb dX11_best_12 rfl (lv_at hl 0 rfl) ?_
    obtain ⟨z5, hg, hf⟩ := tc_bi hf
    refine tc_iV (As := [.int (z1)]) (rest := []) (b := qC 0) (wc := w11 ca qC (rC3) (rC4) (rC6) (rC7) (.ref (qP0 0)) (rC11) (rC12) (rC14) (rC15) (rC17) (rC18) (.ref (qK 0)) SC) (wr := w6 ca qP0 (.ref (qT0 0)) (rP01) SP0 ++ w7 ca qT0 ST0 ++ w5 ca qK SK) X hP hD hS (mX11_deny hg) okX11_deny wl_X11_102 wi_X11_deny ws_X11_X11_deny_X11_deny ⟨rfl, rfl, Nat.le_of_ble_eq_true rfl, Nat.le_of_ble_eq_true rfl⟩ 11 0 rfl rfl [0] [1, 2, 3, 4, 5, 6, 7, 8, 9, 10, 11, 12, 13, 14, 15, 16, 17] ⟨rfl, rfl, rfl, rfl, by decide⟩ rfl hl.1 (Nat.le_of_ble_eq_true rfl) dX11_best_13 (fun H locs hP hD hS => ?_)
    have hP := hP.sub (ws' := (w11 ca qC (rC3) (rC4) (rC6) (rC7) (.ref (qP0 0)) (rC11) (rC12) (rC14) (rC15) (rC17) (rC18) (.ref (qK 0)) z5.2 ++ w6 ca qP0 (.ref (qT0 0)) (rP01) SP0 ++ w7 ca qT0 ST0 ++ w5 ca qK SK)) [17, 0, 1, 2, 3, 4, 5, 6, 7, 8, 9, 10, 11, 12, 13, 14, 15, 16] rfl
    have hD := hD.sub (ws' := (w11 ca qC (rC3) (rC4) (rC6) (rC7) (.ref (qP0 0)) (rC11) (rC12) (rC14) (rC15) (rC17) (rC18) (.ref (qK 0)) z5.2 ++ w6 ca qP0 (.ref (qT0 0)) (rP01) SP0 ++ w7 ca qT0 ST0 ++ w5 ca qK SK)) [17, 0, 1, 2, 3, 4, 5, 6, 7, 8, 9, 10, 11, 12, 13, 14, 15, 16] rfl rfl
    obtain ⟨hz1, hf⟩ := tc_ck hf
    obtain rfl := Option.some.inj hf
    exact tc_rz X hP hD hS rfl dX11_best_16 hz1 rfl rfl
def fX11_bestAt  (SC : ms_T) (SP0 : ms_T) (ST0 : ms_T) (SK : ms_T) (a1 : Int32) (a2 : Int32) : Option (Int32 × ms_T × ms_T) :=
  (fX11_fallStatus SC SP0 ST0 a1 a2).bind fun z1 =>
  if z1 = 0 then
    (fX5_weigh SK ST0 a1).bind fun z2 =>
    (fX5_firstPull z2 a2).bind fun z3 =>
    (fX11_answer SC z3).bind fun z4 =>
    some (z4.1, z4.2, z2)
  else
    (fX11_refuse SC z1).bind fun z5 =>
    some (z5.1, z5.2, SK)
abbrev rmX11_bestAt : Room := { frames := 3, cells := 0, slots := 0, locals := 70 }
theorem okX11_bestAt : tc_ok yX11_bestAt cX11_bestAt 4 (some .int) 2 := ⟨wc_X11_bestAt, wn_X11, by decide, by decide, by decide +kernel⟩
set_option maxRecDepth 20000 in
theorem mX11_bestAt {qC : Nat → Nat} {qP0 : Nat → Nat} {qT0 : Nat → Nat} {qK : Nat → Nat} {rC3 : Value} {rC4 : Value} {rC6 : Value} {rC7 : Value} {rC11 : Value} {rC12 : Value} {rC14 : Value} {rC15 : Value} {rC17 : Value} {rC18 : Value} {rP01 : Value} {SC : ms_T} {SP0 : ms_T} {ST0 : ms_T} {SK : ms_T} {a1 : Int32} {a2 : Int32} {z : Int32 × ms_T × ms_T}  (hf : fX11_bestAt SC SP0 ST0 SK a1 a2 = some z) : tc_MI l dC dI ca yX11_bestAt cX11_bestAt 4 (some .int) rmX11_bestAt [.ref (qC 0), .int (a1), .int (a2)] (w11 ca qC (rC3) (rC4) (rC6) (rC7) (.ref (qP0 0)) (rC11) (rC12) (rC14) (rC15) (rC17) (rC18) (.ref (qK 0)) SC ++ w6 ca qP0 (.ref (qT0 0)) (rP01) SP0 ++ w7 ca qT0 ST0 ++ w5 ca qK SK) (w11 ca qC (rC3) (rC4) (rC6) (rC7) (.ref (qP0 0)) (rC11) (rC12) (rC14) (rC15) (rC17) (rC18) (.ref (qK 0)) z.2.1 ++ w6 ca qP0 (.ref (qT0 0)) (rP01) SP0 ++ w7 ca qT0 ST0 ++ w5 ca qK z.2.2) (z.1) := by
  refine tc_metI (own := RX11) (by decide) rfl ?_ (Nat.le_of_ble_eq_true rfl)
  intro p e s m below meth c A X hP hD hS ls hl
  obtain ⟨hx, hb, hr, hml, hown, hts, hlk, hK, hA, hG⟩ := id X
  unfold fX11_bestAt at hf
  have hl : lv_has ls 4 [(0, .ref (qC 0)), (1, .int (a1)), (2, .int (a2))] := hl
  refine lv_aload_n hx hb dX11_bestAt_0 rfl (lv_at hl 0 rfl) ?_
  refine lv_iload_n hx hb dX11_bestAt_1 rfl (lv_at hl 1 rfl) ?_
  refine lv_iload_n hx hb dX11_bestAt_2 rfl (lv_at hl 2 rfl) ?_
  obtain ⟨z1, hg, hf⟩ := tc_bi hf
  refine tc_iV (As := [.int (a1), .int (a2)]) (rest := []) (b := qC 0) (wc := w11 ca qC (rC3) (rC4) (rC6) (rC7) (.ref (qP0 0)) (rC11) (rC12) (rC14) (rC15) (rC17) (rC18) (.ref (qK 0)) SC ++ w6 ca qP0 (.ref (qT0 0)) (rP01) SP0 ++ w7 ca qT0 ST0) (wr := w5 ca qK SK) X hP hD hS (mX11_fallStatus hg) okX11_fallStatus wl_X11_342 wi_X11_fallStatus ws_X11_X11_fallStatus_X11_fallStatus ⟨rfl, rfl, Nat.le_of_ble_eq_true rfl, Nat.le_of_ble_eq_true rfl⟩ 11 0 rfl rfl [0, 1, 2, 3, 4, 5, 6, 7, 8, 9, 10, 11, 12] [13, 14, 15, 16, 17] ⟨rfl, rfl, rfl, rfl, by decide⟩ rfl hl.1 (Nat.le_of_ble_eq_true rfl) dX11_bestAt_3 (fun H locs hP hD hS => ?_)
  have hP := hP.sub (ws' := (w11 ca qC (rC3) (rC4) (rC6) (rC7) (.ref (qP0 0)) (rC11) (rC12) (rC14) (rC15) (rC17) (rC18) (.ref (qK 0)) SC ++ w6 ca qP0 (.ref (qT0 0)) (rP01) SP0 ++ w7 ca qT0 ST0 ++ w5 ca qK SK)) [5, 6, 7, 8, 9, 10, 11, 12, 13, 14, 15, 16, 17, 0, 1, 2, 3, 4] rfl
  have hD := hD.sub (ws' := (w11 ca qC (rC3) (rC4) (rC6) (rC7) (.ref (qP0 0)) (rC11) (rC12) (rC14) (rC15) (rC17) (rC18) (.ref (qK 0)) SC ++ w6 ca qP0 (.ref (qT0 0)) (rP01) SP0 ++ w7 ca qT0 ST0 ++ w5 ca qK SK)) [5, 6, 7, 8, 9, 10, 11, 12, 13, 14, 15, 16, 17, 0, 1, 2, 3, 4] rfl rfl
  refine lv_istore_n (lv' := [(3, .int (z1)), (0, .ref (qC 0)), (1, .int (a1)), (2, .int (a2))]) hx hb dX11_bestAt_6 rfl hl (by decide) rfl (fun ls hl => ?_)
  refine lv_iload_n hx hb dX11_bestAt_7 rfl (lv_at hl 0 rfl) ?_
  refine lv_if_eq (tgt := 17) hx hb dX11_bestAt_8 (by decide) (fun hc => ?_) (fun hc => ?_)
  · have hf := tc_pos hc hf
    refine lv_aload_n hx hb dX11_bestAt_17 rfl (lv_at hl 1 rfl) ?_
    refine va_get (D := (dC, dI)) (ci := 11) (v := .ref (qK 0)) (C := RX11) (T := TX11) (N := 20) hx hb hts i_X11 hown hK hP 0 rfl rfl 19 (by decide) (hts _ wf_X11_77) (fun _ h9 => h9) rfl dX11_bestAt_18 ?_
    refine lv_aload_n hx hb dX11_bestAt_21 rfl (lv_at hl 1 rfl) ?_
    refine va_get (D := (dC, dI)) (ci := 11) (v := .ref (qP0 0)) (C := RX11) (T := TX11) (N := 20) hx hb hts i_X11 hown hK hP 0 rfl rfl 10 (by decide) (hts _ wf_X11_39) (fun _ h9 => h9) rfl dX11_bestAt_22 ?_
    refine va_get (D := (dC, dI)) (ci := 6) (v := .ref (qT0 0)) (C := RX6) (T := TX6) (N := 2) hx hb hts i_X6 hown hK hP 1 rfl rfl 0 (by decide) (hts _ wf_X11_152) (fun _ h9 => h9) rfl dX11_bestAt_25 ?_
    refine lv_iload_n hx hb dX11_bestAt_28 rfl (lv_at hl 2 rfl) ?_
    obtain ⟨z2, hg, hf⟩ := tc_bi hf
    refine tc_vV (As := [.ref (qT0 0), .int (a1)]) (rest := []) (b := qK 0) (wc := w5 ca qK SK ++ w7 ca qT0 ST0) (wr := w11 ca qC (rC3) (rC4) (rC6) (rC7) (.ref (qP0 0)) (rC11) (rC12) (rC14) (rC15) (rC17) (rC18) (.ref (qK 0)) SC ++ w6 ca qP0 (.ref (qT0 0)) (rP01) SP0) X hP hD hS (mX5_weigh hg) okX5_weigh wl_X11_345 wi_X5_weigh ws_X5_X5_weigh_X5_weigh ⟨rfl, rfl, Nat.le_of_ble_eq_true rfl, Nat.le_of_ble_eq_true rfl⟩ 5 0 rfl rfl [13, 14, 15, 16, 17, 2, 3, 4, 5, 6, 7, 8, 9, 10, 11, 12] [0, 1] ⟨rfl, rfl, rfl, rfl, by decide⟩ rfl hl.1 (Nat.le_of_ble_eq_true rfl) dX11_bestAt_29 (fun H locs hP hD hS => ?_)
    have hP := hP.sub (ws' := (w11 ca qC (rC3) (rC4) (rC6) (rC7) (.ref (qP0 0)) (rC11) (rC12) (rC14) (rC15) (rC17) (rC18) (.ref (qK 0)) SC ++ w6 ca qP0 (.ref (qT0 0)) (rP01) SP0 ++ w7 ca qT0 ST0 ++ w5 ca qK z2)) [0, 1, 7, 8, 9, 10, 11, 12, 13, 14, 15, 16, 17, 2, 3, 4, 5, 6] rfl
    have hD := hD.sub (ws' := (w11 ca qC (rC3) (rC4) (rC6) (rC7) (.ref (qP0 0)) (rC11) (rC12) (rC14) (rC15) (rC17) (rC18) (.ref (qK 0)) SC ++ w6 ca qP0 (.ref (qT0 0)) (rP01) SP0 ++ w7 ca qT0 ST0 ++ w5 ca qK z2)) [0, 1, 7, 8, 9, 10, 11, 12, 13, 14, 15, 16, 17, 2, 3, 4, 5, 6] rfl rfl
    refine lv_aload_n hx hb dX11_bestAt_32 rfl (lv_at hl 1 rfl) ?_
    refine lv_aload_n hx hb dX11_bestAt_33 rfl (lv_at hl 1 rfl) ?_
    refine va_get (D := (dC, dI)) (ci := 11) (v := .ref (qK 0)) (C := RX11) (T := TX11) (N := 20) hx hb hts i_X11 hown hK hP 0 rfl rfl 19 (by decide) (hts _ wf_X11_77) (fun _ h9 => h9) rfl dX11_bestAt_34 ?_
    refine lv_iload_n hx hb dX11_bestAt_37 rfl (lv_at hl 3 rfl) ?_
    obtain ⟨z3, hg, hf⟩ := tc_bi hf
    refine tc_iV (As := [.int (a2)]) (rest := [.ref (qC 0)]) (b := qK 0) (wc := w5 ca qK z2) (wr := w11 ca qC (rC3) (rC4) (rC6) (rC7) (.ref (qP0 0)) (rC11) (rC12) (rC14) (rC15) (rC17) (rC18) (.ref (qK 0)) SC ++ w6 ca qP0 (.ref (qT0 0)) (rP01) SP0 ++ w7 ca qT0 ST0) X hP hD hS (mX5_firstPull hg) okX5_firstPull wl_X11_352 wi_X5_firstPull ws_X5_X5_firstPull_X5_firstPull ⟨rfl, rfl, Nat.le_of_ble_eq_true rfl, Nat.le_of_ble_eq_true rfl⟩ 5 0 rfl rfl [13, 14, 15, 16, 17] [0, 1, 2, 3, 4, 5, 6, 7, 8, 9, 10, 11, 12] ⟨rfl, rfl, rfl, rfl, by decide⟩ rfl hl.1 (Nat.le_of_ble_eq_true rfl) dX11_bestAt_38 (fun H locs hP hD hS => ?_)
    have hP := hP.sub (ws' := (w11 ca qC (rC3) (rC4) (rC6) (rC7) (.ref (qP0 0)) (rC11) (rC12) (rC14) (rC15) (rC17) (rC18) (.ref (qK 0)) SC ++ w6 ca qP0 (.ref (qT0 0)) (rP01) SP0 ++ w7 ca qT0 ST0 ++ w5 ca qK z2)) [0, 1, 2, 3, 4, 5, 6, 7, 8, 9, 10, 11, 12, 13, 14, 15, 16, 17] rfl
    have hD := hD.sub (ws' := (w11 ca qC (rC3) (rC4) (rC6) (rC7) (.ref (qP0 0)) (rC11) (rC12) (rC14) (rC15) (rC17) (rC18) (.ref (qK 0)) SC ++ w6 ca qP0 (.ref (qT0 0)) (rP01) SP0 ++ w7 ca qT0 ST0 ++ w5 ca qK z2)) [0, 1, 2, 3, 4, 5, 6, 7, 8, 9, 10, 11, 12, 13, 14, 15, 16, 17] rfl rfl
    obtain ⟨z4, hg, hf⟩ := tc_bi hf
    refine tc_iV (As := [.int (z3)]) (rest := []) (b := qC 0) (wc := w11 ca qC (rC3) (rC4) (rC6) (rC7) (.ref (qP0 0)) (rC11) (rC12) (rC14) (rC15) (rC17) (rC18) (.ref (qK 0)) SC) (wr := w6 ca qP0 (.ref (qT0 0)) (rP01) SP0 ++ w7 ca qT0 ST0 ++ w5 ca qK z2) X hP hD hS (mX11_answer hg) okX11_answer wl_X11_182 wi_X11_answer ws_X11_X11_answer_X11_answer ⟨rfl, rfl, Nat.le_of_ble_eq_true rfl, Nat.le_of_ble_eq_true rfl⟩ 11 0 rfl rfl [0] [1, 2, 3, 4, 5, 6, 7, 8, 9, 10, 11, 12, 13, 14, 15, 16, 17] ⟨rfl, rfl, rfl, rfl, by decide⟩ rfl hl.1 (Nat.le_of_ble_eq_true rfl) dX11_bestAt_41 (fun H locs hP hD hS => ?_)
    have hP := hP.sub (ws' := (w11 ca qC (rC3) (rC4) (rC6) (rC7) (.ref (qP0 0)) (rC11) (rC12) (rC14) (rC15) (rC17) (rC18) (.ref (qK 0)) z4.2 ++ w6 ca qP0 (.ref (qT0 0)) (rP01) SP0 ++ w7 ca qT0 ST0 ++ w5 ca qK z2)) [17, 0, 1, 2, 3, 4, 5, 6, 7, 8, 9, 10, 11, 12, 13, 14, 15, 16] rfl
    have hD := hD.sub (ws' := (w11 ca qC (rC3) (rC4) (rC6) (rC7) (.ref (qP0 0)) (rC11) (rC12) (rC14) (rC15) (rC17) (rC18) (.ref (qK 0)) z4.2 ++ w6 ca qP0 (.ref (qT0 0)) (rP01) SP0 ++ w7 ca qT0 ST0 ++ w5 ca qK z2)) [17, 0, 1, 2, 3, 4, 5, 6, 7, 8, 9, 10, 11, 12, 13, 14, 15, 16] rfl rfl
    obtain rfl := Option.some.inj hf
    exact tc_ri X hP hD hS rfl dX11_bestAt_44 rfl rfl
  · have hf := tc_neg hc hf
    refine lv_aload_n hx hb dX11_bestAt_11 rfl (lv_at hl 1 rfl) ?_
    refine lv_iload_n hx hb dX11_bestAt_12 rfl (lv_at hl 0 rfl) ?_
    obtain ⟨z5, hg, hf⟩ := tc_bi hf
    refine tc_iV (As := [.int (z1)]) (rest := []) (b := qC 0) (wc := w11 ca qC (rC3) (rC4) (rC6) (rC7) (.ref (qP0 0)) (rC11) (rC12) (rC14) (rC15) (rC17) (rC18) (.ref (qK 0)) SC) (wr := w6 ca qP0 (.ref (qT0 0)) (rP01) SP0 ++ w7 ca qT0 ST0 ++ w5 ca qK SK) X hP hD hS (mX11_refuse hg) okX11_refuse wl_X11_121 wi_X11_refuse ws_X11_X11_refuse_X11_refuse ⟨rfl, rfl, Nat.le_of_ble_eq_true rfl, Nat.le_of_ble_eq_true rfl⟩ 11 0 rfl rfl [0] [1, 2, 3, 4, 5, 6, 7, 8, 9, 10, 11, 12, 13, 14, 15, 16, 17] ⟨rfl, rfl, rfl, rfl, by decide⟩ rfl hl.1 (Nat.le_of_ble_eq_true rfl) dX11_bestAt_13 (fun H locs hP hD hS => ?_)
    have hP := hP.sub (ws' := (w11 ca qC (rC3) (rC4) (rC6) (rC7) (.ref (qP0 0)) (rC11) (rC12) (rC14) (rC15) (rC17) (rC18) (.ref (qK 0)) z5.2 ++ w6 ca qP0 (.ref (qT0 0)) (rP01) SP0 ++ w7 ca qT0 ST0 ++ w5 ca qK SK)) [17, 0, 1, 2, 3, 4, 5, 6, 7, 8, 9, 10, 11, 12, 13, 14, 15, 16] rfl
    have hD := hD.sub (ws' := (w11 ca qC (rC3) (rC4) (rC6) (rC7) (.ref (qP0 0)) (rC11) (rC12) (rC14) (rC15) (rC17) (rC18) (.ref (qK 0)) z5.2 ++ w6 ca qP0 (.ref (qT0 0)) (rP01) SP0 ++ w7 ca qT0 ST0 ++ w5 ca qK SK)) [17, 0, 1, 2, 3, 4, 5, 6, 7, 8, 9, 10, 11, 12, 13, 14, 15, 16] rfl rfl
    obtain rfl := Option.some.inj hf
    exact tc_ri X hP hD hS rfl dX11_bestAt_16 rfl rfl
def fX11_peace  (SC : ms_T) (SP0 : ms_T) (ST0 : ms_T) (SU : ms_T)  : Option (Int32 × ms_T × ms_T × ms_T) :=
  (fX3_begin SU ST0).bind fun z1 =>
  (fX3_topicsForPeace z1 ST0).bind fun z2 =>
  (fX11_answer SC z2.1).bind fun z3 =>
  some (z3.1, z3.2, z2.2.2, z2.2.1)
abbrev rmX11_peace : Room := { frames := 12, cells := 0, slots := 0, locals := 290 }
theorem okX11_peace : tc_ok yX11_peace cX11_peace 1 (some .int) 0 := ⟨wc_X11_peace, wn_X11, by decide, by decide, by decide +kernel⟩
set_option maxRecDepth 20000 in
theorem mX11_peace {qC : Nat → Nat} {qP0 : Nat → Nat} {qT0 : Nat → Nat} {qU : Nat → Nat} {rC3 : Value} {rC4 : Value} {rC6 : Value} {rC7 : Value} {rC11 : Value} {rC12 : Value} {rC14 : Value} {rC15 : Value} {rC17 : Value} {rC19 : Value} {rP01 : Value} {rU0 : Value} {SC : ms_T} {SP0 : ms_T} {ST0 : ms_T} {SU : ms_T}  {z : Int32 × ms_T × ms_T × ms_T}  (hf : fX11_peace SC SP0 ST0 SU = some z) : tc_MI l dC dI ca yX11_peace cX11_peace 1 (some .int) rmX11_peace [.ref (qC 0)] (w11 ca qC (rC3) (rC4) (rC6) (rC7) (.ref (qP0 0)) (rC11) (rC12) (rC14) (rC15) (rC17) (.ref (qU 0)) (rC19) SC ++ w6 ca qP0 (.ref (qT0 0)) (rP01) SP0 ++ w7 ca qT0 ST0 ++ w3 ca qU (rU0) SU) (w11 ca qC (rC3) (rC4) (rC6) (rC7) (.ref (qP0 0)) (rC11) (rC12) (rC14) (rC15) (rC17) (.ref (qU 0)) (rC19) z.2.1 ++ w6 ca qP0 (.ref (qT0 0)) (rP01) SP0 ++ w7 ca qT0 z.2.2.1 ++ w3 ca qU (.ref (qT0 0)) z.2.2.2) (z.1) := by
  refine tc_metI (own := RX11) (by decide) rfl ?_ (Nat.le_of_ble_eq_true rfl)
  intro p e s m below meth c A X hP hD hS ls hl
  obtain ⟨hx, hb, hr, hml, hown, hts, hlk, hK, hA, hG⟩ := id X
  unfold fX11_peace at hf
  have hl : lv_has ls 1 [(0, .ref (qC 0))] := hl
  refine lv_aload_n hx hb dX11_peace_0 rfl (lv_at hl 0 rfl) ?_
  refine va_get (D := (dC, dI)) (ci := 11) (v := .ref (qU 0)) (C := RX11) (T := TX11) (N := 20) hx hb hts i_X11 hown hK hP 0 rfl rfl 18 (by decide) (hts _ wf_X11_70) (fun _ h9 => h9) rfl dX11_peace_1 ?_
  refine lv_aload_n hx hb dX11_peace_4 rfl (lv_at hl 0 rfl) ?_
  refine va_get (D := (dC, dI)) (ci := 11) (v := .ref (qP0 0)) (C := RX11) (T := TX11) (N := 20) hx hb hts i_X11 hown hK hP 0 rfl rfl 10 (by decide) (hts _ wf_X11_39) (fun _ h9 => h9) rfl dX11_peace_5 ?_
  refine va_get (D := (dC, dI)) (ci := 6) (v := .ref (qT0 0)) (C := RX6) (T := TX6) (N := 2) hx hb hts i_X6 hown hK hP 1 rfl rfl 0 (by decide) (hts _ wf_X11_152) (fun _ h9 => h9) rfl dX11_peace_8 ?_
  obtain ⟨z1, hg, hf⟩ := tc_bi hf
  refine tc_vV (As := [.ref (qT0 0)]) (rest := []) (b := qU 0) (wc := w3 ca qU (rU0) SU ++ w7 ca qT0 ST0) (wr := w11 ca qC (rC3) (rC4) (rC6) (rC7) (.ref (qP0 0)) (rC11) (rC12) (rC14) (rC15) (rC17) (.ref (qU 0)) (rC19) SC ++ w6 ca qP0 (.ref (qT0 0)) (rP01) SP0) X hP hD hS (mX3_begin hg) okX3_begin wl_X11_355 wi_X3_begin ws_X3_X3_begin_X3_begin ⟨rfl, rfl, Nat.le_of_ble_eq_true rfl, Nat.le_of_ble_eq_true rfl⟩ 3 0 rfl rfl [13, 14, 15, 16, 2, 3, 4, 5, 6, 7, 8, 9, 10, 11, 12] [0, 1] ⟨rfl, rfl, rfl, rfl, by decide⟩ rfl hl.1 (Nat.le_of_ble_eq_true rfl) dX11_peace_11 (fun H locs hP hD hS => ?_)
  have hP := hP.sub (ws' := (w11 ca qC (rC3) (rC4) (rC6) (rC7) (.ref (qP0 0)) (rC11) (rC12) (rC14) (rC15) (rC17) (.ref (qU 0)) (rC19) SC ++ w6 ca qP0 (.ref (qT0 0)) (rP01) SP0 ++ w7 ca qT0 ST0 ++ w3 ca qU (.ref (qT0 0)) z1)) [0, 1, 6, 7, 8, 9, 10, 11, 12, 13, 14, 15, 16, 2, 3, 4, 5] rfl
  have hD := hD.sub (ws' := (w11 ca qC (rC3) (rC4) (rC6) (rC7) (.ref (qP0 0)) (rC11) (rC12) (rC14) (rC15) (rC17) (.ref (qU 0)) (rC19) SC ++ w6 ca qP0 (.ref (qT0 0)) (rP01) SP0 ++ w7 ca qT0 ST0 ++ w3 ca qU (.ref (qT0 0)) z1)) [0, 1, 6, 7, 8, 9, 10, 11, 12, 13, 14, 15, 16, 2, 3, 4, 5] rfl rfl
  refine lv_aload_n hx hb dX11_peace_14 rfl (lv_at hl 0 rfl) ?_
  refine lv_aload_n hx hb dX11_peace_15 rfl (lv_at hl 0 rfl) ?_
  refine va_get (D := (dC, dI)) (ci := 11) (v := .ref (qU 0)) (C := RX11) (T := TX11) (N := 20) hx hb hts i_X11 hown hK hP 0 rfl rfl 18 (by decide) (hts _ wf_X11_70) (fun _ h9 => h9) rfl dX11_peace_16 ?_
  obtain ⟨z2, hg, hf⟩ := tc_bi hf
  refine tc_iV (As := []) (rest := [.ref (qC 0)]) (b := qU 0) (wc := w3 ca qU (.ref (qT0 0)) z1 ++ w7 ca qT0 ST0) (wr := w11 ca qC (rC3) (rC4) (rC6) (rC7) (.ref (qP0 0)) (rC11) (rC12) (rC14) (rC15) (rC17) (.ref (qU 0)) (rC19) SC ++ w6 ca qP0 (.ref (qT0 0)) (rP01) SP0) X hP hD hS (mX3_topicsForPeace hg) okX3_topicsForPeace wl_X11_357 wi_X3_topicsForPeace ws_X3_X3_topicsForPeace_X3_topicsForPeace ⟨rfl, rfl, Nat.le_of_ble_eq_true rfl, Nat.le_of_ble_eq_true rfl⟩ 3 0 rfl rfl [13, 14, 15, 16, 2, 3, 4, 5, 6, 7, 8, 9, 10, 11, 12] [0, 1] ⟨rfl, rfl, rfl, rfl, by decide⟩ rfl hl.1 (Nat.le_of_ble_eq_true rfl) dX11_peace_19 (fun H locs hP hD hS => ?_)
  have hP := hP.sub (ws' := (w11 ca qC (rC3) (rC4) (rC6) (rC7) (.ref (qP0 0)) (rC11) (rC12) (rC14) (rC15) (rC17) (.ref (qU 0)) (rC19) SC ++ w6 ca qP0 (.ref (qT0 0)) (rP01) SP0 ++ w7 ca qT0 z2.2.2 ++ w3 ca qU (.ref (qT0 0)) z2.2.1)) [0, 1, 6, 7, 8, 9, 10, 11, 12, 13, 14, 15, 16, 2, 3, 4, 5] rfl
  have hD := hD.sub (ws' := (w11 ca qC (rC3) (rC4) (rC6) (rC7) (.ref (qP0 0)) (rC11) (rC12) (rC14) (rC15) (rC17) (.ref (qU 0)) (rC19) SC ++ w6 ca qP0 (.ref (qT0 0)) (rP01) SP0 ++ w7 ca qT0 z2.2.2 ++ w3 ca qU (.ref (qT0 0)) z2.2.1)) [0, 1, 6, 7, 8, 9, 10, 11, 12, 13, 14, 15, 16, 2, 3, 4, 5] rfl rfl
  obtain ⟨z3, hg, hf⟩ := tc_bi hf
  refine tc_iV (As := [.int (z2.1)]) (rest := []) (b := qC 0) (wc := w11 ca qC (rC3) (rC4) (rC6) (rC7) (.ref (qP0 0)) (rC11) (rC12) (rC14) (rC15) (rC17) (.ref (qU 0)) (rC19) SC) (wr := w6 ca qP0 (.ref (qT0 0)) (rP01) SP0 ++ w7 ca qT0 z2.2.2 ++ w3 ca qU (.ref (qT0 0)) z2.2.1) X hP hD hS (mX11_answer hg) okX11_answer wl_X11_182 wi_X11_answer ws_X11_X11_answer_X11_answer ⟨rfl, rfl, Nat.le_of_ble_eq_true rfl, Nat.le_of_ble_eq_true rfl⟩ 11 0 rfl rfl [0] [1, 2, 3, 4, 5, 6, 7, 8, 9, 10, 11, 12, 13, 14, 15, 16] ⟨rfl, rfl, rfl, rfl, by decide⟩ rfl hl.1 (Nat.le_of_ble_eq_true rfl) dX11_peace_22 (fun H locs hP hD hS => ?_)
  have hP := hP.sub (ws' := (w11 ca qC (rC3) (rC4) (rC6) (rC7) (.ref (qP0 0)) (rC11) (rC12) (rC14) (rC15) (rC17) (.ref (qU 0)) (rC19) z3.2 ++ w6 ca qP0 (.ref (qT0 0)) (rP01) SP0 ++ w7 ca qT0 z2.2.2 ++ w3 ca qU (.ref (qT0 0)) z2.2.1)) [16, 0, 1, 2, 3, 4, 5, 6, 7, 8, 9, 10, 11, 12, 13, 14, 15] rfl
  have hD := hD.sub (ws' := (w11 ca qC (rC3) (rC4) (rC6) (rC7) (.ref (qP0 0)) (rC11) (rC12) (rC14) (rC15) (rC17) (.ref (qU 0)) (rC19) z3.2 ++ w6 ca qP0 (.ref (qT0 0)) (rP01) SP0 ++ w7 ca qT0 z2.2.2 ++ w3 ca qU (.ref (qT0 0)) z2.2.1)) [16, 0, 1, 2, 3, 4, 5, 6, 7, 8, 9, 10, 11, 12, 13, 14, 15] rfl rfl
  obtain rfl := Option.some.inj hf
  exact tc_ri X hP hD hS rfl dX11_peace_25 rfl rfl
def fX11_quarrels_10  (SP0 : ms_T)  (SC : ms_T) (ST0 : ms_T) (SU : ms_T) : Option (Int32 × ms_T × ms_T × ms_T) :=
  (fX11_refuse SC (5 : Int32)).bind fun z1 =>
  some (z1.1, z1.2, ST0, SU)
def fX11_quarrels  (SC : ms_T) (SP0 : ms_T) (ST0 : ms_T) (SU : ms_T) (a1 : Int32) : Option (Int32 × ms_T × ms_T × ms_T) :=
  if a1 < (1 : Int32) then
    fX11_quarrels_10 SP0 SC ST0 SU
  else
    if a1 ≤ (4 : Int32) then
      (fX3_begin SU ST0).bind fun z2 =>
      (fX3_fewestOn z2 ST0 a1).bind fun z3 =>
      (fX11_answer SC z3.1).bind fun z4 =>
      some (z4.1, z4.2, z3.2.2, z3.2.1)
    else
      fX11_quarrels_10 SP0 SC ST0 SU
abbrev rmX11_quarrels : Room := { frames := 11, cells := 0, slots := 0, locals := 269 }
theorem okX11_quarrels : tc_ok yX11_quarrels cX11_quarrels 2 (some .int) 1 := ⟨wc_X11_quarrels, wn_X11, by decide, by decide, by decide +kernel⟩
set_option maxRecDepth 20000 in
theorem tX11_quarrels_10 {qC : Nat → Nat} {qP0 : Nat → Nat} {qT0 : Nat → Nat} {qU : Nat → Nat} {rC3 : Value} {rC4 : Value} {rC6 : Value} {rC7 : Value} {rC11 : Value} {rC12 : Value} {rC14 : Value} {rC15 : Value} {rC17 : Value} {rC19 : Value} {rP01 : Value} {rU0 : Value} (X : tc_X dC dI ca A RX11 cX11_quarrels 2 (some .int) p s m args meth c) (z : Int32 × ms_T × ms_T × ms_T)  (SP0 : ms_T)   : ∀ (SC : ms_T) (ST0 : ms_T) (SU : ms_T), fX11_quarrels_10 SP0 SC ST0 SU = some z → ∀ (H : Heap) (locs : List Loc) (ls : Array Slot), va_P (dC, dI) classes (w11 ca qC (rC3) (rC4) (rC6) (rC7) (.ref (qP0 0)) (rC11) (rC12) (rC14) (rC15) (rC17) (.ref (qU 0)) (rC19) SC ++ w6 ca qP0 (.ref (qT0 0)) (rP01) SP0 ++ w7 ca qT0 ST0 ++ w3 ca qU (rU0) SU) H → va_D A (w11 ca qC (rC3) (rC4) (rC6) (rC7) (.ref (qP0 0)) (rC11) (rC12) (rC14) (rC15) (rC17) (.ref (qU 0)) (rC19) SC ++ w6 ca qP0 (.ref (qT0 0)) (rP01) SP0 ++ w7 ca qT0 ST0 ++ w3 ca qU (rU0) SU) → va_S A s.heap H locs → lv_has ls 2 [(0, .ref (qC 0))] → W p l e rmX11_quarrels s m args below meth c H locs 0 0 (MQ below (tc_QIx dC dI ca A (fun u => (w11 ca qC (rC3) (rC4) (rC6) (rC7) (.ref (qP0 0)) (rC11) (rC12) (rC14) (rC15) (rC17) (.ref (qU 0)) (rC19) z.2.1 ++ w6 ca qP0 (.ref (qT0 0)) (rP01) SP0 ++ w7 ca qT0 z.2.2.1 ++ w3 ca qU (u 0) z.2.2.2)) (z.1)) args s 0 0 A) (F0 m 10 ls []) := by
  obtain ⟨hx, hb, hr, hml, hown, hts, hlk, hK, hA, hG⟩ := id X
  intro SC ST0 SU hf H locs ls hP hD hS hl
  unfold fX11_quarrels_10 at hf
  refine lv_aload_n hx hb dX11_quarrels_10 rfl (lv_at hl 0 rfl) ?_
  refine lv_iconst (v := (5 : Int32)) hx hb dX11_quarrels_11 (by decide) ?_
  obtain ⟨z1, hg, hf⟩ := tc_bi hf
  refine tc_iV (As := [.int ((5 : Int32))]) (rest := []) (b := qC 0) (wc := w11 ca qC (rC3) (rC4) (rC6) (rC7) (.ref (qP0 0)) (rC11) (rC12) (rC14) (rC15) (rC17) (.ref (qU 0)) (rC19) SC) (wr := w6 ca qP0 (.ref (qT0 0)) (rP01) SP0 ++ w7 ca qT0 ST0 ++ w3 ca qU (rU0) SU) X hP hD hS (mX11_refuse hg) okX11_refuse wl_X11_121 wi_X11_refuse ws_X11_X11_refuse_X11_refuse ⟨rfl, rfl, Nat.le_of_ble_eq_true rfl, Nat.le_of_ble_eq_true rfl⟩ 11 0 rfl rfl [0] [1, 2, 3, 4, 5, 6, 7, 8, 9, 10, 11, 12, 13, 14, 15, 16] ⟨rfl, rfl, rfl, rfl, by decide⟩ rfl hl.1 (Nat.le_of_ble_eq_true rfl) dX11_quarrels_12 (fun H locs hP hD hS => ?_)
  have hP := hP.sub (ws' := (w11 ca qC (rC3) (rC4) (rC6) (rC7) (.ref (qP0 0)) (rC11) (rC12) (rC14) (rC15) (rC17) (.ref (qU 0)) (rC19) z1.2 ++ w6 ca qP0 (.ref (qT0 0)) (rP01) SP0 ++ w7 ca qT0 ST0 ++ w3 ca qU (rU0) SU)) [16, 0, 1, 2, 3, 4, 5, 6, 7, 8, 9, 10, 11, 12, 13, 14, 15] rfl
  have hD := hD.sub (ws' := (w11 ca qC (rC3) (rC4) (rC6) (rC7) (.ref (qP0 0)) (rC11) (rC12) (rC14) (rC15) (rC17) (.ref (qU 0)) (rC19) z1.2 ++ w6 ca qP0 (.ref (qT0 0)) (rP01) SP0 ++ w7 ca qT0 ST0 ++ w3 ca qU (rU0) SU)) [16, 0, 1, 2, 3, 4, 5, 6, 7, 8, 9, 10, 11, 12, 13, 14, 15] rfl rfl
  obtain rfl := Option.some.inj hf
  exact tc_rix X hP hD hS rfl dX11_quarrels_15 (fun _ => rU0) rfl rfl
set_option maxRecDepth 20000 in
theorem mX11_quarrels {qC : Nat → Nat} {qP0 : Nat → Nat} {qT0 : Nat → Nat} {qU : Nat → Nat} {rC3 : Value} {rC4 : Value} {rC6 : Value} {rC7 : Value} {rC11 : Value} {rC12 : Value} {rC14 : Value} {rC15 : Value} {rC17 : Value} {rC19 : Value} {rP01 : Value} {rU0 : Value} {SC : ms_T} {SP0 : ms_T} {ST0 : ms_T} {SU : ms_T} {a1 : Int32} {z : Int32 × ms_T × ms_T × ms_T}  (hf : fX11_quarrels SC SP0 ST0 SU a1 = some z) : tc_MIx l dC dI ca yX11_quarrels cX11_quarrels 2 (some .int) rmX11_quarrels [.ref (qC 0), .int (a1)] (w11 ca qC (rC3) (rC4) (rC6) (rC7) (.ref (qP0 0)) (rC11) (rC12) (rC14) (rC15) (rC17) (.ref (qU 0)) (rC19) SC ++ w6 ca qP0 (.ref (qT0 0)) (rP01) SP0 ++ w7 ca qT0 ST0 ++ w3 ca qU (rU0) SU) (fun u => (w11 ca qC (rC3) (rC4) (rC6) (rC7) (.ref (qP0 0)) (rC11) (rC12) (rC14) (rC15) (rC17) (.ref (qU 0)) (rC19) z.2.1 ++ w6 ca qP0 (.ref (qT0 0)) (rP01) SP0 ++ w7 ca qT0 z.2.2.1 ++ w3 ca qU (u 0) z.2.2.2)) (z.1) := by
  refine tc_metIx (own := RX11) (by decide) rfl ?_ (Nat.le_of_ble_eq_true rfl)
  intro p e s m below meth c A X hP hD hS ls hl
  obtain ⟨hx, hb, hr, hml, hown, hts, hlk, hK, hA, hG⟩ := id X
  unfold fX11_quarrels at hf
  have hl : lv_has ls 2 [(0, .ref (qC 0)), (1, .int (a1))] := hl
  refine lv_iload_n hx hb dX11_quarrels_0 rfl (lv_at hl 1 rfl) ?_
  refine lv_iconst (v := (1 : Int32)) hx hb dX11_quarrels_1 (by decide) ?_
  refine lv_icmp_lt (tgt := 10) hx hb dX11_quarrels_2 (by decide) (fun hc => ?_) (fun hc => ?_)
  · have hf := tc_pos hc hf
    exact tX11_quarrels_10 X z SP0 SC ST0 SU hf _ _ _ hP hD hS (lv_sub hl [0] rfl)
  · have hf := tc_neg hc hf
    refine lv_iload_n hx hb dX11_quarrels_5 rfl (lv_at hl 1 rfl) ?_
    refine lv_iconst (v := (4 : Int32)) hx hb dX11_quarrels_6 (by decide) ?_
    refine lv_icmp_le (tgt := 16) hx hb dX11_quarrels_7 (by decide) (fun hc => ?_) (fun hc => ?_)
    · have hf := tc_pos hc hf
      refine lv_aload_n hx hb dX11_quarrels_16 rfl (lv_at hl 0 rfl) ?_
      refine va_get (D := (dC, dI)) (ci := 11) (v := .ref (qU 0)) (C := RX11) (T := TX11) (N := 20) hx hb hts i_X11 hown hK hP 0 rfl rfl 18 (by decide) (hts _ wf_X11_70) (fun _ h9 => h9) rfl dX11_quarrels_17 ?_
      refine lv_aload_n hx hb dX11_quarrels_20 rfl (lv_at hl 0 rfl) ?_
      refine va_get (D := (dC, dI)) (ci := 11) (v := .ref (qP0 0)) (C := RX11) (T := TX11) (N := 20) hx hb hts i_X11 hown hK hP 0 rfl rfl 10 (by decide) (hts _ wf_X11_39) (fun _ h9 => h9) rfl dX11_quarrels_21 ?_
      refine va_get (D := (dC, dI)) (ci := 6) (v := .ref (qT0 0)) (C := RX6) (T := TX6) (N := 2) hx hb hts i_X6 hown hK hP 1 rfl rfl 0 (by decide) (hts _ wf_X11_152) (fun _ h9 => h9) rfl dX11_quarrels_24 ?_
      obtain ⟨z2, hg, hf⟩ := tc_bi hf
      refine tc_vV (As := [.ref (qT0 0)]) (rest := []) (b := qU 0) (wc := w3 ca qU (rU0) SU ++ w7 ca qT0 ST0) (wr := w11 ca qC (rC3) (rC4) (rC6) (rC7) (.ref (qP0 0)) (rC11) (rC12) (rC14) (rC15) (rC17) (.ref (qU 0)) (rC19) SC ++ w6 ca qP0 (.ref (qT0 0)) (rP01) SP0) X hP hD hS (mX3_begin hg) okX3_begin wl_X11_355 wi_X3_begin ws_X3_X3_begin_X3_begin ⟨rfl, rfl, Nat.le_of_ble_eq_true rfl, Nat.le_of_ble_eq_true rfl⟩ 3 0 rfl rfl [13, 14, 15, 16, 2, 3, 4, 5, 6, 7, 8, 9, 10, 11, 12] [0, 1] ⟨rfl, rfl, rfl, rfl, by decide⟩ rfl hl.1 (Nat.le_of_ble_eq_true rfl) dX11_quarrels_27 (fun H locs hP hD hS => ?_)
      have hP := hP.sub (ws' := (w11 ca qC (rC3) (rC4) (rC6) (rC7) (.ref (qP0 0)) (rC11) (rC12) (rC14) (rC15) (rC17) (.ref (qU 0)) (rC19) SC ++ w6 ca qP0 (.ref (qT0 0)) (rP01) SP0 ++ w7 ca qT0 ST0 ++ w3 ca qU (.ref (qT0 0)) z2)) [0, 1, 6, 7, 8, 9, 10, 11, 12, 13, 14, 15, 16, 2, 3, 4, 5] rfl
      have hD := hD.sub (ws' := (w11 ca qC (rC3) (rC4) (rC6) (rC7) (.ref (qP0 0)) (rC11) (rC12) (rC14) (rC15) (rC17) (.ref (qU 0)) (rC19) SC ++ w6 ca qP0 (.ref (qT0 0)) (rP01) SP0 ++ w7 ca qT0 ST0 ++ w3 ca qU (.ref (qT0 0)) z2)) [0, 1, 6, 7, 8, 9, 10, 11, 12, 13, 14, 15, 16, 2, 3, 4, 5] rfl rfl
      refine lv_aload_n hx hb dX11_quarrels_30 rfl (lv_at hl 0 rfl) ?_
      refine lv_aload_n hx hb dX11_quarrels_31 rfl (lv_at hl 0 rfl) ?_
      refine va_get (D := (dC, dI)) (ci := 11) (v := .ref (qU 0)) (C := RX11) (T := TX11) (N := 20) hx hb hts i_X11 hown hK hP 0 rfl rfl 18 (by decide) (hts _ wf_X11_70) (fun _ h9 => h9) rfl dX11_quarrels_32 ?_
      refine lv_iload_n hx hb dX11_quarrels_35 rfl (lv_at hl 1 rfl) ?_
      obtain ⟨z3, hg, hf⟩ := tc_bi hf
      refine tc_iV (As := [.int (a1)]) (rest := [.ref (qC 0)]) (b := qU 0) (wc := w3 ca qU (.ref (qT0 0)) z2 ++ w7 ca qT0 ST0) (wr := w11 ca qC (rC3) (rC4) (rC6) (rC7) (.ref (qP0 0)) (rC11) (rC12) (rC14) (rC15) (rC17) (.ref (qU 0)) (rC19) SC ++ w6 ca qP0 (.ref (qT0 0)) (rP01) SP0) X hP hD hS (mX3_fewestOn hg) okX3_fewestOn wl_X11_360 wi_X3_fewestOn ws_X3_X3_fewestOn_X3_fewestOn ⟨rfl, rfl, Nat.le_of_ble_eq_true rfl, Nat.le_of_ble_eq_true rfl⟩ 3 0 rfl rfl [13, 14, 15, 16, 2, 3, 4, 5, 6, 7, 8, 9, 10, 11, 12] [0, 1] ⟨rfl, rfl, rfl, rfl, by decide⟩ rfl hl.1 (Nat.le_of_ble_eq_true rfl) dX11_quarrels_36 (fun H locs hP hD hS => ?_)
      have hP := hP.sub (ws' := (w11 ca qC (rC3) (rC4) (rC6) (rC7) (.ref (qP0 0)) (rC11) (rC12) (rC14) (rC15) (rC17) (.ref (qU 0)) (rC19) SC ++ w6 ca qP0 (.ref (qT0 0)) (rP01) SP0 ++ w7 ca qT0 z3.2.2 ++ w3 ca qU (.ref (qT0 0)) z3.2.1)) [0, 1, 6, 7, 8, 9, 10, 11, 12, 13, 14, 15, 16, 2, 3, 4, 5] rfl
      have hD := hD.sub (ws' := (w11 ca qC (rC3) (rC4) (rC6) (rC7) (.ref (qP0 0)) (rC11) (rC12) (rC14) (rC15) (rC17) (.ref (qU 0)) (rC19) SC ++ w6 ca qP0 (.ref (qT0 0)) (rP01) SP0 ++ w7 ca qT0 z3.2.2 ++ w3 ca qU (.ref (qT0 0)) z3.2.1)) [0, 1, 6, 7, 8, 9, 10, 11, 12, 13, 14, 15, 16, 2, 3, 4, 5] rfl rfl
      obtain ⟨z4, hg, hf⟩ := tc_bi hf
      refine tc_iV (As := [.int (z3.1)]) (rest := []) (b := qC 0) (wc := w11 ca qC (rC3) (rC4) (rC6) (rC7) (.ref (qP0 0)) (rC11) (rC12) (rC14) (rC15) (rC17) (.ref (qU 0)) (rC19) SC) (wr := w6 ca qP0 (.ref (qT0 0)) (rP01) SP0 ++ w7 ca qT0 z3.2.2 ++ w3 ca qU (.ref (qT0 0)) z3.2.1) X hP hD hS (mX11_answer hg) okX11_answer wl_X11_182 wi_X11_answer ws_X11_X11_answer_X11_answer ⟨rfl, rfl, Nat.le_of_ble_eq_true rfl, Nat.le_of_ble_eq_true rfl⟩ 11 0 rfl rfl [0] [1, 2, 3, 4, 5, 6, 7, 8, 9, 10, 11, 12, 13, 14, 15, 16] ⟨rfl, rfl, rfl, rfl, by decide⟩ rfl hl.1 (Nat.le_of_ble_eq_true rfl) dX11_quarrels_39 (fun H locs hP hD hS => ?_)
      have hP := hP.sub (ws' := (w11 ca qC (rC3) (rC4) (rC6) (rC7) (.ref (qP0 0)) (rC11) (rC12) (rC14) (rC15) (rC17) (.ref (qU 0)) (rC19) z4.2 ++ w6 ca qP0 (.ref (qT0 0)) (rP01) SP0 ++ w7 ca qT0 z3.2.2 ++ w3 ca qU (.ref (qT0 0)) z3.2.1)) [16, 0, 1, 2, 3, 4, 5, 6, 7, 8, 9, 10, 11, 12, 13, 14, 15] rfl
      have hD := hD.sub (ws' := (w11 ca qC (rC3) (rC4) (rC6) (rC7) (.ref (qP0 0)) (rC11) (rC12) (rC14) (rC15) (rC17) (.ref (qU 0)) (rC19) z4.2 ++ w6 ca qP0 (.ref (qT0 0)) (rP01) SP0 ++ w7 ca qT0 z3.2.2 ++ w3 ca qU (.ref (qT0 0)) z3.2.1)) [16, 0, 1, 2, 3, 4, 5, 6, 7, 8, 9, 10, 11, 12, 13, 14, 15] rfl rfl
      obtain rfl := Option.some.inj hf
      exact tc_rix X hP hD hS rfl dX11_quarrels_42 (fun _ => .ref (qT0 0)) rfl rfl
    · have hf := tc_neg hc hf
      exact tX11_quarrels_10 X z SP0 SC ST0 SU hf _ _ _ hP hD hS (lv_sub hl [0] rfl)
def fX11_spread_30  (SP0 : ms_T)  (SC : ms_T) (ST0 : ms_T) (SU : ms_T) : Option (Int32 × ms_T × ms_T × ms_T) :=
  (fX11_refuse SC (5 : Int32)).bind fun z2 =>
  some (z2.1, z2.2, ST0, SU)
def fX11_spread  (SC : ms_T) (SP0 : ms_T) (ST0 : ms_T) (SU : ms_T) (a1 : Int32) (a2 : Int32) : Option (Int32 × ms_T × ms_T × ms_T) :=
  (fX7_isTalker ST0 a2).bind fun z1 =>
  if z1 = 0 then
    (fX11_refuse SC (2 : Int32)).bind fun z7 =>
    some (z7.1, z7.2, ST0, SU)
  else
    if a1 < (1 : Int32) then
      fX11_spread_30 SP0 SC ST0 SU
    else
      if a1 ≤ (4 : Int32) then
        (fX3_begin SU ST0).bind fun z3 =>
        (fX3_fewestOn z3 ST0 a1).bind fun z4 =>
        if inb a2 6 = true then
          (fX11_answer SC (ia z4.2.1 3 a2)).bind fun z6 =>
          some (z6.1, z6.2, z4.2.2, z4.2.1)
        else none
      else
        fX11_spread_30 SP0 SC ST0 SU
abbrev rmX11_spread : Room := { frames := 11, cells := 0, slots := 0, locals := 269 }
theorem okX11_spread : tc_ok yX11_spread cX11_spread 3 (some .int) 2 := ⟨wc_X11_spread, wn_X11, by decide, by decide, by decide +kernel⟩
set_option maxRecDepth 20000 in
theorem tX11_spread_30 {qC : Nat → Nat} {qP0 : Nat → Nat} {qT0 : Nat → Nat} {qU : Nat → Nat} {rC3 : Value} {rC4 : Value} {rC6 : Value} {rC7 : Value} {rC11 : Value} {rC12 : Value} {rC14 : Value} {rC15 : Value} {rC17 : Value} {rC19 : Value} {rP01 : Value} {rU0 : Value} (X : tc_X dC dI ca A RX11 cX11_spread 3 (some .int) p s m args meth c) (z : Int32 × ms_T × ms_T × ms_T)  (SP0 : ms_T)   : ∀ (SC : ms_T) (ST0 : ms_T) (SU : ms_T), fX11_spread_30 SP0 SC ST0 SU = some z → ∀ (H : Heap) (locs : List Loc) (ls : Array Slot), va_P (dC, dI) classes (w11 ca qC (rC3) (rC4) (rC6) (rC7) (.ref (qP0 0)) (rC11) (rC12) (rC14) (rC15) (rC17) (.ref (qU 0)) (rC19) SC ++ w6 ca qP0 (.ref (qT0 0)) (rP01) SP0 ++ w7 ca qT0 ST0 ++ w3 ca qU (rU0) SU) H → va_D A (w11 ca qC (rC3) (rC4) (rC6) (rC7) (.ref (qP0 0)) (rC11) (rC12) (rC14) (rC15) (rC17) (.ref (qU 0)) (rC19) SC ++ w6 ca qP0 (.ref (qT0 0)) (rP01) SP0 ++ w7 ca qT0 ST0 ++ w3 ca qU (rU0) SU) → va_S A s.heap H locs → lv_has ls 3 [(0, .ref (qC 0))] → W p l e rmX11_spread s m args below meth c H locs 0 0 (MQ below (tc_QIx dC dI ca A (fun u => (w11 ca qC (rC3) (rC4) (rC6) (rC7) (.ref (qP0 0)) (rC11) (rC12) (rC14) (rC15) (rC17) (.ref (qU 0)) (rC19) z.2.1 ++ w6 ca qP0 (.ref (qT0 0)) (rP01) SP0 ++ w7 ca qT0 z.2.2.1 ++ w3 ca qU (u 0) z.2.2.2)) (z.1)) args s 0 0 A) (F0 m 30 ls []) := by
  obtain ⟨hx, hb, hr, hml, hown, hts, hlk, hK, hA, hG⟩ := id X
  intro SC ST0 SU hf H locs ls hP hD hS hl
  unfold fX11_spread_30 at hf
  refine lv_aload_n hx hb dX11_spread_30 rfl (lv_at hl 0 rfl) ?_
  refine lv_iconst (v := (5 : Int32)) hx hb dX11_spread_31 (by decide) ?_
  obtain ⟨z2, hg, hf⟩ := tc_bi hf
  refine tc_iV (As := [.int ((5 : Int32))]) (rest := []) (b := qC 0) (wc := w11 ca qC (rC3) (rC4) (rC6) (rC7) (.ref (qP0 0)) (rC11) (rC12) (rC14) (rC15) (rC17) (.ref (qU 0)) (rC19) SC) (wr := w6 ca qP0 (.ref (qT0 0)) (rP01) SP0 ++ w7 ca qT0 ST0 ++ w3 ca qU (rU0) SU) X hP hD hS (mX11_refuse hg) okX11_refuse wl_X11_121 wi_X11_refuse ws_X11_X11_refuse_X11_refuse ⟨rfl, rfl, Nat.le_of_ble_eq_true rfl, Nat.le_of_ble_eq_true rfl⟩ 11 0 rfl rfl [0] [1, 2, 3, 4, 5, 6, 7, 8, 9, 10, 11, 12, 13, 14, 15, 16] ⟨rfl, rfl, rfl, rfl, by decide⟩ rfl hl.1 (Nat.le_of_ble_eq_true rfl) dX11_spread_32 (fun H locs hP hD hS => ?_)
  have hP := hP.sub (ws' := (w11 ca qC (rC3) (rC4) (rC6) (rC7) (.ref (qP0 0)) (rC11) (rC12) (rC14) (rC15) (rC17) (.ref (qU 0)) (rC19) z2.2 ++ w6 ca qP0 (.ref (qT0 0)) (rP01) SP0 ++ w7 ca qT0 ST0 ++ w3 ca qU (rU0) SU)) [16, 0, 1, 2, 3, 4, 5, 6, 7, 8, 9, 10, 11, 12, 13, 14, 15] rfl
  have hD := hD.sub (ws' := (w11 ca qC (rC3) (rC4) (rC6) (rC7) (.ref (qP0 0)) (rC11) (rC12) (rC14) (rC15) (rC17) (.ref (qU 0)) (rC19) z2.2 ++ w6 ca qP0 (.ref (qT0 0)) (rP01) SP0 ++ w7 ca qT0 ST0 ++ w3 ca qU (rU0) SU)) [16, 0, 1, 2, 3, 4, 5, 6, 7, 8, 9, 10, 11, 12, 13, 14, 15] rfl rfl
  obtain rfl := Option.some.inj hf
  exact tc_rix X hP hD hS rfl dX11_spread_35 (fun _ => rU0) rfl rfl
set_option maxRecDepth 20000 in
theorem mX11_spread {qC : Nat → Nat} {qP0 : Nat → Nat} {qT0 : Nat → Nat} {qU : Nat → Nat} {rC3 : Value} {rC4 : Value} {rC6 : Value} {rC7 : Value} {rC11 : Value} {rC12 : Value} {rC14 : Value} {rC15 : Value} {rC17 : Value} {rC19 : Value} {rP01 : Value} {rU0 : Value} {SC : ms_T} {SP0 : ms_T} {ST0 : ms_T} {SU : ms_T} {a1 : Int32} {a2 : Int32} {z : Int32 × ms_T × ms_T × ms_T}  (hf : fX11_spread SC SP0 ST0 SU a1 a2 = some z) : tc_MIx l dC dI ca yX11_spread cX11_spread 3 (some .int) rmX11_spread [.ref (qC 0), .int (a1), .int (a2)] (w11 ca qC (rC3) (rC4) (rC6) (rC7) (.ref (qP0 0)) (rC11) (rC12) (rC14) (rC15) (rC17) (.ref (qU 0)) (rC19) SC ++ w6 ca qP0 (.ref (qT0 0)) (rP01) SP0 ++ w7 ca qT0 ST0 ++ w3 ca qU (rU0) SU) (fun u => (w11 ca qC (rC3) (rC4) (rC6) (rC7) (.ref (qP0 0)) (rC11) (rC12) (rC14) (rC15) (rC17) (.ref (qU 0)) (rC19) z.2.1 ++ w6 ca qP0 (.ref (qT0 0)) (rP01) SP0 ++ w7 ca qT0 z.2.2.1 ++ w3 ca qU (u 0) z.2.2.2)) (z.1) := by
  refine tc_metIx (own := RX11) (by decide) rfl ?_ (Nat.le_of_ble_eq_true rfl)
  intro p e s m below meth c A X hP hD hS ls hl
  obtain ⟨hx, hb, hr, hml, hown, hts, hlk, hK, hA, hG⟩ := id X
  unfold fX11_spread at hf
  have hl : lv_has ls 3 [(0, .ref (qC 0)), (1, .int (a1)), (2, .int (a2))] := hl
  refine lv_aload_n hx hb dX11_spread_0 rfl (lv_at hl 0 rfl) ?_
  refine va_get (D := (dC, dI)) (ci := 11) (v := .ref (qP0 0)) (C := RX11) (T := TX11) (N := 20) hx hb hts i_X11 hown hK hP 0 rfl rfl 10 (by decide) (hts _ wf_X11_39) (fun _ h9 => h9) rfl dX11_spread_1 ?_
  refine va_get (D := (dC, dI)) (ci := 6) (v := .ref (qT0 0)) (C := RX6) (T := TX6) (N := 2) hx hb hts i_X6 hown hK hP 1 rfl rfl 0 (by decide) (hts _ wf_X11_152) (fun _ h9 => h9) rfl dX11_spread_4 ?_
  refine lv_iload_n hx hb dX11_spread_7 rfl (lv_at hl 2 rfl) ?_
  obtain ⟨z1, hg, hf⟩ := tc_bi hf
  refine tc_iV (As := [.int (a2)]) (rest := []) (b := qT0 0) (wc := w7 ca qT0 ST0) (wr := w11 ca qC (rC3) (rC4) (rC6) (rC7) (.ref (qP0 0)) (rC11) (rC12) (rC14) (rC15) (rC17) (.ref (qU 0)) (rC19) SC ++ w6 ca qP0 (.ref (qT0 0)) (rP01) SP0 ++ w3 ca qU (rU0) SU) X hP hD hS (mX7_isTalker hg) okX7_isTalker wl_X11_244 wi_X7_isTalker ws_X7_X7_isTalker_X7_isTalker ⟨rfl, rfl, Nat.le_of_ble_eq_true rfl, Nat.le_of_ble_eq_true rfl⟩ 7 0 rfl rfl [2, 3, 4, 5, 6, 7, 8, 9, 10, 11, 12] [0, 1, 13, 14, 15, 16] ⟨rfl, rfl, rfl, rfl, by decide⟩ rfl hl.1 (Nat.le_of_ble_eq_true rfl) dX11_spread_8 (fun H locs hP hD hS => ?_)
  have hP := hP.sub (ws' := (w11 ca qC (rC3) (rC4) (rC6) (rC7) (.ref (qP0 0)) (rC11) (rC12) (rC14) (rC15) (rC17) (.ref (qU 0)) (rC19) SC ++ w6 ca qP0 (.ref (qT0 0)) (rP01) SP0 ++ w7 ca qT0 ST0 ++ w3 ca qU (rU0) SU)) [0, 1, 6, 7, 8, 9, 10, 11, 12, 13, 14, 15, 16, 2, 3, 4, 5] rfl
  have hD := hD.sub (ws' := (w11 ca qC (rC3) (rC4) (rC6) (rC7) (.ref (qP0 0)) (rC11) (rC12) (rC14) (rC15) (rC17) (.ref (qU 0)) (rC19) SC ++ w6 ca qP0 (.ref (qT0 0)) (rP01) SP0 ++ w7 ca qT0 ST0 ++ w3 ca qU (rU0) SU)) [0, 1, 6, 7, 8, 9, 10, 11, 12, 13, 14, 15, 16, 2, 3, 4, 5] rfl rfl
  refine lv_if_ne (tgt := 20) hx hb dX11_spread_11 (by decide) (fun hc => ?_) (fun hc => ?_)
  · have hf := tc_neg hc hf
    refine lv_iload_n hx hb dX11_spread_20 rfl (lv_at hl 1 rfl) ?_
    refine lv_iconst (v := (1 : Int32)) hx hb dX11_spread_21 (by decide) ?_
    refine lv_icmp_lt (tgt := 30) hx hb dX11_spread_22 (by decide) (fun hc => ?_) (fun hc => ?_)
    · have hf := tc_pos hc hf
      exact tX11_spread_30 X z SP0 SC ST0 SU hf _ _ _ hP hD hS (lv_sub hl [0] rfl)
    · have hf := tc_neg hc hf
      refine lv_iload_n hx hb dX11_spread_25 rfl (lv_at hl 1 rfl) ?_
      refine lv_iconst (v := (4 : Int32)) hx hb dX11_spread_26 (by decide) ?_
      refine lv_icmp_le (tgt := 36) hx hb dX11_spread_27 (by decide) (fun hc => ?_) (fun hc => ?_)
      · have hf := tc_pos hc hf
        refine lv_aload_n hx hb dX11_spread_36 rfl (lv_at hl 0 rfl) ?_
        refine va_get (D := (dC, dI)) (ci := 11) (v := .ref (qU 0)) (C := RX11) (T := TX11) (N := 20) hx hb hts i_X11 hown hK hP 0 rfl rfl 18 (by decide) (hts _ wf_X11_70) (fun _ h9 => h9) rfl dX11_spread_37 ?_
        refine lv_aload_n hx hb dX11_spread_40 rfl (lv_at hl 0 rfl) ?_
        refine va_get (D := (dC, dI)) (ci := 11) (v := .ref (qP0 0)) (C := RX11) (T := TX11) (N := 20) hx hb hts i_X11 hown hK hP 0 rfl rfl 10 (by decide) (hts _ wf_X11_39) (fun _ h9 => h9) rfl dX11_spread_41 ?_
        refine va_get (D := (dC, dI)) (ci := 6) (v := .ref (qT0 0)) (C := RX6) (T := TX6) (N := 2) hx hb hts i_X6 hown hK hP 1 rfl rfl 0 (by decide) (hts _ wf_X11_152) (fun _ h9 => h9) rfl dX11_spread_44 ?_
        obtain ⟨z3, hg, hf⟩ := tc_bi hf
        refine tc_vV (As := [.ref (qT0 0)]) (rest := []) (b := qU 0) (wc := w3 ca qU (rU0) SU ++ w7 ca qT0 ST0) (wr := w11 ca qC (rC3) (rC4) (rC6) (rC7) (.ref (qP0 0)) (rC11) (rC12) (rC14) (rC15) (rC17) (.ref (qU 0)) (rC19) SC ++ w6 ca qP0 (.ref (qT0 0)) (rP01) SP0) X hP hD hS (mX3_begin hg) okX3_begin wl_X11_355 wi_X3_begin ws_X3_X3_begin_X3_begin ⟨rfl, rfl, Nat.le_of_ble_eq_true rfl, Nat.le_of_ble_eq_true rfl⟩ 3 0 rfl rfl [13, 14, 15, 16, 2, 3, 4, 5, 6, 7, 8, 9, 10, 11, 12] [0, 1] ⟨rfl, rfl, rfl, rfl, by decide⟩ rfl hl.1 (Nat.le_of_ble_eq_true rfl) dX11_spread_47 (fun H locs hP hD hS => ?_)
        have hP := hP.sub (ws' := (w11 ca qC (rC3) (rC4) (rC6) (rC7) (.ref (qP0 0)) (rC11) (rC12) (rC14) (rC15) (rC17) (.ref (qU 0)) (rC19) SC ++ w6 ca qP0 (.ref (qT0 0)) (rP01) SP0 ++ w7 ca qT0 ST0 ++ w3 ca qU (.ref (qT0 0)) z3)) [0, 1, 6, 7, 8, 9, 10, 11, 12, 13, 14, 15, 16, 2, 3, 4, 5] rfl
        have hD := hD.sub (ws' := (w11 ca qC (rC3) (rC4) (rC6) (rC7) (.ref (qP0 0)) (rC11) (rC12) (rC14) (rC15) (rC17) (.ref (qU 0)) (rC19) SC ++ w6 ca qP0 (.ref (qT0 0)) (rP01) SP0 ++ w7 ca qT0 ST0 ++ w3 ca qU (.ref (qT0 0)) z3)) [0, 1, 6, 7, 8, 9, 10, 11, 12, 13, 14, 15, 16, 2, 3, 4, 5] rfl rfl
        refine lv_aload_n hx hb dX11_spread_50 rfl (lv_at hl 0 rfl) ?_
        refine va_get (D := (dC, dI)) (ci := 11) (v := .ref (qU 0)) (C := RX11) (T := TX11) (N := 20) hx hb hts i_X11 hown hK hP 0 rfl rfl 18 (by decide) (hts _ wf_X11_70) (fun _ h9 => h9) rfl dX11_spread_51 ?_
        refine lv_iload_n hx hb dX11_spread_54 rfl (lv_at hl 1 rfl) ?_
        obtain ⟨z4, hg, hf⟩ := tc_bi hf
        refine tc_iV (As := [.int (a1)]) (rest := []) (b := qU 0) (wc := w3 ca qU (.ref (qT0 0)) z3 ++ w7 ca qT0 ST0) (wr := w11 ca qC (rC3) (rC4) (rC6) (rC7) (.ref (qP0 0)) (rC11) (rC12) (rC14) (rC15) (rC17) (.ref (qU 0)) (rC19) SC ++ w6 ca qP0 (.ref (qT0 0)) (rP01) SP0) X hP hD hS (mX3_fewestOn hg) okX3_fewestOn wl_X11_360 wi_X3_fewestOn ws_X3_X3_fewestOn_X3_fewestOn ⟨rfl, rfl, Nat.le_of_ble_eq_true rfl, Nat.le_of_ble_eq_true rfl⟩ 3 0 rfl rfl [13, 14, 15, 16, 2, 3, 4, 5, 6, 7, 8, 9, 10, 11, 12] [0, 1] ⟨rfl, rfl, rfl, rfl, by decide⟩ rfl hl.1 (Nat.le_of_ble_eq_true rfl) dX11_spread_55 (fun H locs hP hD hS => ?_)
        have hP := hP.sub (ws' := (w11 ca qC (rC3) (rC4) (rC6) (rC7) (.ref (qP0 0)) (rC11) (rC12) (rC14) (rC15) (rC17) (.ref (qU 0)) (rC19) SC ++ w6 ca qP0 (.ref (qT0 0)) (rP01) SP0 ++ w7 ca qT0 z4.2.2 ++ w3 ca qU (.ref (qT0 0)) z4.2.1)) [0, 1, 6, 7, 8, 9, 10, 11, 12, 13, 14, 15, 16, 2, 3, 4, 5] rfl
        have hD := hD.sub (ws' := (w11 ca qC (rC3) (rC4) (rC6) (rC7) (.ref (qP0 0)) (rC11) (rC12) (rC14) (rC15) (rC17) (.ref (qU 0)) (rC19) SC ++ w6 ca qP0 (.ref (qT0 0)) (rP01) SP0 ++ w7 ca qT0 z4.2.2 ++ w3 ca qU (.ref (qT0 0)) z4.2.1)) [0, 1, 6, 7, 8, 9, 10, 11, 12, 13, 14, 15, 16, 2, 3, 4, 5] rfl rfl
        refine lv_pop hx hb dX11_spread_58 rfl ?_
        refine lv_aload_n hx hb dX11_spread_59 rfl (lv_at hl 0 rfl) ?_
        refine lv_aload_n hx hb dX11_spread_60 rfl (lv_at hl 0 rfl) ?_
        refine va_get (D := (dC, dI)) (ci := 11) (v := .ref (qU 0)) (C := RX11) (T := TX11) (N := 20) hx hb hts i_X11 hown hK hP 0 rfl rfl 18 (by decide) (hts _ wf_X11_70) (fun _ h9 => h9) rfl dX11_spread_61 ?_
        refine va_get (D := (dC, dI)) (ci := 3) (v := .ref (qU 3)) (C := RX3) (T := TX3) (N := 6) hx hb hts i_X3 hown hK hP 13 rfl rfl 5 (by decide) (hts _ wf_X11_363) (fun _ h9 => h9) rfl dX11_spread_64 ?_
        refine lv_iload_n hx hb dX11_spread_67 rfl (lv_at hl 2 rfl) ?_
        obtain ⟨hi5, hf⟩ := tc_in hf
        refine va_iald hx hb hK hP 16 1 rfl rfl hi5 dX11_spread_68 ?_
        obtain ⟨z6, hg, hf⟩ := tc_bi hf
        refine tc_iV (As := [.int (ia z4.2.1 3 a2)]) (rest := []) (b := qC 0) (wc := w11 ca qC (rC3) (rC4) (rC6) (rC7) (.ref (qP0 0)) (rC11) (rC12) (rC14) (rC15) (rC17) (.ref (qU 0)) (rC19) SC) (wr := w6 ca qP0 (.ref (qT0 0)) (rP01) SP0 ++ w7 ca qT0 z4.2.2 ++ w3 ca qU (.ref (qT0 0)) z4.2.1) X hP hD hS (mX11_answer hg) okX11_answer wl_X11_182 wi_X11_answer ws_X11_X11_answer_X11_answer ⟨rfl, rfl, Nat.le_of_ble_eq_true rfl, Nat.le_of_ble_eq_true rfl⟩ 11 0 rfl rfl [0] [1, 2, 3, 4, 5, 6, 7, 8, 9, 10, 11, 12, 13, 14, 15, 16] ⟨rfl, rfl, rfl, rfl, by decide⟩ rfl hl.1 (Nat.le_of_ble_eq_true rfl) dX11_spread_69 (fun H locs hP hD hS => ?_)
        have hP := hP.sub (ws' := (w11 ca qC (rC3) (rC4) (rC6) (rC7) (.ref (qP0 0)) (rC11) (rC12) (rC14) (rC15) (rC17) (.ref (qU 0)) (rC19) z6.2 ++ w6 ca qP0 (.ref (qT0 0)) (rP01) SP0 ++ w7 ca qT0 z4.2.2 ++ w3 ca qU (.ref (qT0 0)) z4.2.1)) [16, 0, 1, 2, 3, 4, 5, 6, 7, 8, 9, 10, 11, 12, 13, 14, 15] rfl
        have hD := hD.sub (ws' := (w11 ca qC (rC3) (rC4) (rC6) (rC7) (.ref (qP0 0)) (rC11) (rC12) (rC14) (rC15) (rC17) (.ref (qU 0)) (rC19) z6.2 ++ w6 ca qP0 (.ref (qT0 0)) (rP01) SP0 ++ w7 ca qT0 z4.2.2 ++ w3 ca qU (.ref (qT0 0)) z4.2.1)) [16, 0, 1, 2, 3, 4, 5, 6, 7, 8, 9, 10, 11, 12, 13, 14, 15] rfl rfl
        obtain rfl := Option.some.inj hf
        exact tc_rix X hP hD hS rfl dX11_spread_72 (fun _ => .ref (qT0 0)) rfl rfl
      · have hf := tc_neg hc hf
        exact tX11_spread_30 X z SP0 SC ST0 SU hf _ _ _ hP hD hS (lv_sub hl [0] rfl)
  · have hf := tc_pos hc hf
    refine lv_aload_n hx hb dX11_spread_14 rfl (lv_at hl 0 rfl) ?_
    refine lv_iconst (v := (2 : Int32)) hx hb dX11_spread_15 (by decide) ?_
    obtain ⟨z7, hg, hf⟩ := tc_bi hf
    refine tc_iV (As := [.int ((2 : Int32))]) (rest := []) (b := qC 0) (wc := w11 ca qC (rC3) (rC4) (rC6) (rC7) (.ref (qP0 0)) (rC11) (rC12) (rC14) (rC15) (rC17) (.ref (qU 0)) (rC19) SC) (wr := w6 ca qP0 (.ref (qT0 0)) (rP01) SP0 ++ w7 ca qT0 ST0 ++ w3 ca qU (rU0) SU) X hP hD hS (mX11_refuse hg) okX11_refuse wl_X11_121 wi_X11_refuse ws_X11_X11_refuse_X11_refuse ⟨rfl, rfl, Nat.le_of_ble_eq_true rfl, Nat.le_of_ble_eq_true rfl⟩ 11 0 rfl rfl [0] [1, 2, 3, 4, 5, 6, 7, 8, 9, 10, 11, 12, 13, 14, 15, 16] ⟨rfl, rfl, rfl, rfl, by decide⟩ rfl hl.1 (Nat.le_of_ble_eq_true rfl) dX11_spread_16 (fun H locs hP hD hS => ?_)
    have hP := hP.sub (ws' := (w11 ca qC (rC3) (rC4) (rC6) (rC7) (.ref (qP0 0)) (rC11) (rC12) (rC14) (rC15) (rC17) (.ref (qU 0)) (rC19) z7.2 ++ w6 ca qP0 (.ref (qT0 0)) (rP01) SP0 ++ w7 ca qT0 ST0 ++ w3 ca qU (rU0) SU)) [16, 0, 1, 2, 3, 4, 5, 6, 7, 8, 9, 10, 11, 12, 13, 14, 15] rfl
    have hD := hD.sub (ws' := (w11 ca qC (rC3) (rC4) (rC6) (rC7) (.ref (qP0 0)) (rC11) (rC12) (rC14) (rC15) (rC17) (.ref (qU 0)) (rC19) z7.2 ++ w6 ca qP0 (.ref (qT0 0)) (rP01) SP0 ++ w7 ca qT0 ST0 ++ w3 ca qU (rU0) SU)) [16, 0, 1, 2, 3, 4, 5, 6, 7, 8, 9, 10, 11, 12, 13, 14, 15] rfl rfl
    obtain rfl := Option.some.inj hf
    exact tc_rix X hP hD hS rfl dX11_spread_19 (fun _ => rU0) rfl rfl
def fX11_seating  (SC : ms_T) (SP0 : ms_T) (ST0 : ms_T) (SU : ms_T)  : Option (Int32 × ms_T × ms_T × ms_T) :=
  (fX3_begin SU ST0).bind fun z1 =>
  (fX3_fewestBeside z1 ST0).bind fun z2 =>
  (fX11_answer SC z2.1).bind fun z3 =>
  some (z3.1, z3.2, z2.2.2, z2.2.1)
abbrev rmX11_seating : Room := { frames := 11, cells := 0, slots := 0, locals := 268 }
theorem okX11_seating : tc_ok yX11_seating cX11_seating 1 (some .int) 0 := ⟨wc_X11_seating, wn_X11, by decide, by decide, by decide +kernel⟩
set_option maxRecDepth 20000 in
theorem mX11_seating {qC : Nat → Nat} {qP0 : Nat → Nat} {qT0 : Nat → Nat} {qU : Nat → Nat} {rC3 : Value} {rC4 : Value} {rC6 : Value} {rC7 : Value} {rC11 : Value} {rC12 : Value} {rC14 : Value} {rC15 : Value} {rC17 : Value} {rC19 : Value} {rP01 : Value} {rU0 : Value} {SC : ms_T} {SP0 : ms_T} {ST0 : ms_T} {SU : ms_T}  {z : Int32 × ms_T × ms_T × ms_T}  (hf : fX11_seating SC SP0 ST0 SU = some z) : tc_MI l dC dI ca yX11_seating cX11_seating 1 (some .int) rmX11_seating [.ref (qC 0)] (w11 ca qC (rC3) (rC4) (rC6) (rC7) (.ref (qP0 0)) (rC11) (rC12) (rC14) (rC15) (rC17) (.ref (qU 0)) (rC19) SC ++ w6 ca qP0 (.ref (qT0 0)) (rP01) SP0 ++ w7 ca qT0 ST0 ++ w3 ca qU (rU0) SU) (w11 ca qC (rC3) (rC4) (rC6) (rC7) (.ref (qP0 0)) (rC11) (rC12) (rC14) (rC15) (rC17) (.ref (qU 0)) (rC19) z.2.1 ++ w6 ca qP0 (.ref (qT0 0)) (rP01) SP0 ++ w7 ca qT0 z.2.2.1 ++ w3 ca qU (.ref (qT0 0)) z.2.2.2) (z.1) := by
  refine tc_metI (own := RX11) (by decide) rfl ?_ (Nat.le_of_ble_eq_true rfl)
  intro p e s m below meth c A X hP hD hS ls hl
  obtain ⟨hx, hb, hr, hml, hown, hts, hlk, hK, hA, hG⟩ := id X
  unfold fX11_seating at hf
  have hl : lv_has ls 1 [(0, .ref (qC 0))] := hl
  refine lv_aload_n hx hb dX11_seating_0 rfl (lv_at hl 0 rfl) ?_
  refine va_get (D := (dC, dI)) (ci := 11) (v := .ref (qU 0)) (C := RX11) (T := TX11) (N := 20) hx hb hts i_X11 hown hK hP 0 rfl rfl 18 (by decide) (hts _ wf_X11_70) (fun _ h9 => h9) rfl dX11_seating_1 ?_
  refine lv_aload_n hx hb dX11_seating_4 rfl (lv_at hl 0 rfl) ?_
  refine va_get (D := (dC, dI)) (ci := 11) (v := .ref (qP0 0)) (C := RX11) (T := TX11) (N := 20) hx hb hts i_X11 hown hK hP 0 rfl rfl 10 (by decide) (hts _ wf_X11_39) (fun _ h9 => h9) rfl dX11_seating_5 ?_
  refine va_get (D := (dC, dI)) (ci := 6) (v := .ref (qT0 0)) (C := RX6) (T := TX6) (N := 2) hx hb hts i_X6 hown hK hP 1 rfl rfl 0 (by decide) (hts _ wf_X11_152) (fun _ h9 => h9) rfl dX11_seating_8 ?_
  obtain ⟨z1, hg, hf⟩ := tc_bi hf
  refine tc_vV (As := [.ref (qT0 0)]) (rest := []) (b := qU 0) (wc := w3 ca qU (rU0) SU ++ w7 ca qT0 ST0) (wr := w11 ca qC (rC3) (rC4) (rC6) (rC7) (.ref (qP0 0)) (rC11) (rC12) (rC14) (rC15) (rC17) (.ref (qU 0)) (rC19) SC ++ w6 ca qP0 (.ref (qT0 0)) (rP01) SP0) X hP hD hS (mX3_begin hg) okX3_begin wl_X11_355 wi_X3_begin ws_X3_X3_begin_X3_begin ⟨rfl, rfl, Nat.le_of_ble_eq_true rfl, Nat.le_of_ble_eq_true rfl⟩ 3 0 rfl rfl [13, 14, 15, 16, 2, 3, 4, 5, 6, 7, 8, 9, 10, 11, 12] [0, 1] ⟨rfl, rfl, rfl, rfl, by decide⟩ rfl hl.1 (Nat.le_of_ble_eq_true rfl) dX11_seating_11 (fun H locs hP hD hS => ?_)
  have hP := hP.sub (ws' := (w11 ca qC (rC3) (rC4) (rC6) (rC7) (.ref (qP0 0)) (rC11) (rC12) (rC14) (rC15) (rC17) (.ref (qU 0)) (rC19) SC ++ w6 ca qP0 (.ref (qT0 0)) (rP01) SP0 ++ w7 ca qT0 ST0 ++ w3 ca qU (.ref (qT0 0)) z1)) [0, 1, 6, 7, 8, 9, 10, 11, 12, 13, 14, 15, 16, 2, 3, 4, 5] rfl
  have hD := hD.sub (ws' := (w11 ca qC (rC3) (rC4) (rC6) (rC7) (.ref (qP0 0)) (rC11) (rC12) (rC14) (rC15) (rC17) (.ref (qU 0)) (rC19) SC ++ w6 ca qP0 (.ref (qT0 0)) (rP01) SP0 ++ w7 ca qT0 ST0 ++ w3 ca qU (.ref (qT0 0)) z1)) [0, 1, 6, 7, 8, 9, 10, 11, 12, 13, 14, 15, 16, 2, 3, 4, 5] rfl rfl
  refine lv_aload_n hx hb dX11_seating_14 rfl (lv_at hl 0 rfl) ?_
  refine lv_aload_n hx hb dX11_seating_15 rfl (lv_at hl 0 rfl) ?_
  refine va_get (D := (dC, dI)) (ci := 11) (v := .ref (qU 0)) (C := RX11) (T := TX11) (N := 20) hx hb hts i_X11 hown hK hP 0 rfl rfl 18 (by decide) (hts _ wf_X11_70) (fun _ h9 => h9) rfl dX11_seating_16 ?_
  obtain ⟨z2, hg, hf⟩ := tc_bi hf
  refine tc_iV (As := []) (rest := [.ref (qC 0)]) (b := qU 0) (wc := w3 ca qU (.ref (qT0 0)) z1 ++ w7 ca qT0 ST0) (wr := w11 ca qC (rC3) (rC4) (rC6) (rC7) (.ref (qP0 0)) (rC11) (rC12) (rC14) (rC15) (rC17) (.ref (qU 0)) (rC19) SC ++ w6 ca qP0 (.ref (qT0 0)) (rP01) SP0) X hP hD hS (mX3_fewestBeside hg) okX3_fewestBeside wl_X11_366 wi_X3_fewestBeside ws_X3_X3_fewestBeside_X3_fewestBeside ⟨rfl, rfl, Nat.le_of_ble_eq_true rfl, Nat.le_of_ble_eq_true rfl⟩ 3 0 rfl rfl [13, 14, 15, 16, 2, 3, 4, 5, 6, 7, 8, 9, 10, 11, 12] [0, 1] ⟨rfl, rfl, rfl, rfl, by decide⟩ rfl hl.1 (Nat.le_of_ble_eq_true rfl) dX11_seating_19 (fun H locs hP hD hS => ?_)
  have hP := hP.sub (ws' := (w11 ca qC (rC3) (rC4) (rC6) (rC7) (.ref (qP0 0)) (rC11) (rC12) (rC14) (rC15) (rC17) (.ref (qU 0)) (rC19) SC ++ w6 ca qP0 (.ref (qT0 0)) (rP01) SP0 ++ w7 ca qT0 z2.2.2 ++ w3 ca qU (.ref (qT0 0)) z2.2.1)) [0, 1, 6, 7, 8, 9, 10, 11, 12, 13, 14, 15, 16, 2, 3, 4, 5] rfl
  have hD := hD.sub (ws' := (w11 ca qC (rC3) (rC4) (rC6) (rC7) (.ref (qP0 0)) (rC11) (rC12) (rC14) (rC15) (rC17) (.ref (qU 0)) (rC19) SC ++ w6 ca qP0 (.ref (qT0 0)) (rP01) SP0 ++ w7 ca qT0 z2.2.2 ++ w3 ca qU (.ref (qT0 0)) z2.2.1)) [0, 1, 6, 7, 8, 9, 10, 11, 12, 13, 14, 15, 16, 2, 3, 4, 5] rfl rfl
  obtain ⟨z3, hg, hf⟩ := tc_bi hf
  refine tc_iV (As := [.int (z2.1)]) (rest := []) (b := qC 0) (wc := w11 ca qC (rC3) (rC4) (rC6) (rC7) (.ref (qP0 0)) (rC11) (rC12) (rC14) (rC15) (rC17) (.ref (qU 0)) (rC19) SC) (wr := w6 ca qP0 (.ref (qT0 0)) (rP01) SP0 ++ w7 ca qT0 z2.2.2 ++ w3 ca qU (.ref (qT0 0)) z2.2.1) X hP hD hS (mX11_answer hg) okX11_answer wl_X11_182 wi_X11_answer ws_X11_X11_answer_X11_answer ⟨rfl, rfl, Nat.le_of_ble_eq_true rfl, Nat.le_of_ble_eq_true rfl⟩ 11 0 rfl rfl [0] [1, 2, 3, 4, 5, 6, 7, 8, 9, 10, 11, 12, 13, 14, 15, 16] ⟨rfl, rfl, rfl, rfl, by decide⟩ rfl hl.1 (Nat.le_of_ble_eq_true rfl) dX11_seating_22 (fun H locs hP hD hS => ?_)
  have hP := hP.sub (ws' := (w11 ca qC (rC3) (rC4) (rC6) (rC7) (.ref (qP0 0)) (rC11) (rC12) (rC14) (rC15) (rC17) (.ref (qU 0)) (rC19) z3.2 ++ w6 ca qP0 (.ref (qT0 0)) (rP01) SP0 ++ w7 ca qT0 z2.2.2 ++ w3 ca qU (.ref (qT0 0)) z2.2.1)) [16, 0, 1, 2, 3, 4, 5, 6, 7, 8, 9, 10, 11, 12, 13, 14, 15] rfl
  have hD := hD.sub (ws' := (w11 ca qC (rC3) (rC4) (rC6) (rC7) (.ref (qP0 0)) (rC11) (rC12) (rC14) (rC15) (rC17) (.ref (qU 0)) (rC19) z3.2 ++ w6 ca qP0 (.ref (qT0 0)) (rP01) SP0 ++ w7 ca qT0 z2.2.2 ++ w3 ca qU (.ref (qT0 0)) z2.2.1)) [16, 0, 1, 2, 3, 4, 5, 6, 7, 8, 9, 10, 11, 12, 13, 14, 15] rfl rfl
  obtain rfl := Option.some.inj hf
  exact tc_ri X hP hD hS rfl dX11_seating_25 rfl rfl
def fX11_seatOf  (SC : ms_T) (SP0 : ms_T) (ST0 : ms_T) (SU : ms_T) (a1 : Int32) : Option (Int32 × ms_T × ms_T × ms_T) :=
  (fX7_isTalker ST0 a1).bind fun z1 =>
  if z1 = 0 then
    (fX11_refuse SC (2 : Int32)).bind fun z6 =>
    some (z6.1, z6.2, ST0, SU)
  else
    (fX3_begin SU ST0).bind fun z2 =>
    (fX3_fewestBeside z2 ST0).bind fun z3 =>
    if inb a1 6 = true then
      (fX11_answer SC (ia z3.2.1 3 a1)).bind fun z5 =>
      some (z5.1, z5.2, z3.2.2, z3.2.1)
    else none
abbrev rmX11_seatOf : Room := { frames := 11, cells := 0, slots := 0, locals := 268 }
theorem okX11_seatOf : tc_ok yX11_seatOf cX11_seatOf 2 (some .int) 1 := ⟨wc_X11_seatOf, wn_X11, by decide, by decide, by decide +kernel⟩
set_option maxRecDepth 20000 in
theorem mX11_seatOf {qC : Nat → Nat} {qP0 : Nat → Nat} {qT0 : Nat → Nat} {qU : Nat → Nat} {rC3 : Value} {rC4 : Value} {rC6 : Value} {rC7 : Value} {rC11 : Value} {rC12 : Value} {rC14 : Value} {rC15 : Value} {rC17 : Value} {rC19 : Value} {rP01 : Value} {rU0 : Value} {SC : ms_T} {SP0 : ms_T} {ST0 : ms_T} {SU : ms_T} {a1 : Int32} {z : Int32 × ms_T × ms_T × ms_T}  (hf : fX11_seatOf SC SP0 ST0 SU a1 = some z) : tc_MIx l dC dI ca yX11_seatOf cX11_seatOf 2 (some .int) rmX11_seatOf [.ref (qC 0), .int (a1)] (w11 ca qC (rC3) (rC4) (rC6) (rC7) (.ref (qP0 0)) (rC11) (rC12) (rC14) (rC15) (rC17) (.ref (qU 0)) (rC19) SC ++ w6 ca qP0 (.ref (qT0 0)) (rP01) SP0 ++ w7 ca qT0 ST0 ++ w3 ca qU (rU0) SU) (fun u => (w11 ca qC (rC3) (rC4) (rC6) (rC7) (.ref (qP0 0)) (rC11) (rC12) (rC14) (rC15) (rC17) (.ref (qU 0)) (rC19) z.2.1 ++ w6 ca qP0 (.ref (qT0 0)) (rP01) SP0 ++ w7 ca qT0 z.2.2.1 ++ w3 ca qU (u 0) z.2.2.2)) (z.1) := by
  refine tc_metIx (own := RX11) (by decide) rfl ?_ (Nat.le_of_ble_eq_true rfl)
  intro p e s m below meth c A X hP hD hS ls hl
  obtain ⟨hx, hb, hr, hml, hown, hts, hlk, hK, hA, hG⟩ := id X
  unfold fX11_seatOf at hf
  have hl : lv_has ls 2 [(0, .ref (qC 0)), (1, .int (a1))] := hl
  refine lv_aload_n hx hb dX11_seatOf_0 rfl (lv_at hl 0 rfl) ?_
  refine va_get (D := (dC, dI)) (ci := 11) (v := .ref (qP0 0)) (C := RX11) (T := TX11) (N := 20) hx hb hts i_X11 hown hK hP 0 rfl rfl 10 (by decide) (hts _ wf_X11_39) (fun _ h9 => h9) rfl dX11_seatOf_1 ?_
  refine va_get (D := (dC, dI)) (ci := 6) (v := .ref (qT0 0)) (C := RX6) (T := TX6) (N := 2) hx hb hts i_X6 hown hK hP 1 rfl rfl 0 (by decide) (hts _ wf_X11_152) (fun _ h9 => h9) rfl dX11_seatOf_4 ?_
  refine lv_iload_n hx hb dX11_seatOf_7 rfl (lv_at hl 1 rfl) ?_
  obtain ⟨z1, hg, hf⟩ := tc_bi hf
  refine tc_iV (As := [.int (a1)]) (rest := []) (b := qT0 0) (wc := w7 ca qT0 ST0) (wr := w11 ca qC (rC3) (rC4) (rC6) (rC7) (.ref (qP0 0)) (rC11) (rC12) (rC14) (rC15) (rC17) (.ref (qU 0)) (rC19) SC ++ w6 ca qP0 (.ref (qT0 0)) (rP01) SP0 ++ w3 ca qU (rU0) SU) X hP hD hS (mX7_isTalker hg) okX7_isTalker wl_X11_244 wi_X7_isTalker ws_X7_X7_isTalker_X7_isTalker ⟨rfl, rfl, Nat.le_of_ble_eq_true rfl, Nat.le_of_ble_eq_true rfl⟩ 7 0 rfl rfl [2, 3, 4, 5, 6, 7, 8, 9, 10, 11, 12] [0, 1, 13, 14, 15, 16] ⟨rfl, rfl, rfl, rfl, by decide⟩ rfl hl.1 (Nat.le_of_ble_eq_true rfl) dX11_seatOf_8 (fun H locs hP hD hS => ?_)
  have hP := hP.sub (ws' := (w11 ca qC (rC3) (rC4) (rC6) (rC7) (.ref (qP0 0)) (rC11) (rC12) (rC14) (rC15) (rC17) (.ref (qU 0)) (rC19) SC ++ w6 ca qP0 (.ref (qT0 0)) (rP01) SP0 ++ w7 ca qT0 ST0 ++ w3 ca qU (rU0) SU)) [0, 1, 6, 7, 8, 9, 10, 11, 12, 13, 14, 15, 16, 2, 3, 4, 5] rfl
  have hD := hD.sub (ws' := (w11 ca qC (rC3) (rC4) (rC6) (rC7) (.ref (qP0 0)) (rC11) (rC12) (rC14) (rC15) (rC17) (.ref (qU 0)) (rC19) SC ++ w6 ca qP0 (.ref (qT0 0)) (rP01) SP0 ++ w7 ca qT0 ST0 ++ w3 ca qU (rU0) SU)) [0, 1, 6, 7, 8, 9, 10, 11, 12, 13, 14, 15, 16, 2, 3, 4, 5] rfl rfl
  refine lv_if_ne (tgt := 20) hx hb dX11_seatOf_11 (by decide) (fun hc => ?_) (fun hc => ?_)
  · have hf := tc_neg hc hf
    refine lv_aload_n hx hb dX11_seatOf_20 rfl (lv_at hl 0 rfl) ?_
    refine va_get (D := (dC, dI)) (ci := 11) (v := .ref (qU 0)) (C := RX11) (T := TX11) (N := 20) hx hb hts i_X11 hown hK hP 0 rfl rfl 18 (by decide) (hts _ wf_X11_70) (fun _ h9 => h9) rfl dX11_seatOf_21 ?_
    refine lv_aload_n hx hb dX11_seatOf_24 rfl (lv_at hl 0 rfl) ?_
    refine va_get (D := (dC, dI)) (ci := 11) (v := .ref (qP0 0)) (C := RX11) (T := TX11) (N := 20) hx hb hts i_X11 hown hK hP 0 rfl rfl 10 (by decide) (hts _ wf_X11_39) (fun _ h9 => h9) rfl dX11_seatOf_25 ?_
    refine va_get (D := (dC, dI)) (ci := 6) (v := .ref (qT0 0)) (C := RX6) (T := TX6) (N := 2) hx hb hts i_X6 hown hK hP 1 rfl rfl 0 (by decide) (hts _ wf_X11_152) (fun _ h9 => h9) rfl dX11_seatOf_28 ?_
    obtain ⟨z2, hg, hf⟩ := tc_bi hf
    refine tc_vV (As := [.ref (qT0 0)]) (rest := []) (b := qU 0) (wc := w3 ca qU (rU0) SU ++ w7 ca qT0 ST0) (wr := w11 ca qC (rC3) (rC4) (rC6) (rC7) (.ref (qP0 0)) (rC11) (rC12) (rC14) (rC15) (rC17) (.ref (qU 0)) (rC19) SC ++ w6 ca qP0 (.ref (qT0 0)) (rP01) SP0) X hP hD hS (mX3_begin hg) okX3_begin wl_X11_355 wi_X3_begin ws_X3_X3_begin_X3_begin ⟨rfl, rfl, Nat.le_of_ble_eq_true rfl, Nat.le_of_ble_eq_true rfl⟩ 3 0 rfl rfl [13, 14, 15, 16, 2, 3, 4, 5, 6, 7, 8, 9, 10, 11, 12] [0, 1] ⟨rfl, rfl, rfl, rfl, by decide⟩ rfl hl.1 (Nat.le_of_ble_eq_true rfl) dX11_seatOf_31 (fun H locs hP hD hS => ?_)
    have hP := hP.sub (ws' := (w11 ca qC (rC3) (rC4) (rC6) (rC7) (.ref (qP0 0)) (rC11) (rC12) (rC14) (rC15) (rC17) (.ref (qU 0)) (rC19) SC ++ w6 ca qP0 (.ref (qT0 0)) (rP01) SP0 ++ w7 ca qT0 ST0 ++ w3 ca qU (.ref (qT0 0)) z2)) [0, 1, 6, 7, 8, 9, 10, 11, 12, 13, 14, 15, 16, 2, 3, 4, 5] rfl
    have hD := hD.sub (ws' := (w11 ca qC (rC3) (rC4) (rC6) (rC7) (.ref (qP0 0)) (rC11) (rC12) (rC14) (rC15) (rC17) (.ref (qU 0)) (rC19) SC ++ w6 ca qP0 (.ref (qT0 0)) (rP01) SP0 ++ w7 ca qT0 ST0 ++ w3 ca qU (.ref (qT0 0)) z2)) [0, 1, 6, 7, 8, 9, 10, 11, 12, 13, 14, 15, 16, 2, 3, 4, 5] rfl rfl
    refine lv_aload_n hx hb dX11_seatOf_34 rfl (lv_at hl 0 rfl) ?_
    refine va_get (D := (dC, dI)) (ci := 11) (v := .ref (qU 0)) (C := RX11) (T := TX11) (N := 20) hx hb hts i_X11 hown hK hP 0 rfl rfl 18 (by decide) (hts _ wf_X11_70) (fun _ h9 => h9) rfl dX11_seatOf_35 ?_
    obtain ⟨z3, hg, hf⟩ := tc_bi hf
    refine tc_iV (As := []) (rest := []) (b := qU 0) (wc := w3 ca qU (.ref (qT0 0)) z2 ++ w7 ca qT0 ST0) (wr := w11 ca qC (rC3) (rC4) (rC6) (rC7) (.ref (qP0 0)) (rC11) (rC12) (rC14) (rC15) (rC17) (.ref (qU 0)) (rC19) SC ++ w6 ca qP0 (.ref (qT0 0)) (rP01) SP0) X hP hD hS (mX3_fewestBeside hg) okX3_fewestBeside wl_X11_366 wi_X3_fewestBeside ws_X3_X3_fewestBeside_X3_fewestBeside ⟨rfl, rfl, Nat.le_of_ble_eq_true rfl, Nat.le_of_ble_eq_true rfl⟩ 3 0 rfl rfl [13, 14, 15, 16, 2, 3, 4, 5, 6, 7, 8, 9, 10, 11, 12] [0, 1] ⟨rfl, rfl, rfl, rfl, by decide⟩ rfl hl.1 (Nat.le_of_ble_eq_true rfl) dX11_seatOf_38 (fun H locs hP hD hS => ?_)
    have hP := hP.sub (ws' := (w11 ca qC (rC3) (rC4) (rC6) (rC7) (.ref (qP0 0)) (rC11) (rC12) (rC14) (rC15) (rC17) (.ref (qU 0)) (rC19) SC ++ w6 ca qP0 (.ref (qT0 0)) (rP01) SP0 ++ w7 ca qT0 z3.2.2 ++ w3 ca qU (.ref (qT0 0)) z3.2.1)) [0, 1, 6, 7, 8, 9, 10, 11, 12, 13, 14, 15, 16, 2, 3, 4, 5] rfl
    have hD := hD.sub (ws' := (w11 ca qC (rC3) (rC4) (rC6) (rC7) (.ref (qP0 0)) (rC11) (rC12) (rC14) (rC15) (rC17) (.ref (qU 0)) (rC19) SC ++ w6 ca qP0 (.ref (qT0 0)) (rP01) SP0 ++ w7 ca qT0 z3.2.2 ++ w3 ca qU (.ref (qT0 0)) z3.2.1)) [0, 1, 6, 7, 8, 9, 10, 11, 12, 13, 14, 15, 16, 2, 3, 4, 5] rfl rfl
    refine lv_pop hx hb dX11_seatOf_41 rfl ?_
    refine lv_aload_n hx hb dX11_seatOf_42 rfl (lv_at hl 0 rfl) ?_
    refine lv_aload_n hx hb dX11_seatOf_43 rfl (lv_at hl 0 rfl) ?_
    refine va_get (D := (dC, dI)) (ci := 11) (v := .ref (qU 0)) (C := RX11) (T := TX11) (N := 20) hx hb hts i_X11 hown hK hP 0 rfl rfl 18 (by decide) (hts _ wf_X11_70) (fun _ h9 => h9) rfl dX11_seatOf_44 ?_
    refine va_get (D := (dC, dI)) (ci := 3) (v := .ref (qU 3)) (C := RX3) (T := TX3) (N := 6) hx hb hts i_X3 hown hK hP 13 rfl rfl 5 (by decide) (hts _ wf_X11_363) (fun _ h9 => h9) rfl dX11_seatOf_47 ?_
    refine lv_iload_n hx hb dX11_seatOf_50 rfl (lv_at hl 1 rfl) ?_
    obtain ⟨hi4, hf⟩ := tc_in hf
    refine va_iald hx hb hK hP 16 1 rfl rfl hi4 dX11_seatOf_51 ?_
    obtain ⟨z5, hg, hf⟩ := tc_bi hf
    refine tc_iV (As := [.int (ia z3.2.1 3 a1)]) (rest := []) (b := qC 0) (wc := w11 ca qC (rC3) (rC4) (rC6) (rC7) (.ref (qP0 0)) (rC11) (rC12) (rC14) (rC15) (rC17) (.ref (qU 0)) (rC19) SC) (wr := w6 ca qP0 (.ref (qT0 0)) (rP01) SP0 ++ w7 ca qT0 z3.2.2 ++ w3 ca qU (.ref (qT0 0)) z3.2.1) X hP hD hS (mX11_answer hg) okX11_answer wl_X11_182 wi_X11_answer ws_X11_X11_answer_X11_answer ⟨rfl, rfl, Nat.le_of_ble_eq_true rfl, Nat.le_of_ble_eq_true rfl⟩ 11 0 rfl rfl [0] [1, 2, 3, 4, 5, 6, 7, 8, 9, 10, 11, 12, 13, 14, 15, 16] ⟨rfl, rfl, rfl, rfl, by decide⟩ rfl hl.1 (Nat.le_of_ble_eq_true rfl) dX11_seatOf_52 (fun H locs hP hD hS => ?_)
    have hP := hP.sub (ws' := (w11 ca qC (rC3) (rC4) (rC6) (rC7) (.ref (qP0 0)) (rC11) (rC12) (rC14) (rC15) (rC17) (.ref (qU 0)) (rC19) z5.2 ++ w6 ca qP0 (.ref (qT0 0)) (rP01) SP0 ++ w7 ca qT0 z3.2.2 ++ w3 ca qU (.ref (qT0 0)) z3.2.1)) [16, 0, 1, 2, 3, 4, 5, 6, 7, 8, 9, 10, 11, 12, 13, 14, 15] rfl
    have hD := hD.sub (ws' := (w11 ca qC (rC3) (rC4) (rC6) (rC7) (.ref (qP0 0)) (rC11) (rC12) (rC14) (rC15) (rC17) (.ref (qU 0)) (rC19) z5.2 ++ w6 ca qP0 (.ref (qT0 0)) (rP01) SP0 ++ w7 ca qT0 z3.2.2 ++ w3 ca qU (.ref (qT0 0)) z3.2.1)) [16, 0, 1, 2, 3, 4, 5, 6, 7, 8, 9, 10, 11, 12, 13, 14, 15] rfl rfl
    obtain rfl := Option.some.inj hf
    exact tc_rix X hP hD hS rfl dX11_seatOf_55 (fun _ => .ref (qT0 0)) rfl rfl
  · have hf := tc_pos hc hf
    refine lv_aload_n hx hb dX11_seatOf_14 rfl (lv_at hl 0 rfl) ?_
    refine lv_iconst (v := (2 : Int32)) hx hb dX11_seatOf_15 (by decide) ?_
    obtain ⟨z6, hg, hf⟩ := tc_bi hf
    refine tc_iV (As := [.int ((2 : Int32))]) (rest := []) (b := qC 0) (wc := w11 ca qC (rC3) (rC4) (rC6) (rC7) (.ref (qP0 0)) (rC11) (rC12) (rC14) (rC15) (rC17) (.ref (qU 0)) (rC19) SC) (wr := w6 ca qP0 (.ref (qT0 0)) (rP01) SP0 ++ w7 ca qT0 ST0 ++ w3 ca qU (rU0) SU) X hP hD hS (mX11_refuse hg) okX11_refuse wl_X11_121 wi_X11_refuse ws_X11_X11_refuse_X11_refuse ⟨rfl, rfl, Nat.le_of_ble_eq_true rfl, Nat.le_of_ble_eq_true rfl⟩ 11 0 rfl rfl [0] [1, 2, 3, 4, 5, 6, 7, 8, 9, 10, 11, 12, 13, 14, 15, 16] ⟨rfl, rfl, rfl, rfl, by decide⟩ rfl hl.1 (Nat.le_of_ble_eq_true rfl) dX11_seatOf_16 (fun H locs hP hD hS => ?_)
    have hP := hP.sub (ws' := (w11 ca qC (rC3) (rC4) (rC6) (rC7) (.ref (qP0 0)) (rC11) (rC12) (rC14) (rC15) (rC17) (.ref (qU 0)) (rC19) z6.2 ++ w6 ca qP0 (.ref (qT0 0)) (rP01) SP0 ++ w7 ca qT0 ST0 ++ w3 ca qU (rU0) SU)) [16, 0, 1, 2, 3, 4, 5, 6, 7, 8, 9, 10, 11, 12, 13, 14, 15] rfl
    have hD := hD.sub (ws' := (w11 ca qC (rC3) (rC4) (rC6) (rC7) (.ref (qP0 0)) (rC11) (rC12) (rC14) (rC15) (rC17) (.ref (qU 0)) (rC19) z6.2 ++ w6 ca qP0 (.ref (qT0 0)) (rP01) SP0 ++ w7 ca qT0 ST0 ++ w3 ca qU (rU0) SU)) [16, 0, 1, 2, 3, 4, 5, 6, 7, 8, 9, 10, 11, 12, 13, 14, 15] rfl rfl
    obtain rfl := Option.some.inj hf
    exact tc_rix X hP hD hS rfl dX11_seatOf_19 (fun _ => rU0) rfl rfl
def fX11_gameStatus  (SC : ms_T) (SP0 : ms_T) (ST0 : ms_T) (a1 : Int32) (a2 : Int32) (a3 : Int32) : Option (Int32) :=
  (fX7_isTalker ST0 a1).bind fun z1 =>
  if z1 = 0 then
    some ((2 : Int32))
  else
    (fX7_isTalker ST0 a2).bind fun z2 =>
    if z2 = 0 then
      some ((2 : Int32))
    else
      if a1 = a2 then
        some ((5 : Int32))
      else
        if a3 < 0 then
          some ((5 : Int32))
        else
          if a3 ≤ (4 : Int32) then
            some ((0 : Int32))
          else
            some ((5 : Int32))
abbrev rmX11_gameStatus : Room := { frames := 1, cells := 0, slots := 0, locals := 21 }
theorem okX11_gameStatus : tc_ok yX11_gameStatus cX11_gameStatus 4 (some .int) 3 := ⟨wc_X11_gameStatus, wn_X11, by decide, by decide, by decide +kernel⟩
set_option maxRecDepth 20000 in
theorem mX11_gameStatus {qC : Nat → Nat} {qP0 : Nat → Nat} {qT0 : Nat → Nat} {rC3 : Value} {rC4 : Value} {rC6 : Value} {rC7 : Value} {rC11 : Value} {rC12 : Value} {rC14 : Value} {rC15 : Value} {rC17 : Value} {rC18 : Value} {rC19 : Value} {rP01 : Value} {SC : ms_T} {SP0 : ms_T} {ST0 : ms_T} {a1 : Int32} {a2 : Int32} {a3 : Int32} {z : Int32}  (hf : fX11_gameStatus SC SP0 ST0 a1 a2 a3 = some z) : tc_MI l dC dI ca yX11_gameStatus cX11_gameStatus 4 (some .int) rmX11_gameStatus [.ref (qC 0), .int (a1), .int (a2), .int (a3)] (w11 ca qC (rC3) (rC4) (rC6) (rC7) (.ref (qP0 0)) (rC11) (rC12) (rC14) (rC15) (rC17) (rC18) (rC19) SC ++ w6 ca qP0 (.ref (qT0 0)) (rP01) SP0 ++ w7 ca qT0 ST0) (w11 ca qC (rC3) (rC4) (rC6) (rC7) (.ref (qP0 0)) (rC11) (rC12) (rC14) (rC15) (rC17) (rC18) (rC19) SC ++ w6 ca qP0 (.ref (qT0 0)) (rP01) SP0 ++ w7 ca qT0 ST0) (z) := by
  refine tc_metI (own := RX11) (by decide) rfl ?_ (Nat.le_of_ble_eq_true rfl)
  intro p e s m below meth c A X hP hD hS ls hl
  obtain ⟨hx, hb, hr, hml, hown, hts, hlk, hK, hA, hG⟩ := id X
  unfold fX11_gameStatus at hf
  have hl : lv_has ls 4 [(0, .ref (qC 0)), (1, .int (a1)), (2, .int (a2)), (3, .int (a3))] := hl
  refine lv_aload_n hx hb dX11_gameStatus_0 rfl (lv_at hl 0 rfl) ?_
  refine va_get (D := (dC, dI)) (ci := 11) (v := .ref (qP0 0)) (C := RX11) (T := TX11) (N := 20) hx hb hts i_X11 hown hK hP 0 rfl rfl 10 (by decide) (hts _ wf_X11_39) (fun _ h9 => h9) rfl dX11_gameStatus_1 ?_
  refine va_get (D := (dC, dI)) (ci := 6) (v := .ref (qT0 0)) (C := RX6) (T := TX6) (N := 2) hx hb hts i_X6 hown hK hP 1 rfl rfl 0 (by decide) (hts _ wf_X11_152) (fun _ h9 => h9) rfl dX11_gameStatus_4 ?_
  refine lv_iload_n hx hb dX11_gameStatus_7 rfl (lv_at hl 1 rfl) ?_
  obtain ⟨z1, hg, hf⟩ := tc_bi hf
  refine tc_iV (As := [.int (a1)]) (rest := []) (b := qT0 0) (wc := w7 ca qT0 ST0) (wr := w11 ca qC (rC3) (rC4) (rC6) (rC7) (.ref (qP0 0)) (rC11) (rC12) (rC14) (rC15) (rC17) (rC18) (rC19) SC ++ w6 ca qP0 (.ref (qT0 0)) (rP01) SP0) X hP hD hS (mX7_isTalker hg) okX7_isTalker wl_X11_244 wi_X7_isTalker ws_X7_X7_isTalker_X7_isTalker ⟨rfl, rfl, Nat.le_of_ble_eq_true rfl, Nat.le_of_ble_eq_true rfl⟩ 7 0 rfl rfl [2, 3, 4, 5, 6, 7, 8, 9, 10, 11, 12] [0, 1] ⟨rfl, rfl, rfl, rfl, by decide⟩ rfl hl.1 (Nat.le_of_ble_eq_true rfl) dX11_gameStatus_8 (fun H locs hP hD hS => ?_)
  have hP := hP.sub (ws' := (w11 ca qC (rC3) (rC4) (rC6) (rC7) (.ref (qP0 0)) (rC11) (rC12) (rC14) (rC15) (rC17) (rC18) (rC19) SC ++ w6 ca qP0 (.ref (qT0 0)) (rP01) SP0 ++ w7 ca qT0 ST0)) [0, 1, 2, 3, 4, 5, 6, 7, 8, 9, 10, 11, 12] rfl
  have hD := hD.sub (ws' := (w11 ca qC (rC3) (rC4) (rC6) (rC7) (.ref (qP0 0)) (rC11) (rC12) (rC14) (rC15) (rC17) (rC18) (rC19) SC ++ w6 ca qP0 (.ref (qT0 0)) (rP01) SP0 ++ w7 ca qT0 ST0)) [0, 1, 2, 3, 4, 5, 6, 7, 8, 9, 10, 11, 12] rfl rfl
  refine lv_if_eq (tgt := 28) hx hb dX11_gameStatus_11 (by decide) (fun hc => ?_) (fun hc => ?_)
  · have hf := tc_pos hc hf
    refine lv_iconst (v := (2 : Int32)) hx hb dX11_gameStatus_28 (by decide) ?_
    obtain rfl := Option.some.inj hf
    exact tc_ri X hP hD hS rfl dX11_gameStatus_29 rfl rfl
  · have hf := tc_neg hc hf
    refine lv_aload_n hx hb dX11_gameStatus_14 rfl (lv_at hl 0 rfl) ?_
    refine va_get (D := (dC, dI)) (ci := 11) (v := .ref (qP0 0)) (C := RX11) (T := TX11) (N := 20) hx hb hts i_X11 hown hK hP 0 rfl rfl 10 (by decide) (hts _ wf_X11_39) (fun _ h9 => h9) rfl dX11_gameStatus_15 ?_
    refine va_get (D := (dC, dI)) (ci := 6) (v := .ref (qT0 0)) (C := RX6) (T := TX6) (N := 2) hx hb hts i_X6 hown hK hP 1 rfl rfl 0 (by decide) (hts _ wf_X11_152) (fun _ h9 => h9) rfl dX11_gameStatus_18 ?_
    refine lv_iload_n hx hb dX11_gameStatus_21 rfl (lv_at hl 2 rfl) ?_
    obtain ⟨z2, hg, hf⟩ := tc_bi hf
    refine tc_iV (As := [.int (a2)]) (rest := []) (b := qT0 0) (wc := w7 ca qT0 ST0) (wr := w11 ca qC (rC3) (rC4) (rC6) (rC7) (.ref (qP0 0)) (rC11) (rC12) (rC14) (rC15) (rC17) (rC18) (rC19) SC ++ w6 ca qP0 (.ref (qT0 0)) (rP01) SP0) X hP hD hS (mX7_isTalker hg) okX7_isTalker wl_X11_244 wi_X7_isTalker ws_X7_X7_isTalker_X7_isTalker ⟨rfl, rfl, Nat.le_of_ble_eq_true rfl, Nat.le_of_ble_eq_true rfl⟩ 7 0 rfl rfl [2, 3, 4, 5, 6, 7, 8, 9, 10, 11, 12] [0, 1] ⟨rfl, rfl, rfl, rfl, by decide⟩ rfl hl.1 (Nat.le_of_ble_eq_true rfl) dX11_gameStatus_22 (fun H locs hP hD hS => ?_)
    have hP := hP.sub (ws' := (w11 ca qC (rC3) (rC4) (rC6) (rC7) (.ref (qP0 0)) (rC11) (rC12) (rC14) (rC15) (rC17) (rC18) (rC19) SC ++ w6 ca qP0 (.ref (qT0 0)) (rP01) SP0 ++ w7 ca qT0 ST0)) [0, 1, 2, 3, 4, 5, 6, 7, 8, 9, 10, 11, 12] rfl
    have hD := hD.sub (ws' := (w11 ca qC (rC3) (rC4) (rC6) (rC7) (.ref (qP0 0)) (rC11) (rC12) (rC14) (rC15) (rC17) (rC18) (rC19) SC ++ w6 ca qP0 (.ref (qT0 0)) (rP01) SP0 ++ w7 ca qT0 ST0)) [0, 1, 2, 3, 4, 5, 6, 7, 8, 9, 10, 11, 12] rfl rfl
    refine lv_if_ne (tgt := 30) hx hb dX11_gameStatus_25 (by decide) (fun hc => ?_) (fun hc => ?_)
    · have hf := tc_neg hc hf
      refine lv_iload_n hx hb dX11_gameStatus_30 rfl (lv_at hl 1 rfl) ?_
      refine lv_iload_n hx hb dX11_gameStatus_31 rfl (lv_at hl 2 rfl) ?_
      refine lv_icmp_eq (tgt := 44) hx hb dX11_gameStatus_32 (by decide) (fun hc => ?_) (fun hc => ?_)
      · have hf := tc_pos hc hf
        refine lv_iconst (v := (5 : Int32)) hx hb dX11_gameStatus_44 (by decide) ?_
        refine lv_goto (tgt := 49) hx hb dX11_gameStatus_45 (by decide) ?_
        obtain rfl := Option.some.inj hf
        exact tc_ri X hP hD hS rfl dX11_gameStatus_49 rfl rfl
      · have hf := tc_neg hc hf
        refine lv_iload_n hx hb dX11_gameStatus_35 rfl (lv_at hl 3 rfl) ?_
        refine lv_if_lt (tgt := 44) hx hb dX11_gameStatus_36 (by decide) (fun hc => ?_) (fun hc => ?_)
        · have hf := tc_pos hc hf
          refine lv_iconst (v := (5 : Int32)) hx hb dX11_gameStatus_44 (by decide) ?_
          refine lv_goto (tgt := 49) hx hb dX11_gameStatus_45 (by decide) ?_
          obtain rfl := Option.some.inj hf
          exact tc_ri X hP hD hS rfl dX11_gameStatus_49 rfl rfl
        · have hf := tc_neg hc hf
          refine lv_iload_n hx hb dX11_gameStatus_39 rfl (lv_at hl 3 rfl) ?_
          refine lv_iconst (v := (4 : Int32)) hx hb dX11_gameStatus_40 (by decide) ?_
          refine lv_icmp_le (tgt := 48) hx hb dX11_gameStatus_41 (by decide) (fun hc => ?_) (fun hc => ?_)
          · have hf := tc_pos hc hf
            refine lv_iconst (v := (0 : Int32)) hx hb dX11_gameStatus_48 (by decide) ?_
            obtain rfl := Option.some.inj hf
            exact tc_ri X hP hD hS rfl dX11_gameStatus_49 rfl rfl
          · have hf := tc_neg hc hf
            refine lv_iconst (v := (5 : Int32)) hx hb dX11_gameStatus_44 (by decide) ?_
            refine lv_goto (tgt := 49) hx hb dX11_gameStatus_45 (by decide) ?_
            obtain rfl := Option.some.inj hf
            exact tc_ri X hP hD hS rfl dX11_gameStatus_49 rfl rfl
    · have hf := tc_pos hc hf
      refine lv_iconst (v := (2 : Int32)) hx hb dX11_gameStatus_28 (by decide) ?_
      obtain rfl := Option.some.inj hf
      exact tc_ri X hP hD hS rfl dX11_gameStatus_29 rfl rfl
def fX11_game  (SC : ms_T) (SP0 : ms_T) (ST0 : ms_T) (SW : ms_T) (a1 : Int32) (a2 : Int32) (a3 : Int32) : Option (Int32 × ms_T × ms_T × ms_T) :=
  (fX11_gameStatus SC SP0 ST0 a1 a2 a3).bind fun z1 =>
  if z1 = 0 then
    (fX10_beginGame SW ST0).bind fun z2 =>
    (fX10_mostWorth z2 ST0 a1 ((a3 + (1 : Int32)) / (2 : Int32))).bind fun z3 =>
    (fX10_mostWorth z3.2.1 z3.2.2 a2 (a3 / (2 : Int32))).bind fun z4 =>
    (fX11_answer SC (z3.1 - z4.1)).bind fun z5 =>
    some (z5.1, z5.2, z4.2.2, z4.2.1)
  else
    (fX11_refuse SC z1).bind fun z6 =>
    some (z6.1, z6.2, ST0, SW)
abbrev rmX11_game : Room := { frames := 8, cells := 0, slots := 0, locals := 189 }
theorem okX11_game : tc_ok yX11_game cX11_game 6 (some .int) 3 := ⟨wc_X11_game, wn_X11, by decide, by decide, by decide +kernel⟩
set_option maxRecDepth 20000 in
theorem mX11_game {qC : Nat → Nat} {qP0 : Nat → Nat} {qT0 : Nat → Nat} {qW : Nat → Nat} {rC3 : Value} {rC4 : Value} {rC6 : Value} {rC7 : Value} {rC11 : Value} {rC12 : Value} {rC14 : Value} {rC15 : Value} {rC18 : Value} {rC19 : Value} {rP01 : Value} {rW0 : Value} {SC : ms_T} {SP0 : ms_T} {ST0 : ms_T} {SW : ms_T} {a1 : Int32} {a2 : Int32} {a3 : Int32} {z : Int32 × ms_T × ms_T × ms_T}  (hf : fX11_game SC SP0 ST0 SW a1 a2 a3 = some z) : tc_MIx l dC dI ca yX11_game cX11_game 6 (some .int) rmX11_game [.ref (qC 0), .int (a1), .int (a2), .int (a3)] (w11 ca qC (rC3) (rC4) (rC6) (rC7) (.ref (qP0 0)) (rC11) (rC12) (rC14) (rC15) (.ref (qW 0)) (rC18) (rC19) SC ++ w6 ca qP0 (.ref (qT0 0)) (rP01) SP0 ++ w7 ca qT0 ST0 ++ w10 ca qW (rW0) SW) (fun u => (w11 ca qC (rC3) (rC4) (rC6) (rC7) (.ref (qP0 0)) (rC11) (rC12) (rC14) (rC15) (.ref (qW 0)) (rC18) (rC19) z.2.1 ++ w6 ca qP0 (.ref (qT0 0)) (rP01) SP0 ++ w7 ca qT0 z.2.2.1 ++ w10 ca qW (u 0) z.2.2.2)) (z.1) := by
  refine tc_metIx (own := RX11) (by decide) rfl ?_ (Nat.le_of_ble_eq_true rfl)
  intro p e s m below meth c A X hP hD hS ls hl
  obtain ⟨hx, hb, hr, hml, hown, hts, hlk, hK, hA, hG⟩ := id X
  unfold fX11_game at hf
  have hl : lv_has ls 6 [(0, .ref (qC 0)), (1, .int (a1)), (2, .int (a2)), (3, .int (a3))] := hl
  refine lv_aload_n hx hb dX11_game_0 rfl (lv_at hl 0 rfl) ?_
  refine lv_iload_n hx hb dX11_game_1 rfl (lv_at hl 1 rfl) ?_
  refine lv_iload_n hx hb dX11_game_2 rfl (lv_at hl 2 rfl) ?_
  refine lv_iload_n hx hb dX11_game_3 rfl (lv_at hl 3 rfl) ?_
  obtain ⟨z1, hg, hf⟩ := tc_bi hf
  refine tc_iV (As := [.int (a1), .int (a2), .int (a3)]) (rest := []) (b := qC 0) (wc := w11 ca qC (rC3) (rC4) (rC6) (rC7) (.ref (qP0 0)) (rC11) (rC12) (rC14) (rC15) (.ref (qW 0)) (rC18) (rC19) SC ++ w6 ca qP0 (.ref (qT0 0)) (rP01) SP0 ++ w7 ca qT0 ST0) (wr := w10 ca qW (rW0) SW) X hP hD hS (mX11_gameStatus hg) okX11_gameStatus wl_X11_369 wi_X11_gameStatus ws_X11_X11_gameStatus_X11_gameStatus ⟨rfl, rfl, Nat.le_of_ble_eq_true rfl, Nat.le_of_ble_eq_true rfl⟩ 11 0 rfl rfl [0, 1, 2, 3, 4, 5, 6, 7, 8, 9, 10, 11, 12] [13, 14, 15] ⟨rfl, rfl, rfl, rfl, by decide⟩ rfl hl.1 (Nat.le_of_ble_eq_true rfl) dX11_game_4 (fun H locs hP hD hS => ?_)
  have hP := hP.sub (ws' := (w11 ca qC (rC3) (rC4) (rC6) (rC7) (.ref (qP0 0)) (rC11) (rC12) (rC14) (rC15) (.ref (qW 0)) (rC18) (rC19) SC ++ w6 ca qP0 (.ref (qT0 0)) (rP01) SP0 ++ w7 ca qT0 ST0 ++ w10 ca qW (rW0) SW)) [3, 4, 5, 6, 7, 8, 9, 10, 11, 12, 13, 14, 15, 0, 1, 2] rfl
  have hD := hD.sub (ws' := (w11 ca qC (rC3) (rC4) (rC6) (rC7) (.ref (qP0 0)) (rC11) (rC12) (rC14) (rC15) (.ref (qW 0)) (rC18) (rC19) SC ++ w6 ca qP0 (.ref (qT0 0)) (rP01) SP0 ++ w7 ca qT0 ST0 ++ w10 ca qW (rW0) SW)) [3, 4, 5, 6, 7, 8, 9, 10, 11, 12, 13, 14, 15, 0, 1, 2] rfl rfl
  refine lv_istore (lv' := [(4, .int (z1)), (0, .ref (qC 0)), (1, .int (a1)), (2, .int (a2)), (3, .int (a3))]) hx hb dX11_game_7 hl (by decide) rfl (fun ls hl => ?_)
  refine lv_iload hx hb dX11_game_9 (lv_at hl 0 rfl) ?_
  refine lv_if_eq (tgt := 21) hx hb dX11_game_11 (by decide) (fun hc => ?_) (fun hc => ?_)
  · have hf := tc_pos hc hf
    refine lv_aload_n hx hb dX11_game_21 rfl (lv_at hl 1 rfl) ?_
    refine va_get (D := (dC, dI)) (ci := 11) (v := .ref (qW 0)) (C := RX11) (T := TX11) (N := 20) hx hb hts i_X11 hown hK hP 0 rfl rfl 17 (by decide) (hts _ wf_X11_63) (fun _ h9 => h9) rfl dX11_game_22 ?_
    refine lv_aload_n hx hb dX11_game_25 rfl (lv_at hl 1 rfl) ?_
    refine va_get (D := (dC, dI)) (ci := 11) (v := .ref (qP0 0)) (C := RX11) (T := TX11) (N := 20) hx hb hts i_X11 hown hK hP 0 rfl rfl 10 (by decide) (hts _ wf_X11_39) (fun _ h9 => h9) rfl dX11_game_26 ?_
    refine va_get (D := (dC, dI)) (ci := 6) (v := .ref (qT0 0)) (C := RX6) (T := TX6) (N := 2) hx hb hts i_X6 hown hK hP 1 rfl rfl 0 (by decide) (hts _ wf_X11_152) (fun _ h9 => h9) rfl dX11_game_29 ?_
    obtain ⟨z2, hg, hf⟩ := tc_bi hf
    refine tc_vV (As := [.ref (qT0 0)]) (rest := []) (b := qW 0) (wc := w10 ca qW (rW0) SW ++ w7 ca qT0 ST0) (wr := w11 ca qC (rC3) (rC4) (rC6) (rC7) (.ref (qP0 0)) (rC11) (rC12) (rC14) (rC15) (.ref (qW 0)) (rC18) (rC19) SC ++ w6 ca qP0 (.ref (qT0 0)) (rP01) SP0) X hP hD hS (mX10_beginGame hg) okX10_beginGame wl_X11_372 wi_X10_beginGame ws_X10_X10_beginGame_X10_beginGame ⟨rfl, rfl, Nat.le_of_ble_eq_true rfl, Nat.le_of_ble_eq_true rfl⟩ 10 0 rfl rfl [13, 14, 15, 2, 3, 4, 5, 6, 7, 8, 9, 10, 11, 12] [0, 1] ⟨rfl, rfl, rfl, rfl, by decide⟩ rfl hl.1 (Nat.le_of_ble_eq_true rfl) dX11_game_32 (fun H locs hP hD hS => ?_)
    have hP := hP.sub (ws' := (w11 ca qC (rC3) (rC4) (rC6) (rC7) (.ref (qP0 0)) (rC11) (rC12) (rC14) (rC15) (.ref (qW 0)) (rC18) (rC19) SC ++ w6 ca qP0 (.ref (qT0 0)) (rP01) SP0 ++ w7 ca qT0 ST0 ++ w10 ca qW (.ref (qT0 0)) z2)) [0, 1, 5, 6, 7, 8, 9, 10, 11, 12, 13, 14, 15, 2, 3, 4] rfl
    have hD := hD.sub (ws' := (w11 ca qC (rC3) (rC4) (rC6) (rC7) (.ref (qP0 0)) (rC11) (rC12) (rC14) (rC15) (.ref (qW 0)) (rC18) (rC19) SC ++ w6 ca qP0 (.ref (qT0 0)) (rP01) SP0 ++ w7 ca qT0 ST0 ++ w10 ca qW (.ref (qT0 0)) z2)) [0, 1, 5, 6, 7, 8, 9, 10, 11, 12, 13, 14, 15, 2, 3, 4] rfl rfl
    refine lv_aload_n hx hb dX11_game_35 rfl (lv_at hl 1 rfl) ?_
    refine va_get (D := (dC, dI)) (ci := 11) (v := .ref (qW 0)) (C := RX11) (T := TX11) (N := 20) hx hb hts i_X11 hown hK hP 0 rfl rfl 17 (by decide) (hts _ wf_X11_63) (fun _ h9 => h9) rfl dX11_game_36 ?_
    refine lv_iload_n hx hb dX11_game_39 rfl (lv_at hl 2 rfl) ?_
    refine lv_iload_n hx hb dX11_game_40 rfl (lv_at hl 4 rfl) ?_
    refine lv_iconst (v := (1 : Int32)) hx hb dX11_game_41 (by decide) ?_
    refine lv_iadd hx hb dX11_game_42 ?_
    refine lv_iconst (v := (2 : Int32)) hx hb dX11_game_43 (by decide) ?_
    refine lv_idiv hx hb dX11_game_44 (by decide) ?_
    obtain ⟨z3, hg, hf⟩ := tc_bi hf
    refine tc_iV (As := [.int (a1), .int ((a3 + (1 : Int32)) / (2 : Int32))]) (rest := []) (b := qW 0) (wc := w10 ca qW (.ref (qT0 0)) z2 ++ w7 ca qT0 ST0) (wr := w11 ca qC (rC3) (rC4) (rC6) (rC7) (.ref (qP0 0)) (rC11) (rC12) (rC14) (rC15) (.ref (qW 0)) (rC18) (rC19) SC ++ w6 ca qP0 (.ref (qT0 0)) (rP01) SP0) X hP hD hS (mX10_mostWorth hg) okX10_mostWorth wl_X11_375 wi_X10_mostWorth ws_X10_X10_mostWorth_X10_mostWorth ⟨rfl, rfl, Nat.le_of_ble_eq_true rfl, Nat.le_of_ble_eq_true rfl⟩ 10 0 rfl rfl [13, 14, 15, 2, 3, 4, 5, 6, 7, 8, 9, 10, 11, 12] [0, 1] ⟨rfl, rfl, rfl, rfl, by decide⟩ rfl hl.1 (Nat.le_of_ble_eq_true rfl) dX11_game_45 (fun H locs hP hD hS => ?_)
    have hP := hP.sub (ws' := (w11 ca qC (rC3) (rC4) (rC6) (rC7) (.ref (qP0 0)) (rC11) (rC12) (rC14) (rC15) (.ref (qW 0)) (rC18) (rC19) SC ++ w6 ca qP0 (.ref (qT0 0)) (rP01) SP0 ++ w7 ca qT0 z3.2.2 ++ w10 ca qW (.ref (qT0 0)) z3.2.1)) [0, 1, 5, 6, 7, 8, 9, 10, 11, 12, 13, 14, 15, 2, 3, 4] rfl
    have hD := hD.sub (ws' := (w11 ca qC (rC3) (rC4) (rC6) (rC7) (.ref (qP0 0)) (rC11) (rC12) (rC14) (rC15) (.ref (qW 0)) (rC18) (rC19) SC ++ w6 ca qP0 (.ref (qT0 0)) (rP01) SP0 ++ w7 ca qT0 z3.2.2 ++ w10 ca qW (.ref (qT0 0)) z3.2.1)) [0, 1, 5, 6, 7, 8, 9, 10, 11, 12, 13, 14, 15, 2, 3, 4] rfl rfl
    refine lv_istore (lv' := [(5, .int (z3.1)), (4, .int (z1)), (0, .ref (qC 0)), (1, .int (a1)), (2, .int (a2)), (3, .int (a3))]) hx hb dX11_game_48 hl (by decide) rfl (fun ls hl => ?_)
    refine lv_aload_n hx hb dX11_game_50 rfl (lv_at hl 2 rfl) ?_
    refine lv_iload hx hb dX11_game_51 (lv_at hl 0 rfl) ?_
    refine lv_aload_n hx hb dX11_game_53 rfl (lv_at hl 2 rfl) ?_
    refine va_get (D := (dC, dI)) (ci := 11) (v := .ref (qW 0)) (C := RX11) (T := TX11) (N := 20) hx hb hts i_X11 hown hK hP 0 rfl rfl 17 (by decide) (hts _ wf_X11_63) (fun _ h9 => h9) rfl dX11_game_54 ?_
    refine lv_iload_n hx hb dX11_game_57 rfl (lv_at hl 4 rfl) ?_
    refine lv_iload_n hx hb dX11_game_58 rfl (lv_at hl 5 rfl) ?_
    refine lv_iconst (v := (2 : Int32)) hx hb dX11_game_59 (by decide) ?_
    refine lv_idiv hx hb dX11_game_60 (by decide) ?_
    obtain ⟨z4, hg, hf⟩ := tc_bi hf
    refine tc_iV (As := [.int (a2), .int (a3 / (2 : Int32))]) (rest := [.int (z3.1), .ref (qC 0)]) (b := qW 0) (wc := w10 ca qW (.ref (qT0 0)) z3.2.1 ++ w7 ca qT0 z3.2.2) (wr := w11 ca qC (rC3) (rC4) (rC6) (rC7) (.ref (qP0 0)) (rC11) (rC12) (rC14) (rC15) (.ref (qW 0)) (rC18) (rC19) SC ++ w6 ca qP0 (.ref (qT0 0)) (rP01) SP0) X hP hD hS (mX10_mostWorth hg) okX10_mostWorth wl_X11_375 wi_X10_mostWorth ws_X10_X10_mostWorth_X10_mostWorth ⟨rfl, rfl, Nat.le_of_ble_eq_true rfl, Nat.le_of_ble_eq_true rfl⟩ 10 0 rfl rfl [13, 14, 15, 2, 3, 4, 5, 6, 7, 8, 9, 10, 11, 12] [0, 1] ⟨rfl, rfl, rfl, rfl, by decide⟩ rfl hl.1 (Nat.le_of_ble_eq_true rfl) dX11_game_61 (fun H locs hP hD hS => ?_)
    have hP := hP.sub (ws' := (w11 ca qC (rC3) (rC4) (rC6) (rC7) (.ref (qP0 0)) (rC11) (rC12) (rC14) (rC15) (.ref (qW 0)) (rC18) (rC19) SC ++ w6 ca qP0 (.ref (qT0 0)) (rP01) SP0 ++ w7 ca qT0 z4.2.2 ++ w10 ca qW (.ref (qT0 0)) z4.2.1)) [0, 1, 5, 6, 7, 8, 9, 10, 11, 12, 13, 14, 15, 2, 3, 4] rfl
    have hD := hD.sub (ws' := (w11 ca qC (rC3) (rC4) (rC6) (rC7) (.ref (qP0 0)) (rC11) (rC12) (rC14) (rC15) (.ref (qW 0)) (rC18) (rC19) SC ++ w6 ca qP0 (.ref (qT0 0)) (rP01) SP0 ++ w7 ca qT0 z4.2.2 ++ w10 ca qW (.ref (qT0 0)) z4.2.1)) [0, 1, 5, 6, 7, 8, 9, 10, 11, 12, 13, 14, 15, 2, 3, 4] rfl rfl
    refine lv_isub hx hb dX11_game_64 ?_
    obtain ⟨z5, hg, hf⟩ := tc_bi hf
    refine tc_iV (As := [.int (z3.1 - z4.1)]) (rest := []) (b := qC 0) (wc := w11 ca qC (rC3) (rC4) (rC6) (rC7) (.ref (qP0 0)) (rC11) (rC12) (rC14) (rC15) (.ref (qW 0)) (rC18) (rC19) SC) (wr := w6 ca qP0 (.ref (qT0 0)) (rP01) SP0 ++ w7 ca qT0 z4.2.2 ++ w10 ca qW (.ref (qT0 0)) z4.2.1) X hP hD hS (mX11_answer hg) okX11_answer wl_X11_182 wi_X11_answer ws_X11_X11_answer_X11_answer ⟨rfl, rfl, Nat.le_of_ble_eq_true rfl, Nat.le_of_ble_eq_true rfl⟩ 11 0 rfl rfl [0] [1, 2, 3, 4, 5, 6, 7, 8, 9, 10, 11, 12, 13, 14, 15] ⟨rfl, rfl, rfl, rfl, by decide⟩ rfl hl.1 (Nat.le_of_ble_eq_true rfl) dX11_game_65 (fun H locs hP hD hS => ?_)
    have hP := hP.sub (ws' := (w11 ca qC (rC3) (rC4) (rC6) (rC7) (.ref (qP0 0)) (rC11) (rC12) (rC14) (rC15) (.ref (qW 0)) (rC18) (rC19) z5.2 ++ w6 ca qP0 (.ref (qT0 0)) (rP01) SP0 ++ w7 ca qT0 z4.2.2 ++ w10 ca qW (.ref (qT0 0)) z4.2.1)) [15, 0, 1, 2, 3, 4, 5, 6, 7, 8, 9, 10, 11, 12, 13, 14] rfl
    have hD := hD.sub (ws' := (w11 ca qC (rC3) (rC4) (rC6) (rC7) (.ref (qP0 0)) (rC11) (rC12) (rC14) (rC15) (.ref (qW 0)) (rC18) (rC19) z5.2 ++ w6 ca qP0 (.ref (qT0 0)) (rP01) SP0 ++ w7 ca qT0 z4.2.2 ++ w10 ca qW (.ref (qT0 0)) z4.2.1)) [15, 0, 1, 2, 3, 4, 5, 6, 7, 8, 9, 10, 11, 12, 13, 14] rfl rfl
    obtain rfl := Option.some.inj hf
    exact tc_rix X hP hD hS rfl dX11_game_68 (fun _ => .ref (qT0 0)) rfl rfl
  · have hf := tc_neg hc hf
    refine lv_aload_n hx hb dX11_game_14 rfl (lv_at hl 1 rfl) ?_
    refine lv_iload hx hb dX11_game_15 (lv_at hl 0 rfl) ?_
    obtain ⟨z6, hg, hf⟩ := tc_bi hf
    refine tc_iV (As := [.int (z1)]) (rest := []) (b := qC 0) (wc := w11 ca qC (rC3) (rC4) (rC6) (rC7) (.ref (qP0 0)) (rC11) (rC12) (rC14) (rC15) (.ref (qW 0)) (rC18) (rC19) SC) (wr := w6 ca qP0 (.ref (qT0 0)) (rP01) SP0 ++ w7 ca qT0 ST0 ++ w10 ca qW (rW0) SW) X hP hD hS (mX11_refuse hg) okX11_refuse wl_X11_121 wi_X11_refuse ws_X11_X11_refuse_X11_refuse ⟨rfl, rfl, Nat.le_of_ble_eq_true rfl, Nat.le_of_ble_eq_true rfl⟩ 11 0 rfl rfl [0] [1, 2, 3, 4, 5, 6, 7, 8, 9, 10, 11, 12, 13, 14, 15] ⟨rfl, rfl, rfl, rfl, by decide⟩ rfl hl.1 (Nat.le_of_ble_eq_true rfl) dX11_game_17 (fun H locs hP hD hS => ?_)
    have hP := hP.sub (ws' := (w11 ca qC (rC3) (rC4) (rC6) (rC7) (.ref (qP0 0)) (rC11) (rC12) (rC14) (rC15) (.ref (qW 0)) (rC18) (rC19) z6.2 ++ w6 ca qP0 (.ref (qT0 0)) (rP01) SP0 ++ w7 ca qT0 ST0 ++ w10 ca qW (rW0) SW)) [15, 0, 1, 2, 3, 4, 5, 6, 7, 8, 9, 10, 11, 12, 13, 14] rfl
    have hD := hD.sub (ws' := (w11 ca qC (rC3) (rC4) (rC6) (rC7) (.ref (qP0 0)) (rC11) (rC12) (rC14) (rC15) (.ref (qW 0)) (rC18) (rC19) z6.2 ++ w6 ca qP0 (.ref (qT0 0)) (rP01) SP0 ++ w7 ca qT0 ST0 ++ w10 ca qW (rW0) SW)) [15, 0, 1, 2, 3, 4, 5, 6, 7, 8, 9, 10, 11, 12, 13, 14] rfl rfl
    obtain rfl := Option.some.inj hf
    exact tc_rix X hP hD hS rfl dX11_game_20 (fun _ => rW0) rfl rfl
def fX11_moveOf  (SC : ms_T) (SP0 : ms_T) (ST0 : ms_T) (SW : ms_T) (a1 : Int32) (a2 : Int32) (a3 : Int32) : Option (Int32 × ms_T × ms_T × ms_T) :=
  (fX11_gameStatus SC SP0 ST0 a1 a2 a3).bind fun z1 =>
  if z1 = 0 then
    if a3 = 0 then
      (fX11_refuse SC (5 : Int32)).bind fun z6 =>
      some (z6.1, z6.2, ST0, SW)
    else
      (fX10_beginGame SW ST0).bind fun z2 =>
      (fX10_firstMove z2 ST0 a1 ((a3 + (1 : Int32)) / (2 : Int32))).bind fun z3 =>
      if z3.1 = (-1 : Int32) then
        (fX11_refuse SC (8 : Int32)).bind fun z5 =>
        some (z5.1, z5.2, z3.2.2, z3.2.1)
      else
        (fX11_answer SC z3.1).bind fun z4 =>
        some (z4.1, z4.2, z3.2.2, z3.2.1)
  else
    (fX11_refuse SC z1).bind fun z7 =>
    some (z7.1, z7.2, ST0, SW)
abbrev rmX11_moveOf : Room := { frames := 9, cells := 0, slots := 0, locals := 215 }
theorem okX11_moveOf : tc_ok yX11_moveOf cX11_moveOf 6 (some .int) 3 := ⟨wc_X11_moveOf, wn_X11, by decide, by decide, by decide +kernel⟩
set_option maxRecDepth 20000 in
theorem mX11_moveOf {qC : Nat → Nat} {qP0 : Nat → Nat} {qT0 : Nat → Nat} {qW : Nat → Nat} {rC3 : Value} {rC4 : Value} {rC6 : Value} {rC7 : Value} {rC11 : Value} {rC12 : Value} {rC14 : Value} {rC15 : Value} {rC18 : Value} {rC19 : Value} {rP01 : Value} {rW0 : Value} {SC : ms_T} {SP0 : ms_T} {ST0 : ms_T} {SW : ms_T} {a1 : Int32} {a2 : Int32} {a3 : Int32} {z : Int32 × ms_T × ms_T × ms_T}  (hf : fX11_moveOf SC SP0 ST0 SW a1 a2 a3 = some z) : tc_MIx l dC dI ca yX11_moveOf cX11_moveOf 6 (some .int) rmX11_moveOf [.ref (qC 0), .int (a1), .int (a2), .int (a3)] (w11 ca qC (rC3) (rC4) (rC6) (rC7) (.ref (qP0 0)) (rC11) (rC12) (rC14) (rC15) (.ref (qW 0)) (rC18) (rC19) SC ++ w6 ca qP0 (.ref (qT0 0)) (rP01) SP0 ++ w7 ca qT0 ST0 ++ w10 ca qW (rW0) SW) (fun u => (w11 ca qC (rC3) (rC4) (rC6) (rC7) (.ref (qP0 0)) (rC11) (rC12) (rC14) (rC15) (.ref (qW 0)) (rC18) (rC19) z.2.1 ++ w6 ca qP0 (.ref (qT0 0)) (rP01) SP0 ++ w7 ca qT0 z.2.2.1 ++ w10 ca qW (u 0) z.2.2.2)) (z.1) := by
  refine tc_metIx (own := RX11) (by decide) rfl ?_ (Nat.le_of_ble_eq_true rfl)
  intro p e s m below meth c A X hP hD hS ls hl
  obtain ⟨hx, hb, hr, hml, hown, hts, hlk, hK, hA, hG⟩ := id X
  unfold fX11_moveOf at hf
  have hl : lv_has ls 6 [(0, .ref (qC 0)), (1, .int (a1)), (2, .int (a2)), (3, .int (a3))] := hl
  refine lv_aload_n hx hb dX11_moveOf_0 rfl (lv_at hl 0 rfl) ?_
  refine lv_iload_n hx hb dX11_moveOf_1 rfl (lv_at hl 1 rfl) ?_
  refine lv_iload_n hx hb dX11_moveOf_2 rfl (lv_at hl 2 rfl) ?_
  refine lv_iload_n hx hb dX11_moveOf_3 rfl (lv_at hl 3 rfl) ?_
  obtain ⟨z1, hg, hf⟩ := tc_bi hf
  refine tc_iV (As := [.int (a1), .int (a2), .int (a3)]) (rest := []) (b := qC 0) (wc := w11 ca qC (rC3) (rC4) (rC6) (rC7) (.ref (qP0 0)) (rC11) (rC12) (rC14) (rC15) (.ref (qW 0)) (rC18) (rC19) SC ++ w6 ca qP0 (.ref (qT0 0)) (rP01) SP0 ++ w7 ca qT0 ST0) (wr := w10 ca qW (rW0) SW) X hP hD hS (mX11_gameStatus hg) okX11_gameStatus wl_X11_369 wi_X11_gameStatus ws_X11_X11_gameStatus_X11_gameStatus ⟨rfl, rfl, Nat.le_of_ble_eq_true rfl, Nat.le_of_ble_eq_true rfl⟩ 11 0 rfl rfl [0, 1, 2, 3, 4, 5, 6, 7, 8, 9, 10, 11, 12] [13, 14, 15] ⟨rfl, rfl, rfl, rfl, by decide⟩ rfl hl.1 (Nat.le_of_ble_eq_true rfl) dX11_moveOf_4 (fun H locs hP hD hS => ?_)
  have hP := hP.sub (ws' := (w11 ca qC (rC3) (rC4) (rC6) (rC7) (.ref (qP0 0)) (rC11) (rC12) (rC14) (rC15) (.ref (qW 0)) (rC18) (rC19) SC ++ w6 ca qP0 (.ref (qT0 0)) (rP01) SP0 ++ w7 ca qT0 ST0 ++ w10 ca qW (rW0) SW)) [3, 4, 5, 6, 7, 8, 9, 10, 11, 12, 13, 14, 15, 0, 1, 2] rfl
  have hD := hD.sub (ws' := (w11 ca qC (rC3) (rC4) (rC6) (rC7) (.ref (qP0 0)) (rC11) (rC12) (rC14) (rC15) (.ref (qW 0)) (rC18) (rC19) SC ++ w6 ca qP0 (.ref (qT0 0)) (rP01) SP0 ++ w7 ca qT0 ST0 ++ w10 ca qW (rW0) SW)) [3, 4, 5, 6, 7, 8, 9, 10, 11, 12, 13, 14, 15, 0, 1, 2] rfl rfl
  refine lv_istore (lv' := [(4, .int (z1)), (0, .ref (qC 0)), (1, .int (a1)), (2, .int (a2)), (3, .int (a3))]) hx hb dX11_moveOf_7 hl (by decide) rfl (fun ls hl => ?_)
  refine lv_iload hx hb dX11_moveOf_9 (lv_at hl 0 rfl) ?_
  refine lv_if_eq (tgt := 21) hx hb dX11_moveOf_11 (by decide) (fun hc => ?_) (fun hc => ?_)
  · have hf := tc_pos hc hf
    refine lv_iload_n hx hb dX11_moveOf_21 rfl (lv_at hl 4 rfl) ?_
    refine lv_if_ne (tgt := 31) hx hb dX11_moveOf_22 (by decide) (fun hc => ?_) (fun hc => ?_)
    · have hf := tc_neg hc hf
      refine lv_aload_n hx hb dX11_moveOf_31 rfl (lv_at hl 1 rfl) ?_
      refine va_get (D := (dC, dI)) (ci := 11) (v := .ref (qW 0)) (C := RX11) (T := TX11) (N := 20) hx hb hts i_X11 hown hK hP 0 rfl rfl 17 (by decide) (hts _ wf_X11_63) (fun _ h9 => h9) rfl dX11_moveOf_32 ?_
      refine lv_aload_n hx hb dX11_moveOf_35 rfl (lv_at hl 1 rfl) ?_
      refine va_get (D := (dC, dI)) (ci := 11) (v := .ref (qP0 0)) (C := RX11) (T := TX11) (N := 20) hx hb hts i_X11 hown hK hP 0 rfl rfl 10 (by decide) (hts _ wf_X11_39) (fun _ h9 => h9) rfl dX11_moveOf_36 ?_
      refine va_get (D := (dC, dI)) (ci := 6) (v := .ref (qT0 0)) (C := RX6) (T := TX6) (N := 2) hx hb hts i_X6 hown hK hP 1 rfl rfl 0 (by decide) (hts _ wf_X11_152) (fun _ h9 => h9) rfl dX11_moveOf_39 ?_
      obtain ⟨z2, hg, hf⟩ := tc_bi hf
      refine tc_vV (As := [.ref (qT0 0)]) (rest := []) (b := qW 0) (wc := w10 ca qW (rW0) SW ++ w7 ca qT0 ST0) (wr := w11 ca qC (rC3) (rC4) (rC6) (rC7) (.ref (qP0 0)) (rC11) (rC12) (rC14) (rC15) (.ref (qW 0)) (rC18) (rC19) SC ++ w6 ca qP0 (.ref (qT0 0)) (rP01) SP0) X hP hD hS (mX10_beginGame hg) okX10_beginGame wl_X11_372 wi_X10_beginGame ws_X10_X10_beginGame_X10_beginGame ⟨rfl, rfl, Nat.le_of_ble_eq_true rfl, Nat.le_of_ble_eq_true rfl⟩ 10 0 rfl rfl [13, 14, 15, 2, 3, 4, 5, 6, 7, 8, 9, 10, 11, 12] [0, 1] ⟨rfl, rfl, rfl, rfl, by decide⟩ rfl hl.1 (Nat.le_of_ble_eq_true rfl) dX11_moveOf_42 (fun H locs hP hD hS => ?_)
      have hP := hP.sub (ws' := (w11 ca qC (rC3) (rC4) (rC6) (rC7) (.ref (qP0 0)) (rC11) (rC12) (rC14) (rC15) (.ref (qW 0)) (rC18) (rC19) SC ++ w6 ca qP0 (.ref (qT0 0)) (rP01) SP0 ++ w7 ca qT0 ST0 ++ w10 ca qW (.ref (qT0 0)) z2)) [0, 1, 5, 6, 7, 8, 9, 10, 11, 12, 13, 14, 15, 2, 3, 4] rfl
      have hD := hD.sub (ws' := (w11 ca qC (rC3) (rC4) (rC6) (rC7) (.ref (qP0 0)) (rC11) (rC12) (rC14) (rC15) (.ref (qW 0)) (rC18) (rC19) SC ++ w6 ca qP0 (.ref (qT0 0)) (rP01) SP0 ++ w7 ca qT0 ST0 ++ w10 ca qW (.ref (qT0 0)) z2)) [0, 1, 5, 6, 7, 8, 9, 10, 11, 12, 13, 14, 15, 2, 3, 4] rfl rfl
      refine lv_aload_n hx hb dX11_moveOf_45 rfl (lv_at hl 1 rfl) ?_
      refine va_get (D := (dC, dI)) (ci := 11) (v := .ref (qW 0)) (C := RX11) (T := TX11) (N := 20) hx hb hts i_X11 hown hK hP 0 rfl rfl 17 (by decide) (hts _ wf_X11_63) (fun _ h9 => h9) rfl dX11_moveOf_46 ?_
      refine lv_iload_n hx hb dX11_moveOf_49 rfl (lv_at hl 2 rfl) ?_
      refine lv_iload_n hx hb dX11_moveOf_50 rfl (lv_at hl 4 rfl) ?_
      refine lv_iconst (v := (1 : Int32)) hx hb dX11_moveOf_51 (by decide) ?_
      refine lv_iadd hx hb dX11_moveOf_52 ?_
      refine lv_iconst (v := (2 : Int32)) hx hb dX11_moveOf_53 (by decide) ?_
      refine lv_idiv hx hb dX11_moveOf_54 (by decide) ?_
      obtain ⟨z3, hg, hf⟩ := tc_bi hf
      refine tc_iV (As := [.int (a1), .int ((a3 + (1 : Int32)) / (2 : Int32))]) (rest := []) (b := qW 0) (wc := w10 ca qW (.ref (qT0 0)) z2 ++ w7 ca qT0 ST0) (wr := w11 ca qC (rC3) (rC4) (rC6) (rC7) (.ref (qP0 0)) (rC11) (rC12) (rC14) (rC15) (.ref (qW 0)) (rC18) (rC19) SC ++ w6 ca qP0 (.ref (qT0 0)) (rP01) SP0) X hP hD hS (mX10_firstMove hg) okX10_firstMove wl_X11_378 wi_X10_firstMove ws_X10_X10_firstMove_X10_firstMove ⟨rfl, rfl, Nat.le_of_ble_eq_true rfl, Nat.le_of_ble_eq_true rfl⟩ 10 0 rfl rfl [13, 14, 15, 2, 3, 4, 5, 6, 7, 8, 9, 10, 11, 12] [0, 1] ⟨rfl, rfl, rfl, rfl, by decide⟩ rfl hl.1 (Nat.le_of_ble_eq_true rfl) dX11_moveOf_55 (fun H locs hP hD hS => ?_)
      have hP := hP.sub (ws' := (w11 ca qC (rC3) (rC4) (rC6) (rC7) (.ref (qP0 0)) (rC11) (rC12) (rC14) (rC15) (.ref (qW 0)) (rC18) (rC19) SC ++ w6 ca qP0 (.ref (qT0 0)) (rP01) SP0 ++ w7 ca qT0 z3.2.2 ++ w10 ca qW (.ref (qT0 0)) z3.2.1)) [0, 1, 5, 6, 7, 8, 9, 10, 11, 12, 13, 14, 15, 2, 3, 4] rfl
      have hD := hD.sub (ws' := (w11 ca qC (rC3) (rC4) (rC6) (rC7) (.ref (qP0 0)) (rC11) (rC12) (rC14) (rC15) (.ref (qW 0)) (rC18) (rC19) SC ++ w6 ca qP0 (.ref (qT0 0)) (rP01) SP0 ++ w7 ca qT0 z3.2.2 ++ w10 ca qW (.ref (qT0 0)) z3.2.1)) [0, 1, 5, 6, 7, 8, 9, 10, 11, 12, 13, 14, 15, 2, 3, 4] rfl rfl
      refine lv_istore (lv' := [(5, .int (z3.1)), (4, .int (z1)), (0, .ref (qC 0)), (1, .int (a1)), (2, .int (a2)), (3, .int (a3))]) hx hb dX11_moveOf_58 hl (by decide) rfl (fun ls hl => ?_)
      refine lv_iload hx hb dX11_moveOf_60 (lv_at hl 0 rfl) ?_
      refine lv_iconst (v := (-1 : Int32)) hx hb dX11_moveOf_62 (by decide) ?_
      refine lv_icmp_ne (tgt := 75) hx hb dX11_moveOf_63 (by decide) (fun hc => ?_) (fun hc => ?_)
      · have hf := tc_neg hc hf
        refine lv_aload_n hx hb dX11_moveOf_75 rfl (lv_at hl 2 rfl) ?_
        refine lv_iload hx hb dX11_moveOf_76 (lv_at hl 0 rfl) ?_
        obtain ⟨z4, hg, hf⟩ := tc_bi hf
        refine tc_iV (As := [.int (z3.1)]) (rest := []) (b := qC 0) (wc := w11 ca qC (rC3) (rC4) (rC6) (rC7) (.ref (qP0 0)) (rC11) (rC12) (rC14) (rC15) (.ref (qW 0)) (rC18) (rC19) SC) (wr := w6 ca qP0 (.ref (qT0 0)) (rP01) SP0 ++ w7 ca qT0 z3.2.2 ++ w10 ca qW (.ref (qT0 0)) z3.2.1) X hP hD hS (mX11_answer hg) okX11_answer wl_X11_182 wi_X11_answer ws_X11_X11_answer_X11_answer ⟨rfl, rfl, Nat.le_of_ble_eq_true rfl, Nat.le_of_ble_eq_true rfl⟩ 11 0 rfl rfl [0] [1, 2, 3, 4, 5, 6, 7, 8, 9, 10, 11, 12, 13, 14, 15] ⟨rfl, rfl, rfl, rfl, by decide⟩ rfl hl.1 (Nat.le_of_ble_eq_true rfl) dX11_moveOf_78 (fun H locs hP hD hS => ?_)
        have hP := hP.sub (ws' := (w11 ca qC (rC3) (rC4) (rC6) (rC7) (.ref (qP0 0)) (rC11) (rC12) (rC14) (rC15) (.ref (qW 0)) (rC18) (rC19) z4.2 ++ w6 ca qP0 (.ref (qT0 0)) (rP01) SP0 ++ w7 ca qT0 z3.2.2 ++ w10 ca qW (.ref (qT0 0)) z3.2.1)) [15, 0, 1, 2, 3, 4, 5, 6, 7, 8, 9, 10, 11, 12, 13, 14] rfl
        have hD := hD.sub (ws' := (w11 ca qC (rC3) (rC4) (rC6) (rC7) (.ref (qP0 0)) (rC11) (rC12) (rC14) (rC15) (.ref (qW 0)) (rC18) (rC19) z4.2 ++ w6 ca qP0 (.ref (qT0 0)) (rP01) SP0 ++ w7 ca qT0 z3.2.2 ++ w10 ca qW (.ref (qT0 0)) z3.2.1)) [15, 0, 1, 2, 3, 4, 5, 6, 7, 8, 9, 10, 11, 12, 13, 14] rfl rfl
        obtain rfl := Option.some.inj hf
        exact tc_rix X hP hD hS rfl dX11_moveOf_81 (fun _ => .ref (qT0 0)) rfl rfl
      · have hf := tc_pos hc hf
        refine lv_aload_n hx hb dX11_moveOf_66 rfl (lv_at hl 2 rfl) ?_
        refine lv_bipush (v := (8 : Int32)) hx hb dX11_moveOf_67 (by decide) ?_
        obtain ⟨z5, hg, hf⟩ := tc_bi hf
        refine tc_iV (As := [.int ((8 : Int32))]) (rest := []) (b := qC 0) (wc := w11 ca qC (rC3) (rC4) (rC6) (rC7) (.ref (qP0 0)) (rC11) (rC12) (rC14) (rC15) (.ref (qW 0)) (rC18) (rC19) SC) (wr := w6 ca qP0 (.ref (qT0 0)) (rP01) SP0 ++ w7 ca qT0 z3.2.2 ++ w10 ca qW (.ref (qT0 0)) z3.2.1) X hP hD hS (mX11_refuse hg) okX11_refuse wl_X11_121 wi_X11_refuse ws_X11_X11_refuse_X11_refuse ⟨rfl, rfl, Nat.le_of_ble_eq_true rfl, Nat.le_of_ble_eq_true rfl⟩ 11 0 rfl rfl [0] [1, 2, 3, 4, 5, 6, 7, 8, 9, 10, 11, 12, 13, 14, 15] ⟨rfl, rfl, rfl, rfl, by decide⟩ rfl hl.1 (Nat.le_of_ble_eq_true rfl) dX11_moveOf_69 (fun H locs hP hD hS => ?_)
        have hP := hP.sub (ws' := (w11 ca qC (rC3) (rC4) (rC6) (rC7) (.ref (qP0 0)) (rC11) (rC12) (rC14) (rC15) (.ref (qW 0)) (rC18) (rC19) z5.2 ++ w6 ca qP0 (.ref (qT0 0)) (rP01) SP0 ++ w7 ca qT0 z3.2.2 ++ w10 ca qW (.ref (qT0 0)) z3.2.1)) [15, 0, 1, 2, 3, 4, 5, 6, 7, 8, 9, 10, 11, 12, 13, 14] rfl
        have hD := hD.sub (ws' := (w11 ca qC (rC3) (rC4) (rC6) (rC7) (.ref (qP0 0)) (rC11) (rC12) (rC14) (rC15) (.ref (qW 0)) (rC18) (rC19) z5.2 ++ w6 ca qP0 (.ref (qT0 0)) (rP01) SP0 ++ w7 ca qT0 z3.2.2 ++ w10 ca qW (.ref (qT0 0)) z3.2.1)) [15, 0, 1, 2, 3, 4, 5, 6, 7, 8, 9, 10, 11, 12, 13, 14] rfl rfl
        refine lv_goto (tgt := 81) hx hb dX11_moveOf_72 (by decide) ?_
        obtain rfl := Option.some.inj hf
        exact tc_rix X hP hD hS rfl dX11_moveOf_81 (fun _ => .ref (qT0 0)) rfl rfl
    · have hf := tc_pos hc hf
      refine lv_aload_n hx hb dX11_moveOf_25 rfl (lv_at hl 1 rfl) ?_
      refine lv_iconst (v := (5 : Int32)) hx hb dX11_moveOf_26 (by decide) ?_
      obtain ⟨z6, hg, hf⟩ := tc_bi hf
      refine tc_iV (As := [.int ((5 : Int32))]) (rest := []) (b := qC 0) (wc := w11 ca qC (rC3) (rC4) (rC6) (rC7) (.ref (qP0 0)) (rC11) (rC12) (rC14) (rC15) (.ref (qW 0)) (rC18) (rC19) SC) (wr := w6 ca qP0 (.ref (qT0 0)) (rP01) SP0 ++ w7 ca qT0 ST0 ++ w10 ca qW (rW0) SW) X hP hD hS (mX11_refuse hg) okX11_refuse wl_X11_121 wi_X11_refuse ws_X11_X11_refuse_X11_refuse ⟨rfl, rfl, Nat.le_of_ble_eq_true rfl, Nat.le_of_ble_eq_true rfl⟩ 11 0 rfl rfl [0] [1, 2, 3, 4, 5, 6, 7, 8, 9, 10, 11, 12, 13, 14, 15] ⟨rfl, rfl, rfl, rfl, by decide⟩ rfl hl.1 (Nat.le_of_ble_eq_true rfl) dX11_moveOf_27 (fun H locs hP hD hS => ?_)
      have hP := hP.sub (ws' := (w11 ca qC (rC3) (rC4) (rC6) (rC7) (.ref (qP0 0)) (rC11) (rC12) (rC14) (rC15) (.ref (qW 0)) (rC18) (rC19) z6.2 ++ w6 ca qP0 (.ref (qT0 0)) (rP01) SP0 ++ w7 ca qT0 ST0 ++ w10 ca qW (rW0) SW)) [15, 0, 1, 2, 3, 4, 5, 6, 7, 8, 9, 10, 11, 12, 13, 14] rfl
      have hD := hD.sub (ws' := (w11 ca qC (rC3) (rC4) (rC6) (rC7) (.ref (qP0 0)) (rC11) (rC12) (rC14) (rC15) (.ref (qW 0)) (rC18) (rC19) z6.2 ++ w6 ca qP0 (.ref (qT0 0)) (rP01) SP0 ++ w7 ca qT0 ST0 ++ w10 ca qW (rW0) SW)) [15, 0, 1, 2, 3, 4, 5, 6, 7, 8, 9, 10, 11, 12, 13, 14] rfl rfl
      obtain rfl := Option.some.inj hf
      exact tc_rix X hP hD hS rfl dX11_moveOf_30 (fun _ => rW0) rfl rfl
  · have hf := tc_neg hc hf
    refine lv_aload_n hx hb dX11_moveOf_14 rfl (lv_at hl 1 rfl) ?_
    refine lv_iload hx hb dX11_moveOf_15 (lv_at hl 0 rfl) ?_
    obtain ⟨z7, hg, hf⟩ := tc_bi hf
    refine tc_iV (As := [.int (z1)]) (rest := []) (b := qC 0) (wc := w11 ca qC (rC3) (rC4) (rC6) (rC7) (.ref (qP0 0)) (rC11) (rC12) (rC14) (rC15) (.ref (qW 0)) (rC18) (rC19) SC) (wr := w6 ca qP0 (.ref (qT0 0)) (rP01) SP0 ++ w7 ca qT0 ST0 ++ w10 ca qW (rW0) SW) X hP hD hS (mX11_refuse hg) okX11_refuse wl_X11_121 wi_X11_refuse ws_X11_X11_refuse_X11_refuse ⟨rfl, rfl, Nat.le_of_ble_eq_true rfl, Nat.le_of_ble_eq_true rfl⟩ 11 0 rfl rfl [0] [1, 2, 3, 4, 5, 6, 7, 8, 9, 10, 11, 12, 13, 14, 15] ⟨rfl, rfl, rfl, rfl, by decide⟩ rfl hl.1 (Nat.le_of_ble_eq_true rfl) dX11_moveOf_17 (fun H locs hP hD hS => ?_)
    have hP := hP.sub (ws' := (w11 ca qC (rC3) (rC4) (rC6) (rC7) (.ref (qP0 0)) (rC11) (rC12) (rC14) (rC15) (.ref (qW 0)) (rC18) (rC19) z7.2 ++ w6 ca qP0 (.ref (qT0 0)) (rP01) SP0 ++ w7 ca qT0 ST0 ++ w10 ca qW (rW0) SW)) [15, 0, 1, 2, 3, 4, 5, 6, 7, 8, 9, 10, 11, 12, 13, 14] rfl
    have hD := hD.sub (ws' := (w11 ca qC (rC3) (rC4) (rC6) (rC7) (.ref (qP0 0)) (rC11) (rC12) (rC14) (rC15) (.ref (qW 0)) (rC18) (rC19) z7.2 ++ w6 ca qP0 (.ref (qT0 0)) (rP01) SP0 ++ w7 ca qT0 ST0 ++ w10 ca qW (rW0) SW)) [15, 0, 1, 2, 3, 4, 5, 6, 7, 8, 9, 10, 11, 12, 13, 14] rfl rfl
    obtain rfl := Option.some.inj hf
    exact tc_rix X hP hD hS rfl dX11_moveOf_20 (fun _ => rW0) rfl rfl
def fX11_chutes_10  (SP0 : ms_T) (ST0 : ms_T)  (SC : ms_T) (SK : ms_T) : Option (Int32 × ms_T × ms_T) :=
  (fX11_deny SC (5 : Int32)).bind fun z1 =>
  if z1.1 &&& 1 = z1.1 then
    some (z1.1, z1.2, SK)
  else none
def fX11_chutes  (SC : ms_T) (SP0 : ms_T) (ST0 : ms_T) (SK : ms_T) (a1 : Int32) : Option (Int32 × ms_T × ms_T) :=
  if a1 < 0 then
    fX11_chutes_10 SP0 ST0 SC SK
  else
    if a1 ≤ (6 : Int32) then
      (fX5_holding SK ST0 a1).bind fun z2 =>
      (fX11_tell SC z2.1 ((1 : Int64) <<< (((4 : Int32) * (gi ST0 8)).toInt64 &&& 63))).bind fun z3 =>
      if z3.1 &&& 1 = z3.1 then
        some (z3.1, z3.2, z2.2)
      else none
    else
      fX11_chutes_10 SP0 ST0 SC SK
abbrev rmX11_chutes : Room := { frames := 2, cells := 0, slots := 0, locals := 56 }
theorem okX11_chutes : tc_ok yX11_chutes cX11_chutes 2 (some .boolean) 1 := ⟨wc_X11_chutes, wn_X11, by decide, by decide, by decide +kernel⟩
set_option maxRecDepth 20000 in
theorem tX11_chutes_10 {qC : Nat → Nat} {qP0 : Nat → Nat} {qT0 : Nat → Nat} {qK : Nat → Nat} {rC3 : Value} {rC4 : Value} {rC6 : Value} {rC7 : Value} {rC11 : Value} {rC12 : Value} {rC14 : Value} {rC15 : Value} {rC17 : Value} {rC18 : Value} {rP01 : Value} (X : tc_X dC dI ca A RX11 cX11_chutes 2 (some .boolean) p s m args meth c) (z : Int32 × ms_T × ms_T)  (SP0 : ms_T) (ST0 : ms_T)   : ∀ (SC : ms_T) (SK : ms_T), fX11_chutes_10 SP0 ST0 SC SK = some z → ∀ (H : Heap) (locs : List Loc) (ls : Array Slot), va_P (dC, dI) classes (w11 ca qC (rC3) (rC4) (rC6) (rC7) (.ref (qP0 0)) (rC11) (rC12) (rC14) (rC15) (rC17) (rC18) (.ref (qK 0)) SC ++ w6 ca qP0 (.ref (qT0 0)) (rP01) SP0 ++ w7 ca qT0 ST0 ++ w5 ca qK SK) H → va_D A (w11 ca qC (rC3) (rC4) (rC6) (rC7) (.ref (qP0 0)) (rC11) (rC12) (rC14) (rC15) (rC17) (rC18) (.ref (qK 0)) SC ++ w6 ca qP0 (.ref (qT0 0)) (rP01) SP0 ++ w7 ca qT0 ST0 ++ w5 ca qK SK) → va_S A s.heap H locs → lv_has ls 2 [(0, .ref (qC 0))] → W p l e rmX11_chutes s m args below meth c H locs 0 0 (MQ below (tc_QI dC dI ca A (w11 ca qC (rC3) (rC4) (rC6) (rC7) (.ref (qP0 0)) (rC11) (rC12) (rC14) (rC15) (rC17) (rC18) (.ref (qK 0)) z.2.1 ++ w6 ca qP0 (.ref (qT0 0)) (rP01) SP0 ++ w7 ca qT0 ST0 ++ w5 ca qK z.2.2) (z.1)) args s 0 0 A) (F0 m 10 ls []) := by
  obtain ⟨hx, hb, hr, hml, hown, hts, hlk, hK, hA, hG⟩ := id X
  intro SC SK hf H locs ls hP hD hS hl
  unfold fX11_chutes_10 at hf
  refine lv_aload_n hx hb dX11_chutes_10 rfl (lv_at hl 0 rfl) ?_
  refine lv_iconst (v := (5 : Int32)) hx hb dX11_chutes_11 (by decide) ?_
  obtain ⟨z1, hg, hf⟩ := tc_bi hf
  refine tc_iV (As := [.int ((5 : Int32))]) (rest := []) (b := qC 0) (wc := w11 ca qC (rC3) (rC4) (rC6) (rC7) (.ref (qP0 0)) (rC11) (rC12) (rC14) (rC15) (rC17) (rC18) (.ref (qK 0)) SC) (wr := w6 ca qP0 (.ref (qT0 0)) (rP01) SP0 ++ w7 ca qT0 ST0 ++ w5 ca qK SK) X hP hD hS (mX11_deny hg) okX11_deny wl_X11_102 wi_X11_deny ws_X11_X11_deny_X11_deny ⟨rfl, rfl, Nat.le_of_ble_eq_true rfl, Nat.le_of_ble_eq_true rfl⟩ 11 0 rfl rfl [0] [1, 2, 3, 4, 5, 6, 7, 8, 9, 10, 11, 12, 13, 14, 15, 16, 17] ⟨rfl, rfl, rfl, rfl, by decide⟩ rfl hl.1 (Nat.le_of_ble_eq_true rfl) dX11_chutes_12 (fun H locs hP hD hS => ?_)
  have hP := hP.sub (ws' := (w11 ca qC (rC3) (rC4) (rC6) (rC7) (.ref (qP0 0)) (rC11) (rC12) (rC14) (rC15) (rC17) (rC18) (.ref (qK 0)) z1.2 ++ w6 ca qP0 (.ref (qT0 0)) (rP01) SP0 ++ w7 ca qT0 ST0 ++ w5 ca qK SK)) [17, 0, 1, 2, 3, 4, 5, 6, 7, 8, 9, 10, 11, 12, 13, 14, 15, 16] rfl
  have hD := hD.sub (ws' := (w11 ca qC (rC3) (rC4) (rC6) (rC7) (.ref (qP0 0)) (rC11) (rC12) (rC14) (rC15) (rC17) (rC18) (.ref (qK 0)) z1.2 ++ w6 ca qP0 (.ref (qT0 0)) (rP01) SP0 ++ w7 ca qT0 ST0 ++ w5 ca qK SK)) [17, 0, 1, 2, 3, 4, 5, 6, 7, 8, 9, 10, 11, 12, 13, 14, 15, 16] rfl rfl
  obtain ⟨hz1, hf⟩ := tc_ck hf
  obtain rfl := Option.some.inj hf
  exact tc_rz X hP hD hS rfl dX11_chutes_15 hz1 rfl rfl
set_option maxRecDepth 20000 in
theorem mX11_chutes {qC : Nat → Nat} {qP0 : Nat → Nat} {qT0 : Nat → Nat} {qK : Nat → Nat} {rC3 : Value} {rC4 : Value} {rC6 : Value} {rC7 : Value} {rC11 : Value} {rC12 : Value} {rC14 : Value} {rC15 : Value} {rC17 : Value} {rC18 : Value} {rP01 : Value} {SC : ms_T} {SP0 : ms_T} {ST0 : ms_T} {SK : ms_T} {a1 : Int32} {z : Int32 × ms_T × ms_T}  (hf : fX11_chutes SC SP0 ST0 SK a1 = some z) : tc_MI l dC dI ca yX11_chutes cX11_chutes 2 (some .boolean) rmX11_chutes [.ref (qC 0), .int (a1)] (w11 ca qC (rC3) (rC4) (rC6) (rC7) (.ref (qP0 0)) (rC11) (rC12) (rC14) (rC15) (rC17) (rC18) (.ref (qK 0)) SC ++ w6 ca qP0 (.ref (qT0 0)) (rP01) SP0 ++ w7 ca qT0 ST0 ++ w5 ca qK SK) (w11 ca qC (rC3) (rC4) (rC6) (rC7) (.ref (qP0 0)) (rC11) (rC12) (rC14) (rC15) (rC17) (rC18) (.ref (qK 0)) z.2.1 ++ w6 ca qP0 (.ref (qT0 0)) (rP01) SP0 ++ w7 ca qT0 ST0 ++ w5 ca qK z.2.2) (z.1) := by
  refine tc_metI (own := RX11) (by decide) rfl ?_ (Nat.le_of_ble_eq_true rfl)
  intro p e s m below meth c A X hP hD hS ls hl
  obtain ⟨hx, hb, hr, hml, hown, hts, hlk, hK, hA, hG⟩ := id X
  unfold fX11_chutes at hf
  have hl : lv_has ls 2 [(0, .ref (qC 0)), (1, .int (a1))] := hl
  refine lv_iload_n hx hb dX11_chutes_0 rfl (lv_at hl 1 rfl) ?_
  refine lv_if_lt (tgt := 10) hx hb dX11_chutes_1 (by decide) (fun hc => ?_) (fun hc => ?_)
  · have hf := tc_pos hc hf
    exact tX11_chutes_10 X z SP0 ST0 SC SK hf _ _ _ hP hD hS (lv_sub hl [0] rfl)
  · have hf := tc_neg hc hf
    refine lv_iload_n hx hb dX11_chutes_4 rfl (lv_at hl 1 rfl) ?_
    refine lv_bipush (v := (6 : Int32)) hx hb dX11_chutes_5 (by decide) ?_
    refine lv_icmp_le (tgt := 16) hx hb dX11_chutes_7 (by decide) (fun hc => ?_) (fun hc => ?_)
    · have hf := tc_pos hc hf
      refine lv_aload_n hx hb dX11_chutes_16 rfl (lv_at hl 0 rfl) ?_
      refine lv_aload_n hx hb dX11_chutes_17 rfl (lv_at hl 0 rfl) ?_
      refine va_get (D := (dC, dI)) (ci := 11) (v := .ref (qK 0)) (C := RX11) (T := TX11) (N := 20) hx hb hts i_X11 hown hK hP 0 rfl rfl 19 (by decide) (hts _ wf_X11_77) (fun _ h9 => h9) rfl dX11_chutes_18 ?_
      refine lv_aload_n hx hb dX11_chutes_21 rfl (lv_at hl 0 rfl) ?_
      refine va_get (D := (dC, dI)) (ci := 11) (v := .ref (qP0 0)) (C := RX11) (T := TX11) (N := 20) hx hb hts i_X11 hown hK hP 0 rfl rfl 10 (by decide) (hts _ wf_X11_39) (fun _ h9 => h9) rfl dX11_chutes_22 ?_
      refine va_get (D := (dC, dI)) (ci := 6) (v := .ref (qT0 0)) (C := RX6) (T := TX6) (N := 2) hx hb hts i_X6 hown hK hP 1 rfl rfl 0 (by decide) (hts _ wf_X11_152) (fun _ h9 => h9) rfl dX11_chutes_25 ?_
      refine lv_iload_n hx hb dX11_chutes_28 rfl (lv_at hl 1 rfl) ?_
      obtain ⟨z2, hg, hf⟩ := tc_bi hf
      refine tc_lV (As := [.ref (qT0 0), .int (a1)]) (rest := [.ref (qC 0)]) (b := qK 0) (wc := w5 ca qK SK ++ w7 ca qT0 ST0) (wr := w11 ca qC (rC3) (rC4) (rC6) (rC7) (.ref (qP0 0)) (rC11) (rC12) (rC14) (rC15) (rC17) (rC18) (.ref (qK 0)) SC ++ w6 ca qP0 (.ref (qT0 0)) (rP01) SP0) X hP hD hS (mX5_holding hg) okX5_holding wl_X11_381 wi_X5_holding ws_X5_X5_holding_X5_holding ⟨rfl, rfl, Nat.le_of_ble_eq_true rfl, Nat.le_of_ble_eq_true rfl⟩ 5 0 rfl rfl [13, 14, 15, 16, 17, 2, 3, 4, 5, 6, 7, 8, 9, 10, 11, 12] [0, 1] ⟨rfl, rfl, rfl, rfl, by decide⟩ rfl hl.1 (Nat.le_of_ble_eq_true rfl) dX11_chutes_29 (fun H locs hP hD hS => ?_)
      have hP := hP.sub (ws' := (w11 ca qC (rC3) (rC4) (rC6) (rC7) (.ref (qP0 0)) (rC11) (rC12) (rC14) (rC15) (rC17) (rC18) (.ref (qK 0)) SC ++ w6 ca qP0 (.ref (qT0 0)) (rP01) SP0 ++ w7 ca qT0 ST0 ++ w5 ca qK z2.2)) [0, 1, 7, 8, 9, 10, 11, 12, 13, 14, 15, 16, 17, 2, 3, 4, 5, 6] rfl
      have hD := hD.sub (ws' := (w11 ca qC (rC3) (rC4) (rC6) (rC7) (.ref (qP0 0)) (rC11) (rC12) (rC14) (rC15) (rC17) (rC18) (.ref (qK 0)) SC ++ w6 ca qP0 (.ref (qT0 0)) (rP01) SP0 ++ w7 ca qT0 ST0 ++ w5 ca qK z2.2)) [0, 1, 7, 8, 9, 10, 11, 12, 13, 14, 15, 16, 17, 2, 3, 4, 5, 6] rfl rfl
      refine lv_lconst (v := (1 : Int64)) hx hb dX11_chutes_32 (by decide) ?_
      refine lv_iconst (v := (4 : Int32)) hx hb dX11_chutes_33 (by decide) ?_
      refine lv_aload_n hx hb dX11_chutes_34 rfl (lv_at hl 0 rfl) ?_
      refine va_get (D := (dC, dI)) (ci := 11) (v := .ref (qP0 0)) (C := RX11) (T := TX11) (N := 20) hx hb hts i_X11 hown hK hP 0 rfl rfl 10 (by decide) (hts _ wf_X11_39) (fun _ h9 => h9) rfl dX11_chutes_35 ?_
      refine va_get (D := (dC, dI)) (ci := 6) (v := .ref (qT0 0)) (C := RX6) (T := TX6) (N := 2) hx hb hts i_X6 hown hK hP 1 rfl rfl 0 (by decide) (hts _ wf_X11_152) (fun _ h9 => h9) rfl dX11_chutes_38 ?_
      refine va_get (D := (dC, dI)) (ci := 7) (v := .int (gi ST0 8)) (C := RX7) (T := TX7) (N := 18) hx hb hts i_X7 hown hK hP 2 rfl rfl 8 (by decide) (hts _ wf_X11_179) (fun _ h9 => h9) rfl dX11_chutes_41 ?_
      refine lv_imul hx hb dX11_chutes_44 ?_
      refine lv_lshl (v := (1 : Int64) <<< (((4 : Int32) * (gi ST0 8)).toInt64 &&& 63)) hx hb dX11_chutes_45 rfl ?_
      obtain ⟨z3, hg, hf⟩ := tc_bi hf
      refine tc_iV (As := [.long (z2.1), .long ((1 : Int64) <<< (((4 : Int32) * (gi ST0 8)).toInt64 &&& 63))]) (rest := []) (b := qC 0) (wc := w11 ca qC (rC3) (rC4) (rC6) (rC7) (.ref (qP0 0)) (rC11) (rC12) (rC14) (rC15) (rC17) (rC18) (.ref (qK 0)) SC) (wr := w6 ca qP0 (.ref (qT0 0)) (rP01) SP0 ++ w7 ca qT0 ST0 ++ w5 ca qK z2.2) X hP hD hS (mX11_tell hg) okX11_tell wl_X11_328 wi_X11_tell ws_X11_X11_tell_X11_tell ⟨rfl, rfl, Nat.le_of_ble_eq_true rfl, Nat.le_of_ble_eq_true rfl⟩ 11 0 rfl rfl [0] [1, 2, 3, 4, 5, 6, 7, 8, 9, 10, 11, 12, 13, 14, 15, 16, 17] ⟨rfl, rfl, rfl, rfl, by decide⟩ rfl hl.1 (Nat.le_of_ble_eq_true rfl) dX11_chutes_46 (fun H locs hP hD hS => ?_)
      have hP := hP.sub (ws' := (w11 ca qC (rC3) (rC4) (rC6) (rC7) (.ref (qP0 0)) (rC11) (rC12) (rC14) (rC15) (rC17) (rC18) (.ref (qK 0)) z3.2 ++ w6 ca qP0 (.ref (qT0 0)) (rP01) SP0 ++ w7 ca qT0 ST0 ++ w5 ca qK z2.2)) [17, 0, 1, 2, 3, 4, 5, 6, 7, 8, 9, 10, 11, 12, 13, 14, 15, 16] rfl
      have hD := hD.sub (ws' := (w11 ca qC (rC3) (rC4) (rC6) (rC7) (.ref (qP0 0)) (rC11) (rC12) (rC14) (rC15) (rC17) (rC18) (.ref (qK 0)) z3.2 ++ w6 ca qP0 (.ref (qT0 0)) (rP01) SP0 ++ w7 ca qT0 ST0 ++ w5 ca qK z2.2)) [17, 0, 1, 2, 3, 4, 5, 6, 7, 8, 9, 10, 11, 12, 13, 14, 15, 16] rfl rfl
      obtain ⟨hz1, hf⟩ := tc_ck hf
      obtain rfl := Option.some.inj hf
      exact tc_rz X hP hD hS rfl dX11_chutes_49 hz1 rfl rfl
    · have hf := tc_neg hc hf
      exact tX11_chutes_10 X z SP0 ST0 SC SK hf _ _ _ hP hD hS (lv_sub hl [0] rfl)
theorem pw11_6_7_1_0_0_16 (ca : Nat → ClassId) (q0 q1 q2 q3 q4 : Nat → Nat) (r0_3 r0_4 r0_6 r0_7 r0_10 r0_11 r0_12 r0_14 r0_15 r0_17 r0_18 r0_19 r1_0 r1_1 r4_0 r4_1 : Value) (S0 S1 S2 S3 S4 : ms_T) (v : Int32) : (w11 ca q0 r0_3 r0_4 r0_6 r0_7 r0_10 r0_11 r0_12 r0_14 r0_15 r0_17 r0_18 r0_19 S0 ++ w6 ca q1 r1_0 r1_1 S1 ++ w7 ca q2 S2 ++ w1 ca q3 S3 ++ w0 ca q4 r4_0 r4_1 S4 : va_W).set 0 (q0 0, .inr (11, List.set (.int (gi S0 0) :: .long (gl S0 1) :: .long (gl S0 2) :: r0_3 :: r0_4 :: .int (gi S0 5) :: r0_6 :: r0_7 :: .int (gi S0 8) :: .int (gi S0 9) :: r0_10 :: r0_11 :: r0_12 :: .int (gi S0 13) :: r0_14 :: r0_15 :: .int (gi S0 16) :: r0_17 :: r0_18 :: r0_19 :: []) 16 (.int v))) = w11 ca q0 r0_3 r0_4 r0_6 r0_7 r0_10 r0_11 r0_12 r0_14 r0_15 r0_17 r0_18 r0_19 (si S0 16 v) ++ w6 ca q1 r1_0 r1_1 S1 ++ w7 ca q2 S2 ++ w1 ca q3 S3 ++ w0 ca q4 r4_0 r4_1 S4 := rfl
def fX11_live_11  (SP0 : ms_T) (SE0 : ms_T)  (SC : ms_T) (ST0 : ms_T) (SV0 : ms_T) : Option (Int32 × ms_T × ms_T × ms_T) :=
  (fX11_refuse SC (5 : Int32)).bind fun z1 =>
  some (z1.1, z1.2, ST0, SV0)
def fX11_live  (SC : ms_T) (SP0 : ms_T) (ST0 : ms_T) (SE0 : ms_T) (SV0 : ms_T) (a1 : Int32) : Option (Int32 × ms_T × ms_T × ms_T) :=
  if a1 < 0 then
    fX11_live_11 SP0 SE0 SC ST0 SV0
  else
    if a1 ≤ (9999 : Int32) then
      if (gi SE0 0) = 0 then
        (fX11_refuse SC (8 : Int32)).bind fun z4 =>
        some (z4.1, z4.2, ST0, SV0)
      else
        (fX0_run SV0 ST0 SE0 a1).bind fun z2 =>
        (fX11_answer (si SC 16 (1 : Int32)) (gi z2.1 4)).bind fun z3 =>
        some (z3.1, z3.2, z2.2, z2.1)
    else
      fX11_live_11 SP0 SE0 SC ST0 SV0
abbrev rmX11_live : Room := { frames := 7, cells := 0, slots := 0, locals := 160 }
theorem okX11_live : tc_ok yX11_live cX11_live 2 (some .int) 1 := ⟨wc_X11_live, wn_X11, by decide, by decide, by decide +kernel⟩
set_option maxRecDepth 20000 in
theorem tX11_live_11 {qC : Nat → Nat} {qP0 : Nat → Nat} {qT0 : Nat → Nat} {qE0 : Nat → Nat} {qV0 : Nat → Nat} {rC3 : Value} {rC4 : Value} {rC6 : Value} {rC7 : Value} {rC11 : Value} {rC12 : Value} {rC15 : Value} {rC17 : Value} {rC18 : Value} {rC19 : Value} {rV00 : Value} {rV01 : Value} (X : tc_X dC dI ca A RX11 cX11_live 2 (some .int) p s m args meth c) (z : Int32 × ms_T × ms_T × ms_T)  (SP0 : ms_T) (SE0 : ms_T)   : ∀ (SC : ms_T) (ST0 : ms_T) (SV0 : ms_T), fX11_live_11 SP0 SE0 SC ST0 SV0 = some z → ∀ (H : Heap) (locs : List Loc) (ls : Array Slot), va_P (dC, dI) classes (w11 ca qC (rC3) (rC4) (rC6) (rC7) (.ref (qP0 0)) (rC11) (rC12) (.ref (qV0 0)) (rC15) (rC17) (rC18) (rC19) SC ++ w6 ca qP0 (.ref (qT0 0)) (.ref (qE0 0)) SP0 ++ w7 ca qT0 ST0 ++ w1 ca qE0 SE0 ++ w0 ca qV0 (rV00) (rV01) SV0) H → va_D A (w11 ca qC (rC3) (rC4) (rC6) (rC7) (.ref (qP0 0)) (rC11) (rC12) (.ref (qV0 0)) (rC15) (rC17) (rC18) (rC19) SC ++ w6 ca qP0 (.ref (qT0 0)) (.ref (qE0 0)) SP0 ++ w7 ca qT0 ST0 ++ w1 ca qE0 SE0 ++ w0 ca qV0 (rV00) (rV01) SV0) → va_S A s.heap H locs → lv_has ls 2 [(0, .ref (qC 0))] → W p l e rmX11_live s m args below meth c H locs 0 0 (MQ below (tc_QIx dC dI ca A (fun u => (w11 ca qC (rC3) (rC4) (rC6) (rC7) (.ref (qP0 0)) (rC11) (rC12) (.ref (qV0 0)) (rC15) (rC17) (rC18) (rC19) z.2.1 ++ w6 ca qP0 (.ref (qT0 0)) (.ref (qE0 0)) SP0 ++ w7 ca qT0 z.2.2.1 ++ w1 ca qE0 SE0 ++ w0 ca qV0 (u 0) (u 1) z.2.2.2)) (z.1)) args s 0 0 A) (F0 m 11 ls []) := by
  obtain ⟨hx, hb, hr, hml, hown, hts, hlk, hK, hA, hG⟩ := id X
  intro SC ST0 SV0 hf H locs ls hP hD hS hl
  unfold fX11_live_11 at hf
  refine lv_aload_n hx hb dX11_live_11 rfl (lv_at hl 0 rfl) ?_
  refine lv_iconst (v := (5 : Int32)) hx hb dX11_live_12 (by decide) ?_
  obtain ⟨z1, hg, hf⟩ := tc_bi hf
  refine tc_iV (As := [.int ((5 : Int32))]) (rest := []) (b := qC 0) (wc := w11 ca qC (rC3) (rC4) (rC6) (rC7) (.ref (qP0 0)) (rC11) (rC12) (.ref (qV0 0)) (rC15) (rC17) (rC18) (rC19) SC) (wr := w6 ca qP0 (.ref (qT0 0)) (.ref (qE0 0)) SP0 ++ w7 ca qT0 ST0 ++ w1 ca qE0 SE0 ++ w0 ca qV0 (rV00) (rV01) SV0) X hP hD hS (mX11_refuse hg) okX11_refuse wl_X11_121 wi_X11_refuse ws_X11_X11_refuse_X11_refuse ⟨rfl, rfl, Nat.le_of_ble_eq_true rfl, Nat.le_of_ble_eq_true rfl⟩ 11 0 rfl rfl [0] [1, 2, 3, 4, 5, 6, 7, 8, 9, 10, 11, 12, 13, 14, 15, 16, 17, 18, 19, 20] ⟨rfl, rfl, rfl, rfl, by decide⟩ rfl hl.1 (Nat.le_of_ble_eq_true rfl) dX11_live_13 (fun H locs hP hD hS => ?_)
  have hP := hP.sub (ws' := (w11 ca qC (rC3) (rC4) (rC6) (rC7) (.ref (qP0 0)) (rC11) (rC12) (.ref (qV0 0)) (rC15) (rC17) (rC18) (rC19) z1.2 ++ w6 ca qP0 (.ref (qT0 0)) (.ref (qE0 0)) SP0 ++ w7 ca qT0 ST0 ++ w1 ca qE0 SE0 ++ w0 ca qV0 (rV00) (rV01) SV0)) [20, 0, 1, 2, 3, 4, 5, 6, 7, 8, 9, 10, 11, 12, 13, 14, 15, 16, 17, 18, 19] rfl
  have hD := hD.sub (ws' := (w11 ca qC (rC3) (rC4) (rC6) (rC7) (.ref (qP0 0)) (rC11) (rC12) (.ref (qV0 0)) (rC15) (rC17) (rC18) (rC19) z1.2 ++ w6 ca qP0 (.ref (qT0 0)) (.ref (qE0 0)) SP0 ++ w7 ca qT0 ST0 ++ w1 ca qE0 SE0 ++ w0 ca qV0 (rV00) (rV01) SV0)) [20, 0, 1, 2, 3, 4, 5, 6, 7, 8, 9, 10, 11, 12, 13, 14, 15, 16, 17, 18, 19] rfl rfl
  obtain rfl := Option.some.inj hf
  exact tc_rix X hP hD hS rfl dX11_live_16 (fun i => if i = 0 then rV00 else rV01) rfl rfl
set_option maxRecDepth 20000 in
theorem mX11_live {qC : Nat → Nat} {qP0 : Nat → Nat} {qT0 : Nat → Nat} {qE0 : Nat → Nat} {qV0 : Nat → Nat} {rC3 : Value} {rC4 : Value} {rC6 : Value} {rC7 : Value} {rC11 : Value} {rC12 : Value} {rC15 : Value} {rC17 : Value} {rC18 : Value} {rC19 : Value} {rV00 : Value} {rV01 : Value} {SC : ms_T} {SP0 : ms_T} {ST0 : ms_T} {SE0 : ms_T} {SV0 : ms_T} {a1 : Int32} {z : Int32 × ms_T × ms_T × ms_T}  (hf : fX11_live SC SP0 ST0 SE0 SV0 a1 = some z) : tc_MIx l dC dI ca yX11_live cX11_live 2 (some .int) rmX11_live [.ref (qC 0), .int (a1)] (w11 ca qC (rC3) (rC4) (rC6) (rC7) (.ref (qP0 0)) (rC11) (rC12) (.ref (qV0 0)) (rC15) (rC17) (rC18) (rC19) SC ++ w6 ca qP0 (.ref (qT0 0)) (.ref (qE0 0)) SP0 ++ w7 ca qT0 ST0 ++ w1 ca qE0 SE0 ++ w0 ca qV0 (rV00) (rV01) SV0) (fun u => (w11 ca qC (rC3) (rC4) (rC6) (rC7) (.ref (qP0 0)) (rC11) (rC12) (.ref (qV0 0)) (rC15) (rC17) (rC18) (rC19) z.2.1 ++ w6 ca qP0 (.ref (qT0 0)) (.ref (qE0 0)) SP0 ++ w7 ca qT0 z.2.2.1 ++ w1 ca qE0 SE0 ++ w0 ca qV0 (u 0) (u 1) z.2.2.2)) (z.1) := by
  refine tc_metIx (own := RX11) (by decide) rfl ?_ (Nat.le_of_ble_eq_true rfl)
  intro p e s m below meth c A X hP hD hS ls hl
  obtain ⟨hx, hb, hr, hml, hown, hts, hlk, hK, hA, hG⟩ := id X
  unfold fX11_live at hf
  have hl : lv_has ls 2 [(0, .ref (qC 0)), (1, .int (a1))] := hl
  refine lv_iload_n hx hb dX11_live_0 rfl (lv_at hl 1 rfl) ?_
  refine lv_if_lt (tgt := 11) hx hb dX11_live_1 (by decide) (fun hc => ?_) (fun hc => ?_)
  · have hf := tc_pos hc hf
    exact tX11_live_11 X z SP0 SE0 SC ST0 SV0 hf _ _ _ hP hD hS (lv_sub hl [0] rfl)
  · have hf := tc_neg hc hf
    refine lv_iload_n hx hb dX11_live_4 rfl (lv_at hl 1 rfl) ?_
    refine lv_sipush (v := (9999 : Int32)) hx hb dX11_live_5 (by decide) ?_
    refine lv_icmp_le (tgt := 17) hx hb dX11_live_8 (by decide) (fun hc => ?_) (fun hc => ?_)
    · have hf := tc_pos hc hf
      refine lv_aload_n hx hb dX11_live_17 rfl (lv_at hl 0 rfl) ?_
      refine va_get (D := (dC, dI)) (ci := 11) (v := .ref (qP0 0)) (C := RX11) (T := TX11) (N := 20) hx hb hts i_X11 hown hK hP 0 rfl rfl 10 (by decide) (hts _ wf_X11_39) (fun _ h9 => h9) rfl dX11_live_18 ?_
      refine va_get (D := (dC, dI)) (ci := 6) (v := .ref (qE0 0)) (C := RX6) (T := TX6) (N := 2) hx hb hts i_X6 hown hK hP 1 rfl rfl 1 (by decide) (hts _ wf_X11_170) (fun _ h9 => h9) rfl dX11_live_21 ?_
      refine va_get (D := (dC, dI)) (ci := 1) (v := .int (gi SE0 0)) (C := RX1) (T := TX1) (N := 8) hx hb hts i_X1 hown hK hP 13 rfl rfl 0 (by decide) (hts _ wf_X11_385) (fun _ h9 => h9) rfl dX11_live_24 ?_
      refine lv_if_ne (tgt := 37) hx hb dX11_live_27 (by decide) (fun hc => ?_) (fun hc => ?_)
      · have hf := tc_neg hc hf
        refine lv_aload_n hx hb dX11_live_37 rfl (lv_at hl 0 rfl) ?_
        refine va_get (D := (dC, dI)) (ci := 11) (v := .ref (qV0 0)) (C := RX11) (T := TX11) (N := 20) hx hb hts i_X11 hown hK hP 0 rfl rfl 14 (by decide) (hts _ wf_X11_53) (fun _ h9 => h9) rfl dX11_live_38 ?_
        refine lv_aload_n hx hb dX11_live_41 rfl (lv_at hl 0 rfl) ?_
        refine va_get (D := (dC, dI)) (ci := 11) (v := .ref (qP0 0)) (C := RX11) (T := TX11) (N := 20) hx hb hts i_X11 hown hK hP 0 rfl rfl 10 (by decide) (hts _ wf_X11_39) (fun _ h9 => h9) rfl dX11_live_42 ?_
        refine va_get (D := (dC, dI)) (ci := 6) (v := .ref (qT0 0)) (C := RX6) (T := TX6) (N := 2) hx hb hts i_X6 hown hK hP 1 rfl rfl 0 (by decide) (hts _ wf_X11_152) (fun _ h9 => h9) rfl dX11_live_45 ?_
        refine lv_aload_n hx hb dX11_live_48 rfl (lv_at hl 0 rfl) ?_
        refine va_get (D := (dC, dI)) (ci := 11) (v := .ref (qP0 0)) (C := RX11) (T := TX11) (N := 20) hx hb hts i_X11 hown hK hP 0 rfl rfl 10 (by decide) (hts _ wf_X11_39) (fun _ h9 => h9) rfl dX11_live_49 ?_
        refine va_get (D := (dC, dI)) (ci := 6) (v := .ref (qE0 0)) (C := RX6) (T := TX6) (N := 2) hx hb hts i_X6 hown hK hP 1 rfl rfl 1 (by decide) (hts _ wf_X11_170) (fun _ h9 => h9) rfl dX11_live_52 ?_
        refine lv_iload_n hx hb dX11_live_55 rfl (lv_at hl 1 rfl) ?_
        obtain ⟨z2, hg, hf⟩ := tc_bi hf
        refine tc_vV (As := [.ref (qT0 0), .ref (qE0 0), .int (a1)]) (rest := []) (b := qV0 0) (wc := w0 ca qV0 (rV00) (rV01) SV0 ++ w7 ca qT0 ST0 ++ w1 ca qE0 SE0) (wr := w11 ca qC (rC3) (rC4) (rC6) (rC7) (.ref (qP0 0)) (rC11) (rC12) (.ref (qV0 0)) (rC15) (rC17) (rC18) (rC19) SC ++ w6 ca qP0 (.ref (qT0 0)) (.ref (qE0 0)) SP0) X hP hD hS (mX0_run hg) okX0_run wl_X11_389 wi_X0_run ws_X0_X0_run_X0_run ⟨rfl, rfl, Nat.le_of_ble_eq_true rfl, Nat.le_of_ble_eq_true rfl⟩ 0 0 rfl rfl [19, 20, 2, 3, 4, 5, 6, 7, 8, 9, 10, 11, 12, 13, 14, 15, 16, 17, 18] [0, 1] ⟨rfl, rfl, rfl, rfl, by decide⟩ rfl hl.1 (Nat.le_of_ble_eq_true rfl) dX11_live_56 (fun H locs hP hD hS => ?_)
        have hP := hP.sub (ws' := (w11 ca qC (rC3) (rC4) (rC6) (rC7) (.ref (qP0 0)) (rC11) (rC12) (.ref (qV0 0)) (rC15) (rC17) (rC18) (rC19) SC ++ w6 ca qP0 (.ref (qT0 0)) (.ref (qE0 0)) SP0 ++ w7 ca qT0 z2.2 ++ w1 ca qE0 SE0 ++ w0 ca qV0 (.ref (qT0 0)) (.ref (qE0 0)) z2.1)) [0, 1, 4, 5, 6, 7, 8, 9, 10, 11, 12, 13, 14, 15, 16, 17, 18, 19, 20, 2, 3] rfl
        have hD := hD.sub (ws' := (w11 ca qC (rC3) (rC4) (rC6) (rC7) (.ref (qP0 0)) (rC11) (rC12) (.ref (qV0 0)) (rC15) (rC17) (rC18) (rC19) SC ++ w6 ca qP0 (.ref (qT0 0)) (.ref (qE0 0)) SP0 ++ w7 ca qT0 z2.2 ++ w1 ca qE0 SE0 ++ w0 ca qV0 (.ref (qT0 0)) (.ref (qE0 0)) z2.1)) [0, 1, 4, 5, 6, 7, 8, 9, 10, 11, 12, 13, 14, 15, 16, 17, 18, 19, 20, 2, 3] rfl rfl
        refine lv_aload_n hx hb dX11_live_59 rfl (lv_at hl 0 rfl) ?_
        refine lv_iconst (v := (1 : Int32)) hx hb dX11_live_60 (by decide) ?_
        refine va_put (D := (dC, dI)) (ci := 11) (v := .int ((1 : Int32))) (ty := .boolean) (C := RX11) (T := TX11) (N := 20) hx hb hts i_X11 tyX11 tyX11_ok nmX11 hown hK hP hD hS 0 rfl rfl 16 (by decide) (hts _ wf_X11_393) (fun _ h9 => h9) rfl (tyX11_ok 16 (by decide)) (tc_nb (by decide)) (tc_fb (by decide)) (Nat.le_of_ble_eq_true rfl) dX11_live_61 (fun H locs hP hD hS => ?_)
        have hP := tc_eP (pw11_6_7_1_0_0_16 ca qC qP0 qT0 qE0 qV0 (rC3) (rC4) (rC6) (rC7) (.ref (qP0 0)) (rC11) (rC12) (.ref (qV0 0)) (rC15) (rC17) (rC18) (rC19) (.ref (qT0 0)) (.ref (qE0 0)) (.ref (qT0 0)) (.ref (qE0 0)) SC SP0 z2.2 SE0 z2.1 (1 : Int32)) hP
        have hD := tc_eD (pw11_6_7_1_0_0_16 ca qC qP0 qT0 qE0 qV0 (rC3) (rC4) (rC6) (rC7) (.ref (qP0 0)) (rC11) (rC12) (.ref (qV0 0)) (rC15) (rC17) (rC18) (rC19) (.ref (qT0 0)) (.ref (qE0 0)) (.ref (qT0 0)) (.ref (qE0 0)) SC SP0 z2.2 SE0 z2.1 (1 : Int32)) hD
        refine lv_aload_n hx hb dX11_live_64 rfl (lv_at hl 0 rfl) ?_
        refine lv_aload_n hx hb dX11_live_65 rfl (lv_at hl 0 rfl) ?_
        refine va_get (D := (dC, dI)) (ci := 11) (v := .ref (qV0 0)) (C := RX11) (T := TX11) (N := 20) hx hb hts i_X11 hown hK hP 0 rfl rfl 14 (by decide) (hts _ wf_X11_53) (fun _ h9 => h9) rfl dX11_live_66 ?_
        refine va_get (D := (dC, dI)) (ci := 0) (v := .int (gi z2.1 4)) (C := RX0) (T := TX0) (N := 10) hx hb hts i_X0 hown hK hP 19 rfl rfl 4 (by decide) (hts _ wf_X11_396) (fun _ h9 => h9) rfl dX11_live_69 ?_
        obtain ⟨z3, hg, hf⟩ := tc_bi hf
        refine tc_iV (As := [.int (gi z2.1 4)]) (rest := []) (b := qC 0) (wc := w11 ca qC (rC3) (rC4) (rC6) (rC7) (.ref (qP0 0)) (rC11) (rC12) (.ref (qV0 0)) (rC15) (rC17) (rC18) (rC19) (si SC 16 (1 : Int32))) (wr := w6 ca qP0 (.ref (qT0 0)) (.ref (qE0 0)) SP0 ++ w7 ca qT0 z2.2 ++ w1 ca qE0 SE0 ++ w0 ca qV0 (.ref (qT0 0)) (.ref (qE0 0)) z2.1) X hP hD hS (mX11_answer hg) okX11_answer wl_X11_182 wi_X11_answer ws_X11_X11_answer_X11_answer ⟨rfl, rfl, Nat.le_of_ble_eq_true rfl, Nat.le_of_ble_eq_true rfl⟩ 11 0 rfl rfl [0] [1, 2, 3, 4, 5, 6, 7, 8, 9, 10, 11, 12, 13, 14, 15, 16, 17, 18, 19, 20] ⟨rfl, rfl, rfl, rfl, by decide⟩ rfl hl.1 (Nat.le_of_ble_eq_true rfl) dX11_live_72 (fun H locs hP hD hS => ?_)
        have hP := hP.sub (ws' := (w11 ca qC (rC3) (rC4) (rC6) (rC7) (.ref (qP0 0)) (rC11) (rC12) (.ref (qV0 0)) (rC15) (rC17) (rC18) (rC19) z3.2 ++ w6 ca qP0 (.ref (qT0 0)) (.ref (qE0 0)) SP0 ++ w7 ca qT0 z2.2 ++ w1 ca qE0 SE0 ++ w0 ca qV0 (.ref (qT0 0)) (.ref (qE0 0)) z2.1)) [20, 0, 1, 2, 3, 4, 5, 6, 7, 8, 9, 10, 11, 12, 13, 14, 15, 16, 17, 18, 19] rfl
        have hD := hD.sub (ws' := (w11 ca qC (rC3) (rC4) (rC6) (rC7) (.ref (qP0 0)) (rC11) (rC12) (.ref (qV0 0)) (rC15) (rC17) (rC18) (rC19) z3.2 ++ w6 ca qP0 (.ref (qT0 0)) (.ref (qE0 0)) SP0 ++ w7 ca qT0 z2.2 ++ w1 ca qE0 SE0 ++ w0 ca qV0 (.ref (qT0 0)) (.ref (qE0 0)) z2.1)) [20, 0, 1, 2, 3, 4, 5, 6, 7, 8, 9, 10, 11, 12, 13, 14, 15, 16, 17, 18, 19] rfl rfl
        obtain rfl := Option.some.inj hf
        exact tc_rix X hP hD hS rfl dX11_live_75 (fun i => if i = 0 then .ref (qT0 0) else .ref (qE0 0)) rfl rfl
      · have hf := tc_pos hc hf
        refine lv_aload_n hx hb dX11_live_30 rfl (lv_at hl 0 rfl) ?_
        refine lv_bipush (v := (8 : Int32)) hx hb dX11_live_31 (by decide) ?_
        obtain ⟨z4, hg, hf⟩ := tc_bi hf
        refine tc_iV (As := [.int ((8 : Int32))]) (rest := []) (b := qC 0) (wc := w11 ca qC (rC3) (rC4) (rC6) (rC7) (.ref (qP0 0)) (rC11) (rC12) (.ref (qV0 0)) (rC15) (rC17) (rC18) (rC19) SC) (wr := w6 ca qP0 (.ref (qT0 0)) (.ref (qE0 0)) SP0 ++ w7 ca qT0 ST0 ++ w1 ca qE0 SE0 ++ w0 ca qV0 (rV00) (rV01) SV0) X hP hD hS (mX11_refuse hg) okX11_refuse wl_X11_121 wi_X11_refuse ws_X11_X11_refuse_X11_refuse ⟨rfl, rfl, Nat.le_of_ble_eq_true rfl, Nat.le_of_ble_eq_true rfl⟩ 11 0 rfl rfl [0] [1, 2, 3, 4, 5, 6, 7, 8, 9, 10, 11, 12, 13, 14, 15, 16, 17, 18, 19, 20] ⟨rfl, rfl, rfl, rfl, by decide⟩ rfl hl.1 (Nat.le_of_ble_eq_true rfl) dX11_live_33 (fun H locs hP hD hS => ?_)
        have hP := hP.sub (ws' := (w11 ca qC (rC3) (rC4) (rC6) (rC7) (.ref (qP0 0)) (rC11) (rC12) (.ref (qV0 0)) (rC15) (rC17) (rC18) (rC19) z4.2 ++ w6 ca qP0 (.ref (qT0 0)) (.ref (qE0 0)) SP0 ++ w7 ca qT0 ST0 ++ w1 ca qE0 SE0 ++ w0 ca qV0 (rV00) (rV01) SV0)) [20, 0, 1, 2, 3, 4, 5, 6, 7, 8, 9, 10, 11, 12, 13, 14, 15, 16, 17, 18, 19] rfl
        have hD := hD.sub (ws' := (w11 ca qC (rC3) (rC4) (rC6) (rC7) (.ref (qP0 0)) (rC11) (rC12) (.ref (qV0 0)) (rC15) (rC17) (rC18) (rC19) z4.2 ++ w6 ca qP0 (.ref (qT0 0)) (.ref (qE0 0)) SP0 ++ w7 ca qT0 ST0 ++ w1 ca qE0 SE0 ++ w0 ca qV0 (rV00) (rV01) SV0)) [20, 0, 1, 2, 3, 4, 5, 6, 7, 8, 9, 10, 11, 12, 13, 14, 15, 16, 17, 18, 19] rfl rfl
        obtain rfl := Option.some.inj hf
        exact tc_rix X hP hD hS rfl dX11_live_36 (fun i => if i = 0 then rV00 else rV01) rfl rfl
    · have hf := tc_neg hc hf
      exact tX11_live_11 X z SP0 SE0 SC ST0 SV0 hf _ _ _ hP hD hS (lv_sub hl [0] rfl)
end G
