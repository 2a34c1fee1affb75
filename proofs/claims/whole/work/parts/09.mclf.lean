section G
variable {p : Program} {l : Launch} {e : Env} {s : State} {m : MethodId} {args : Array Value} {below : List Frame} {meth : Method} {c : Code} {dC : Nat → ClassId} {dI : Nat → Nat → Nat} {ca : Nat → ClassId} {A : Nat → Prop}
def fX11_lived_9  (SV0 : ms_T)  (SC : ms_T) : Option (Int32 × ms_T) :=
  (fX11_refuse SC (5 : Int32)).bind fun z1 =>
  some (z1.1, z1.2)
def fX11_lived  (SC : ms_T) (SV0 : ms_T) (a1 : Int32) : Option (Int32 × ms_T) :=
  if a1 < 0 then
    fX11_lived_9 SV0 SC
  else
    if a1 ≤ (4 : Int32) then
      if (gi SC 16) = 0 then
        (fX11_refuse SC (8 : Int32)).bind fun z7 =>
        some (z7.1, z7.2)
      else
        if a1 = (0 : Int32) then
          (fX11_answer SC (gi SV0 5)).bind fun z3 =>
          some (z3.1, z3.2)
        else
          if a1 = (1 : Int32) then
            (fX11_answer SC (gi SV0 6)).bind fun z4 =>
            some (z4.1, z4.2)
          else
            if a1 = (2 : Int32) then
              (fX11_answer SC (gi SV0 7)).bind fun z5 =>
              some (z5.1, z5.2)
            else
              if a1 = (3 : Int32) then
                (fX11_answer SC (gi SV0 8)).bind fun z6 =>
                some (z6.1, z6.2)
              else
                (fX11_answer SC (gi SV0 9)).bind fun z2 =>
                some (z2.1, z2.2)
    else
      fX11_lived_9 SV0 SC
abbrev rmX11_lived : Room := { frames := 1, cells := 0, slots := 0, locals := 21 }
theorem okX11_lived : tc_ok yX11_lived cX11_lived 2 (some .int) 1 := ⟨wc_X11_lived, wn_X11, by decide, by decide, by decide +kernel⟩
set_option maxRecDepth 20000 in
theorem tX11_lived_9 {qC : Nat → Nat} {qV0 : Nat → Nat} {rC3 : Value} {rC4 : Value} {rC6 : Value} {rC7 : Value} {rC10 : Value} {rC11 : Value} {rC12 : Value} {rC15 : Value} {rC17 : Value} {rC18 : Value} {rC19 : Value} {rV00 : Value} {rV01 : Value} (X : tc_X dC dI ca A RX11 cX11_lived 2 (some .int) p s m args meth c) (z : Int32 × ms_T)  (SV0 : ms_T)   : ∀ (SC : ms_T), fX11_lived_9 SV0 SC = some z → ∀ (H : Heap) (locs : List Loc) (ls : Array Slot), va_P (dC, dI) classes (w11 ca qC (rC3) (rC4) (rC6) (rC7) (rC10) (rC11) (rC12) (.ref (qV0 0)) (rC15) (rC17) (rC18) (rC19) SC ++ w0 ca qV0 (rV00) (rV01) SV0) H → va_D A (w11 ca qC (rC3) (rC4) (rC6) (rC7) (rC10) (rC11) (rC12) (.ref (qV0 0)) (rC15) (rC17) (rC18) (rC19) SC ++ w0 ca qV0 (rV00) (rV01) SV0) → va_S A s.heap H locs → lv_has ls 2 [(0, .ref (qC 0))] → W p l e rmX11_lived s m args below meth c H locs 0 0 (MQ below (tc_QI dC dI ca A (w11 ca qC (rC3) (rC4) (rC6) (rC7) (rC10) (rC11) (rC12) (.ref (qV0 0)) (rC15) (rC17) (rC18) (rC19) z.2 ++ w0 ca qV0 (rV00) (rV01) SV0) (z.1)) args s 0 0 A) (F0 m 9 ls []) := by
  obtain ⟨hx, hb, hr, hml, hown, hts, hlk, hK, hA, hG⟩ := id X
  intro SC hf H locs ls hP hD hS hl
  unfold fX11_lived_9 at hf
  refine lv_aload_n hx hb dX11_lived_9 rfl (lv_at hl 0 rfl) ?_
  refine lv_iconst (v := (5 : Int32)) hx hb dX11_lived_10 (by decide) ?_
  obtain ⟨z1, hg, hf⟩ := tc_bi hf
  refine tc_iV (As := [.int ((5 : Int32))]) (rest := []) (b := qC 0) (wc := w11 ca qC (rC3) (rC4) (rC6) (rC7) (rC10) (rC11) (rC12) (.ref (qV0 0)) (rC15) (rC17) (rC18) (rC19) SC) (wr := w0 ca qV0 (rV00) (rV01) SV0) X hP hD hS (mX11_refuse hg) okX11_refuse wl_X11_121 wi_X11_refuse ws_X11_X11_refuse_X11_refuse ⟨rfl, rfl, Nat.le_of_ble_eq_true rfl, Nat.le_of_ble_eq_true rfl⟩ 11 0 rfl rfl [0] [1, 2] ⟨rfl, rfl, rfl, rfl, by decide⟩ rfl hl.1 (Nat.le_of_ble_eq_true rfl) dX11_lived_11 (fun H locs hP hD hS => ?_)
  have hP := hP.sub (ws' := (w11 ca qC (rC3) (rC4) (rC6) (rC7) (rC10) (rC11) (rC12) (.ref (qV0 0)) (rC15) (rC17) (rC18) (rC19) z1.2 ++ w0 ca qV0 (rV00) (rV01) SV0)) [2, 0, 1] rfl
  have hD := hD.sub (ws' := (w11 ca qC (rC3) (rC4) (rC6) (rC7) (rC10) (rC11) (rC12) (.ref (qV0 0)) (rC15) (rC17) (rC18) (rC19) z1.2 ++ w0 ca qV0 (rV00) (rV01) SV0)) [2, 0, 1] rfl rfl
  obtain rfl := Option.some.inj hf
  exact tc_ri X hP hD hS rfl dX11_lived_14 rfl rfl
set_option maxRecDepth 20000 in
theorem mX11_lived {qC : Nat → Nat} {qV0 : Nat → Nat} {rC3 : Value} {rC4 : Value} {rC6 : Value} {rC7 : Value} {rC10 : Value} {rC11 : Value} {rC12 : Value} {rC15 : Value} {rC17 : Value} {rC18 : Value} {rC19 : Value} {rV00 : Value} {rV01 : Value} {SC : ms_T} {SV0 : ms_T} {a1 : Int32} {z : Int32 × ms_T}  (hf : fX11_lived SC SV0 a1 = some z) : tc_MI l dC dI ca yX11_lived cX11_lived 2 (some .int) rmX11_lived [.ref (qC 0), .int (a1)] (w11 ca qC (rC3) (rC4) (rC6) (rC7) (rC10) (rC11) (rC12) (.ref (qV0 0)) (rC15) (rC17) (rC18) (rC19) SC ++ w0 ca qV0 (rV00) (rV01) SV0) (w11 ca qC (rC3) (rC4) (rC6) (rC7) (rC10) (rC11) (rC12) (.ref (qV0 0)) (rC15) (rC17) (rC18) (rC19) z.2 ++ w0 ca qV0 (rV00) (rV01) SV0) (z.1) := by
  refine tc_metI (own := RX11) (by decide) rfl ?_ (Nat.le_of_ble_eq_true rfl)
  intro p e s m below meth c A X hP hD hS ls hl
  obtain ⟨hx, hb, hr, hml, hown, hts, hlk, hK, hA, hG⟩ := id X
  unfold fX11_lived at hf
  have hl : lv_has ls 2 [(0, .ref (qC 0)), (1, .int (a1))] := hl
  refine lv_iload_n hx hb dX11_lived_0 rfl (lv_at hl 1 rfl) ?_
  refine lv_if_lt (tgt := 9) hx hb dX11_lived_1 (by decide) (fun hc => ?_) (fun hc => ?_)
  · have hf := tc_pos hc hf
    exact tX11_lived_9 X z SV0 SC hf _ _ _ hP hD hS (lv_sub hl [0] rfl)
  · have hf := tc_neg hc hf
    refine lv_iload_n hx hb dX11_lived_4 rfl (lv_at hl 1 rfl) ?_
    refine lv_iconst (v := (4 : Int32)) hx hb dX11_lived_5 (by decide) ?_
    refine lv_icmp_le (tgt := 15) hx hb dX11_lived_6 (by decide) (fun hc => ?_) (fun hc => ?_)
    · have hf := tc_pos hc hf
      refine lv_aload_n hx hb dX11_lived_15 rfl (lv_at hl 0 rfl) ?_
      refine va_get (D := (dC, dI)) (ci := 11) (v := .int (gi SC 16)) (C := RX11) (T := TX11) (N := 20) hx hb hts i_X11 hown hK hP 0 rfl rfl 16 (by decide) (hts _ wf_X11_393) (fun _ h9 => h9) rfl dX11_lived_16 ?_
      refine lv_if_ne (tgt := 29) hx hb dX11_lived_19 (by decide) (fun hc => ?_) (fun hc => ?_)
      · have hf := tc_neg hc hf
        refine lv_iload_n hx hb dX11_lived_29 rfl (lv_at hl 1 rfl) ?_
        by_cases hn0 : a1 = (0 : Int32)
        · have hf := tc_pos hn0 hf
          refine lv_tableIn (off := 30) (tgt := 60) hx hb dX11_lived_30 (tc_sw (P := fun y => ¬ y.toInt < 0) hn0 (by decide)) (tc_sw (P := fun y => ¬ 3 < y.toInt) hn0 (by decide)) (tc_sw (P := fun y => (#[30, 42, 54, 66] : Array Int)[(y.toInt - 0).toNat]? = some 30) hn0 (by decide)) (by decide) ?_
          refine lv_aload_n hx hb dX11_lived_60 rfl (lv_at hl 0 rfl) ?_
          refine lv_aload_n hx hb dX11_lived_61 rfl (lv_at hl 0 rfl) ?_
          refine va_get (D := (dC, dI)) (ci := 11) (v := .ref (qV0 0)) (C := RX11) (T := TX11) (N := 20) hx hb hts i_X11 hown hK hP 0 rfl rfl 14 (by decide) (hts _ wf_X11_53) (fun _ h9 => h9) rfl dX11_lived_62 ?_
          refine va_get (D := (dC, dI)) (ci := 0) (v := .int (gi SV0 5)) (C := RX0) (T := TX0) (N := 10) hx hb hts i_X0 hown hK hP 1 rfl rfl 5 (by decide) (hts _ wf_X11_397) (fun _ h9 => h9) rfl dX11_lived_65 ?_
          obtain ⟨z3, hg, hf⟩ := tc_bi hf
          refine tc_iV (As := [.int (gi SV0 5)]) (rest := []) (b := qC 0) (wc := w11 ca qC (rC3) (rC4) (rC6) (rC7) (rC10) (rC11) (rC12) (.ref (qV0 0)) (rC15) (rC17) (rC18) (rC19) SC) (wr := w0 ca qV0 (rV00) (rV01) SV0) X hP hD hS (mX11_answer hg) okX11_answer wl_X11_182 wi_X11_answer ws_X11_X11_answer_X11_answer ⟨rfl, rfl, Nat.le_of_ble_eq_true rfl, Nat.le_of_ble_eq_true rfl⟩ 11 0 rfl rfl [0] [1, 2] ⟨rfl, rfl, rfl, rfl, by decide⟩ rfl hl.1 (Nat.le_of_ble_eq_true rfl) dX11_lived_68 (fun H locs hP hD hS => ?_)
          have hP := hP.sub (ws' := (w11 ca qC (rC3) (rC4) (rC6) (rC7) (rC10) (rC11) (rC12) (.ref (qV0 0)) (rC15) (rC17) (rC18) (rC19) z3.2 ++ w0 ca qV0 (rV00) (rV01) SV0)) [2, 0, 1] rfl
          have hD := hD.sub (ws' := (w11 ca qC (rC3) (rC4) (rC6) (rC7) (rC10) (rC11) (rC12) (.ref (qV0 0)) (rC15) (rC17) (rC18) (rC19) z3.2 ++ w0 ca qV0 (rV00) (rV01) SV0)) [2, 0, 1] rfl rfl
          obtain rfl := Option.some.inj hf
          exact tc_ri X hP hD hS rfl dX11_lived_71 rfl rfl
        · have hf := tc_neg hn0 hf
          by_cases hn1 : a1 = (1 : Int32)
          · have hf := tc_pos hn1 hf
            refine lv_tableIn (off := 42) (tgt := 72) hx hb dX11_lived_30 (tc_sw (P := fun y => ¬ y.toInt < 0) hn1 (by decide)) (tc_sw (P := fun y => ¬ 3 < y.toInt) hn1 (by decide)) (tc_sw (P := fun y => (#[30, 42, 54, 66] : Array Int)[(y.toInt - 0).toNat]? = some 42) hn1 (by decide)) (by decide) ?_
            refine lv_aload_n hx hb dX11_lived_72 rfl (lv_at hl 0 rfl) ?_
            refine lv_aload_n hx hb dX11_lived_73 rfl (lv_at hl 0 rfl) ?_
            refine va_get (D := (dC, dI)) (ci := 11) (v := .ref (qV0 0)) (C := RX11) (T := TX11) (N := 20) hx hb hts i_X11 hown hK hP 0 rfl rfl 14 (by decide) (hts _ wf_X11_53) (fun _ h9 => h9) rfl dX11_lived_74 ?_
            refine va_get (D := (dC, dI)) (ci := 0) (v := .int (gi SV0 6)) (C := RX0) (T := TX0) (N := 10) hx hb hts i_X0 hown hK hP 1 rfl rfl 6 (by decide) (hts _ wf_X11_400) (fun _ h9 => h9) rfl dX11_lived_77 ?_
            obtain ⟨z4, hg, hf⟩ := tc_bi hf
            refine tc_iV (As := [.int (gi SV0 6)]) (rest := []) (b := qC 0) (wc := w11 ca qC (rC3) (rC4) (rC6) (rC7) (rC10) (rC11) (rC12) (.ref (qV0 0)) (rC15) (rC17) (rC18) (rC19) SC) (wr := w0 ca qV0 (rV00) (rV01) SV0) X hP hD hS (mX11_answer hg) okX11_answer wl_X11_182 wi_X11_answer ws_X11_X11_answer_X11_answer ⟨rfl, rfl, Nat.le_of_ble_eq_true rfl, Nat.le_of_ble_eq_true rfl⟩ 11 0 rfl rfl [0] [1, 2] ⟨rfl, rfl, rfl, rfl, by decide⟩ rfl hl.1 (Nat.le_of_ble_eq_true rfl) dX11_lived_80 (fun H locs hP hD hS => ?_)
            have hP := hP.sub (ws' := (w11 ca qC (rC3) (rC4) (rC6) (rC7) (rC10) (rC11) (rC12) (.ref (qV0 0)) (rC15) (rC17) (rC18) (rC19) z4.2 ++ w0 ca qV0 (rV00) (rV01) SV0)) [2, 0, 1] rfl
            have hD := hD.sub (ws' := (w11 ca qC (rC3) (rC4) (rC6) (rC7) (rC10) (rC11) (rC12) (.ref (qV0 0)) (rC15) (rC17) (rC18) (rC19) z4.2 ++ w0 ca qV0 (rV00) (rV01) SV0)) [2, 0, 1] rfl rfl
            obtain rfl := Option.some.inj hf
            exact tc_ri X hP hD hS rfl dX11_lived_83 rfl rfl
          · have hf := tc_neg hn1 hf
            by_cases hn2 : a1 = (2 : Int32)
            · have hf := tc_pos hn2 hf
              refine lv_tableIn (off := 54) (tgt := 84) hx hb dX11_lived_30 (tc_sw (P := fun y => ¬ y.toInt < 0) hn2 (by decide)) (tc_sw (P := fun y => ¬ 3 < y.toInt) hn2 (by decide)) (tc_sw (P := fun y => (#[30, 42, 54, 66] : Array Int)[(y.toInt - 0).toNat]? = some 54) hn2 (by decide)) (by decide) ?_
              refine lv_aload_n hx hb dX11_lived_84 rfl (lv_at hl 0 rfl) ?_
              refine lv_aload_n hx hb dX11_lived_85 rfl (lv_at hl 0 rfl) ?_
              refine va_get (D := (dC, dI)) (ci := 11) (v := .ref (qV0 0)) (C := RX11) (T := TX11) (N := 20) hx hb hts i_X11 hown hK hP 0 rfl rfl 14 (by decide) (hts _ wf_X11_53) (fun _ h9 => h9) rfl dX11_lived_86 ?_
              refine va_get (D := (dC, dI)) (ci := 0) (v := .int (gi SV0 7)) (C := RX0) (T := TX0) (N := 10) hx hb hts i_X0 hown hK hP 1 rfl rfl 7 (by decide) (hts _ wf_X11_401) (fun _ h9 => h9) rfl dX11_lived_89 ?_
              obtain ⟨z5, hg, hf⟩ := tc_bi hf
              refine tc_iV (As := [.int (gi SV0 7)]) (rest := []) (b := qC 0) (wc := w11 ca qC (rC3) (rC4) (rC6) (rC7) (rC10) (rC11) (rC12) (.ref (qV0 0)) (rC15) (rC17) (rC18) (rC19) SC) (wr := w0 ca qV0 (rV00) (rV01) SV0) X hP hD hS (mX11_answer hg) okX11_answer wl_X11_182 wi_X11_answer ws_X11_X11_answer_X11_answer ⟨rfl, rfl, Nat.le_of_ble_eq_true rfl, Nat.le_of_ble_eq_true rfl⟩ 11 0 rfl rfl [0] [1, 2] ⟨rfl, rfl, rfl, rfl, by decide⟩ rfl hl.1 (Nat.le_of_ble_eq_true rfl) dX11_lived_92 (fun H locs hP hD hS => ?_)
              have hP := hP.sub (ws' := (w11 ca qC (rC3) (rC4) (rC6) (rC7) (rC10) (rC11) (rC12) (.ref (qV0 0)) (rC15) (rC17) (rC18) (rC19) z5.2 ++ w0 ca qV0 (rV00) (rV01) SV0)) [2, 0, 1] rfl
              have hD := hD.sub (ws' := (w11 ca qC (rC3) (rC4) (rC6) (rC7) (rC10) (rC11) (rC12) (.ref (qV0 0)) (rC15) (rC17) (rC18) (rC19) z5.2 ++ w0 ca qV0 (rV00) (rV01) SV0)) [2, 0, 1] rfl rfl
              obtain rfl := Option.some.inj hf
              exact tc_ri X hP hD hS rfl dX11_lived_95 rfl rfl
            · have hf := tc_neg hn2 hf
              by_cases hn3 : a1 = (3 : Int32)
              · have hf := tc_pos hn3 hf
                refine lv_tableIn (off := 66) (tgt := 96) hx hb dX11_lived_30 (tc_sw (P := fun y => ¬ y.toInt < 0) hn3 (by decide)) (tc_sw (P := fun y => ¬ 3 < y.toInt) hn3 (by decide)) (tc_sw (P := fun y => (#[30, 42, 54, 66] : Array Int)[(y.toInt - 0).toNat]? = some 66) hn3 (by decide)) (by decide) ?_
                refine lv_aload_n hx hb dX11_lived_96 rfl (lv_at hl 0 rfl) ?_
                refine lv_aload_n hx hb dX11_lived_97 rfl (lv_at hl 0 rfl) ?_
                refine va_get (D := (dC, dI)) (ci := 11) (v := .ref (qV0 0)) (C := RX11) (T := TX11) (N := 20) hx hb hts i_X11 hown hK hP 0 rfl rfl 14 (by decide) (hts _ wf_X11_53) (fun _ h9 => h9) rfl dX11_lived_98 ?_
                refine va_get (D := (dC, dI)) (ci := 0) (v := .int (gi SV0 8)) (C := RX0) (T := TX0) (N := 10) hx hb hts i_X0 hown hK hP 1 rfl rfl 8 (by decide) (hts _ wf_X11_404) (fun _ h9 => h9) rfl dX11_lived_101 ?_
                obtain ⟨z6, hg, hf⟩ := tc_bi hf
                refine tc_iV (As := [.int (gi SV0 8)]) (rest := []) (b := qC 0) (wc := w11 ca qC (rC3) (rC4) (rC6) (rC7) (rC10) (rC11) (rC12) (.ref (qV0 0)) (rC15) (rC17) (rC18) (rC19) SC) (wr := w0 ca qV0 (rV00) (rV01) SV0) X hP hD hS (mX11_answer hg) okX11_answer wl_X11_182 wi_X11_answer ws_X11_X11_answer_X11_answer ⟨rfl, rfl, Nat.le_of_ble_eq_true rfl, Nat.le_of_ble_eq_true rfl⟩ 11 0 rfl rfl [0] [1, 2] ⟨rfl, rfl, rfl, rfl, by decide⟩ rfl hl.1 (Nat.le_of_ble_eq_true rfl) dX11_lived_104 (fun H locs hP hD hS => ?_)
                have hP := hP.sub (ws' := (w11 ca qC (rC3) (rC4) (rC6) (rC7) (rC10) (rC11) (rC12) (.ref (qV0 0)) (rC15) (rC17) (rC18) (rC19) z6.2 ++ w0 ca qV0 (rV00) (rV01) SV0)) [2, 0, 1] rfl
                have hD := hD.sub (ws' := (w11 ca qC (rC3) (rC4) (rC6) (rC7) (rC10) (rC11) (rC12) (.ref (qV0 0)) (rC15) (rC17) (rC18) (rC19) z6.2 ++ w0 ca qV0 (rV00) (rV01) SV0)) [2, 0, 1] rfl rfl
                obtain rfl := Option.some.inj hf
                exact tc_ri X hP hD hS rfl dX11_lived_107 rfl rfl
              · have hf := tc_neg hn3 hf
                have hout : (a1).toInt < 0 ∨ 3 < (a1).toInt := by
                  have e0 := tc_ne hn0
                  have e1 := tc_ne hn1
                  have e2 := tc_ne hn2
                  have e3 := tc_ne hn3
                  simp only [show ((0 : Int32)).toInt = 0 from by decide, show ((1 : Int32)).toInt = 1 from by decide, show ((2 : Int32)).toInt = 2 from by decide, show ((3 : Int32)).toInt = 3 from by decide] at e0 e1 e2 e3
                  omega
                refine lv_tableOut (tgt := 108) hx hb dX11_lived_30 hout (by decide) ?_
                refine lv_aload_n hx hb dX11_lived_108 rfl (lv_at hl 0 rfl) ?_
                refine lv_aload_n hx hb dX11_lived_109 rfl (lv_at hl 0 rfl) ?_
                refine va_get (D := (dC, dI)) (ci := 11) (v := .ref (qV0 0)) (C := RX11) (T := TX11) (N := 20) hx hb hts i_X11 hown hK hP 0 rfl rfl 14 (by decide) (hts _ wf_X11_53) (fun _ h9 => h9) rfl dX11_lived_110 ?_
                refine va_get (D := (dC, dI)) (ci := 0) (v := .int (gi SV0 9)) (C := RX0) (T := TX0) (N := 10) hx hb hts i_X0 hown hK hP 1 rfl rfl 9 (by decide) (hts _ wf_X11_407) (fun _ h9 => h9) rfl dX11_lived_113 ?_
                obtain ⟨z2, hg, hf⟩ := tc_bi hf
                refine tc_iV (As := [.int (gi SV0 9)]) (rest := []) (b := qC 0) (wc := w11 ca qC (rC3) (rC4) (rC6) (rC7) (rC10) (rC11) (rC12) (.ref (qV0 0)) (rC15) (rC17) (rC18) (rC19) SC) (wr := w0 ca qV0 (rV00) (rV01) SV0) X hP hD hS (mX11_answer hg) okX11_answer wl_X11_182 wi_X11_answer ws_X11_X11_answer_X11_answer ⟨rfl, rfl, Nat.le_of_ble_eq_true rfl, Nat.le_of_ble_eq_true rfl⟩ 11 0 rfl rfl [0] [1, 2] ⟨rfl, rfl, rfl, rfl, by decide⟩ rfl hl.1 (Nat.le_of_ble_eq_true rfl) dX11_lived_116 (fun H locs hP hD hS => ?_)
                have hP := hP.sub (ws' := (w11 ca qC (rC3) (rC4) (rC6) (rC7) (rC10) (rC11) (rC12) (.ref (qV0 0)) (rC15) (rC17) (rC18) (rC19) z2.2 ++ w0 ca qV0 (rV00) (rV01) SV0)) [2, 0, 1] rfl
                have hD := hD.sub (ws' := (w11 ca qC (rC3) (rC4) (rC6) (rC7) (rC10) (rC11) (rC12) (.ref (qV0 0)) (rC15) (rC17) (rC18) (rC19) z2.2 ++ w0 ca qV0 (rV00) (rV01) SV0)) [2, 0, 1] rfl rfl
                obtain rfl := Option.some.inj hf
                exact tc_ri X hP hD hS rfl dX11_lived_119 rfl rfl
      · have hf := tc_pos hc hf
        refine lv_aload_n hx hb dX11_lived_22 rfl (lv_at hl 0 rfl) ?_
        refine lv_bipush (v := (8 : Int32)) hx hb dX11_lived_23 (by decide) ?_
        obtain ⟨z7, hg, hf⟩ := tc_bi hf
        refine tc_iV (As := [.int ((8 : Int32))]) (rest := []) (b := qC 0) (wc := w11 ca qC (rC3) (rC4) (rC6) (rC7) (rC10) (rC11) (rC12) (.ref (qV0 0)) (rC15) (rC17) (rC18) (rC19) SC) (wr := w0 ca qV0 (rV00) (rV01) SV0) X hP hD hS (mX11_refuse hg) okX11_refuse wl_X11_121 wi_X11_refuse ws_X11_X11_refuse_X11_refuse ⟨rfl, rfl, Nat.le_of_ble_eq_true rfl, Nat.le_of_ble_eq_true rfl⟩ 11 0 rfl rfl [0] [1, 2] ⟨rfl, rfl, rfl, rfl, by decide⟩ rfl hl.1 (Nat.le_of_ble_eq_true rfl) dX11_lived_25 (fun H locs hP hD hS => ?_)
        have hP := hP.sub (ws' := (w11 ca qC (rC3) (rC4) (rC6) (rC7) (rC10) (rC11) (rC12) (.ref (qV0 0)) (rC15) (rC17) (rC18) (rC19) z7.2 ++ w0 ca qV0 (rV00) (rV01) SV0)) [2, 0, 1] rfl
        have hD := hD.sub (ws' := (w11 ca qC (rC3) (rC4) (rC6) (rC7) (rC10) (rC11) (rC12) (.ref (qV0 0)) (rC15) (rC17) (rC18) (rC19) z7.2 ++ w0 ca qV0 (rV00) (rV01) SV0)) [2, 0, 1] rfl rfl
        obtain rfl := Option.some.inj hf
        exact tc_ri X hP hD hS rfl dX11_lived_28 rfl rfl
    · have hf := tc_neg hc hf
      exact tX11_lived_9 X z SV0 SC hf _ _ _ hP hD hS (lv_sub hl [0] rfl)
theorem pm_14 (m0 m1 m2 m3 m4 m5 m6 : va_W) : List.Perm (m0 ++ m1 ++ m2 ++ m3 ++ m4 ++ m5 ++ m6) ((m1 ++ m2 ++ m3 ++ m4 ++ m5 ++ m6) ++ (m0)) := by
  have h := tc_flat (tc_pk [m0] [m2, m3, m4, m5, m6] m1 (tc_pk [m0] [m3, m4, m5, m6] m2 (tc_pk [m0] [m4, m5, m6] m3 (tc_pk [m0] [m5, m6] m4 (tc_pk [m0] [m6] m5 (tc_pk [m0] [] m6 (tc_pk [] [] m0 (List.Perm.refl _))))))) : List.Perm [m0, m1, m2, m3, m4, m5, m6] [m1, m2, m3, m4, m5, m6, m0])
  simpa [List.append_assoc] using h
theorem pm_15 (m0 m1 m2 m3 m4 m5 m6 : va_W) : List.Perm ((m1 ++ m2 ++ m3 ++ m4 ++ m5 ++ m6) ++ (m0)) (m0 ++ m1 ++ m2 ++ m3 ++ m4 ++ m5 ++ m6) := by
  have h := tc_flat (tc_pk [m1, m2, m3, m4, m5, m6] [] m0 (tc_pk [] [m2, m3, m4, m5, m6] m1 (tc_pk [] [m3, m4, m5, m6] m2 (tc_pk [] [m4, m5, m6] m3 (tc_pk [] [m5, m6] m4 (tc_pk [] [m6] m5 (tc_pk [] [] m6 (List.Perm.refl _))))))) : List.Perm [m1, m2, m3, m4, m5, m6, m0] [m0, m1, m2, m3, m4, m5, m6])
  simpa [List.append_assoc] using h
theorem pm_16 (m0 m1 m2 m3 m4 m5 m6 : va_W) : List.Perm (m0 ++ m1 ++ m2 ++ m3 ++ m4 ++ m5 ++ m6) ((m0 ++ m1 ++ m3 ++ m4 ++ m6) ++ (m5 ++ m2)) := by
  have h := tc_flat (tc_pk [] [m1, m2, m3, m4, m5, m6] m0 (tc_pk [] [m2, m3, m4, m5, m6] m1 (tc_pk [m2] [m4, m5, m6] m3 (tc_pk [m2] [m5, m6] m4 (tc_pk [m2, m5] [] m6 (tc_pk [m2] [] m5 (tc_pk [] [] m2 (List.Perm.refl _))))))) : List.Perm [m0, m1, m2, m3, m4, m5, m6] [m0, m1, m3, m4, m6, m5, m2])
  simpa [List.append_assoc] using h
theorem pm_17 (m0 m1 m2 m3 m4 m5 m6 : va_W) : List.Perm ((m0 ++ m1 ++ m3 ++ m4 ++ m6) ++ (m5 ++ m2)) (m0 ++ m1 ++ m2 ++ m3 ++ m4 ++ m5 ++ m6) := by
  have h := tc_flat (tc_pk [] [m1, m3, m4, m6, m5, m2] m0 (tc_pk [] [m3, m4, m6, m5, m2] m1 (tc_pk [m3, m4, m6, m5] [] m2 (tc_pk [] [m4, m6, m5] m3 (tc_pk [] [m6, m5] m4 (tc_pk [m6] [] m5 (tc_pk [] [] m6 (List.Perm.refl _))))))) : List.Perm [m0, m1, m3, m4, m6, m5, m2] [m0, m1, m2, m3, m4, m5, m6])
  simpa [List.append_assoc] using h
theorem pm_18 (m0 m1 m2 m3 m4 m5 m6 : va_W) : List.Perm (m0 ++ m1 ++ m2 ++ m3 ++ m4 ++ m5 ++ m6) ((m0 ++ m1 ++ m2 ++ m4) ++ (m6 ++ m5 ++ m3)) := by
  have h := tc_flat (tc_pk [] [m1, m2, m3, m4, m5, m6] m0 (tc_pk [] [m2, m3, m4, m5, m6] m1 (tc_pk [] [m3, m4, m5, m6] m2 (tc_pk [m3] [m5, m6] m4 (tc_pk [m3, m5] [] m6 (tc_pk [m3] [] m5 (tc_pk [] [] m3 (List.Perm.refl _))))))) : List.Perm [m0, m1, m2, m3, m4, m5, m6] [m0, m1, m2, m4, m6, m5, m3])
  simpa [List.append_assoc] using h
theorem pm_19 (m0 m1 m2 m3 m4 m5 m6 : va_W) : List.Perm ((m0 ++ m1 ++ m2 ++ m4) ++ (m6 ++ m5 ++ m3)) (m0 ++ m1 ++ m2 ++ m3 ++ m4 ++ m5 ++ m6) := by
  have h := tc_flat (tc_pk [] [m1, m2, m4, m6, m5, m3] m0 (tc_pk [] [m2, m4, m6, m5, m3] m1 (tc_pk [] [m4, m6, m5, m3] m2 (tc_pk [m4, m6, m5] [] m3 (tc_pk [] [m6, m5] m4 (tc_pk [m6] [] m5 (tc_pk [] [] m6 (List.Perm.refl _))))))) : List.Perm [m0, m1, m2, m4, m6, m5, m3] [m0, m1, m2, m3, m4, m5, m6])
  simpa [List.append_assoc] using h
theorem pm_20 (m0 m1 m2 m3 m4 m5 m6 : va_W) : List.Perm (m0 ++ m1 ++ m2 ++ m3 ++ m4 ++ m5 ++ m6) ((m0 ++ m1 ++ m2 ++ m3 ++ m4 ++ m6) ++ (m5)) := by
  have h := tc_flat (tc_pk [] [m1, m2, m3, m4, m5, m6] m0 (tc_pk [] [m2, m3, m4, m5, m6] m1 (tc_pk [] [m3, m4, m5, m6] m2 (tc_pk [] [m4, m5, m6] m3 (tc_pk [] [m5, m6] m4 (tc_pk [m5] [] m6 (tc_pk [] [] m5 (List.Perm.refl _))))))) : List.Perm [m0, m1, m2, m3, m4, m5, m6] [m0, m1, m2, m3, m4, m6, m5])
  simpa [List.append_assoc] using h
theorem pm_21 (m0 m1 m2 m3 m4 m5 m6 : va_W) : List.Perm ((m0 ++ m1 ++ m2 ++ m3 ++ m4 ++ m6) ++ (m5)) (m0 ++ m1 ++ m2 ++ m3 ++ m4 ++ m5 ++ m6) := by
  have h := tc_flat (tc_pk [] [m1, m2, m3, m4, m6, m5] m0 (tc_pk [] [m2, m3, m4, m6, m5] m1 (tc_pk [] [m3, m4, m6, m5] m2 (tc_pk [] [m4, m6, m5] m3 (tc_pk [] [m6, m5] m4 (tc_pk [m6] [] m5 (tc_pk [] [] m6 (List.Perm.refl _))))))) : List.Perm [m0, m1, m2, m3, m4, m6, m5] [m0, m1, m2, m3, m4, m5, m6])
  simpa [List.append_assoc] using h
def fX11_mean_26  (SP0 : ms_T) (ST0 : ms_T) (SE0 : ms_T) (SP1 : ms_T)  (SC : ms_T) (ST1 : ms_T) (SV1 : ms_T) : Option (Int32 × ms_T × ms_T × ms_T) :=
  (fX11_deny SC (5 : Int32)).bind fun z1 =>
  if z1.1 &&& 1 = z1.1 then
    some (z1.1, z1.2, ST1, SV1)
  else none
def fX11_mean_57_1  (SP0 : ms_T) (ST0 : ms_T) (SE0 : ms_T) (SP1 : ms_T)  : Nat → ms_T → ms_T → ms_T → Int32 → Int32 → Int32 → Int32 → Option (Int32 × ms_T × ms_T × ms_T)
  | 0, _, _, _, _, _, _, _ => none
  | n + 1, SC, ST1, SV1, v1, v2, v3, v4 =>
    if v2 ≤ v4 then
      (fX11_tell SC v3.toInt64 v2.toInt64).bind fun z6 =>
      if z6.1 &&& 1 = z6.1 then
        some (z6.1, z6.2, ST1, SV1)
      else none
    else
      (fX7_copyFrom ST1 ST0).bind fun z7 =>
      (fX0_run SV1 z7 SE0 (v1 + v4)).bind fun z8 =>
      (fX7_allHeights z8.2).bind fun z9 =>
      fX11_mean_57_1 SP0 ST0 SE0 SP1 n SC z8.2 z8.1 v1 v2 (v3 + z9) (v4 + (1 : Int32))
def fX11_mean_57  (SP0 : ms_T) (ST0 : ms_T) (SE0 : ms_T) (SP1 : ms_T)  : Nat → ms_T → ms_T → ms_T → Int32 → Int32 → Int32 → Int32 → Option (Int32 × ms_T × ms_T × ms_T)
  | 0, _, _, _, _, _, _, _ => none
  | n + 1, SC, ST1, SV1, v1, v2, v3, v4 =>
    if v2 ≤ v4 then
      (fX11_tell SC v3.toInt64 v2.toInt64).bind fun z2 =>
      if z2.1 &&& 1 = z2.1 then
        some (z2.1, z2.2, ST1, SV1)
      else none
    else
      (fX7_copyFrom ST1 ST0).bind fun z3 =>
      (fX0_run SV1 z3 SE0 (v1 + v4)).bind fun z4 =>
      (fX7_allHeights z4.2).bind fun z5 =>
      fX11_mean_57_1 SP0 ST0 SE0 SP1 FU SC z4.2 z4.1 v1 v2 (v3 + z5) (v4 + (1 : Int32))
def fX11_mean  (SC : ms_T) (SP0 : ms_T) (ST0 : ms_T) (SE0 : ms_T) (SP1 : ms_T) (ST1 : ms_T) (SV1 : ms_T) (a1 : Int32) (a2 : Int32) : Option (Int32 × ms_T × ms_T × ms_T) :=
  if a1 < 0 then
    fX11_mean_26 SP0 ST0 SE0 SP1 SC ST1 SV1
  else
    if a2 < (1 : Int32) then
      fX11_mean_26 SP0 ST0 SE0 SP1 SC ST1 SV1
    else
      if (20 : Int32) < a2 then
        fX11_mean_26 SP0 ST0 SE0 SP1 SC ST1 SV1
      else
        if a1 ≤ (((9999 : Int32) - a2) + (1 : Int32)) then
          if (gi SE0 0) = 0 then
            (fX11_deny SC (8 : Int32)).bind fun z10 =>
            if z10.1 &&& 1 = z10.1 then
              some (z10.1, z10.2, ST1, SV1)
            else none
          else
            fX11_mean_57 SP0 ST0 SE0 SP1 FU SC ST1 SV1 a1 a2 (0 : Int32) (0 : Int32)
        else
          fX11_mean_26 SP0 ST0 SE0 SP1 SC ST1 SV1
abbrev rmX11_mean : Room := { frames := 9, cells := 0, slots := 0, locals := 421 }
theorem okX11_mean : tc_ok yX11_mean cX11_mean 5 (some .boolean) 2 := ⟨wc_X11_mean, wn_X11, by decide, by decide, by decide +kernel⟩
set_option maxRecDepth 20000 in
theorem tX11_mean_26 {qC : Nat → Nat} {qP0 : Nat → Nat} {qT0 : Nat → Nat} {qE0 : Nat → Nat} {qP1 : Nat → Nat} {qT1 : Nat → Nat} {qV1 : Nat → Nat} {rC3 : Value} {rC4 : Value} {rC6 : Value} {rC7 : Value} {rC12 : Value} {rC14 : Value} {rC17 : Value} {rC18 : Value} {rC19 : Value} {rP11 : Value} {rV10 : Value} {rV11 : Value} (X : tc_X dC dI ca A RX11 cX11_mean 5 (some .boolean) p s m args meth c) (z : Int32 × ms_T × ms_T × ms_T)  (SP0 : ms_T) (ST0 : ms_T) (SE0 : ms_T) (SP1 : ms_T)   : ∀ (SC : ms_T) (ST1 : ms_T) (SV1 : ms_T), fX11_mean_26 SP0 ST0 SE0 SP1 SC ST1 SV1 = some z → ∀ (H : Heap) (locs : List Loc) (ls : Array Slot), va_P (dC, dI) classes (w11 ca qC (rC3) (rC4) (rC6) (rC7) (.ref (qP0 0)) (.ref (qP1 0)) (rC12) (rC14) (.ref (qV1 0)) (rC17) (rC18) (rC19) SC ++ w6 ca qP0 (.ref (qT0 0)) (.ref (qE0 0)) SP0 ++ w7 ca qT0 ST0 ++ w1 ca qE0 SE0 ++ w6 ca qP1 (.ref (qT1 0)) (rP11) SP1 ++ w7 ca qT1 ST1 ++ w0 ca qV1 (rV10) (rV11) SV1) H → va_D A (w11 ca qC (rC3) (rC4) (rC6) (rC7) (.ref (qP0 0)) (.ref (qP1 0)) (rC12) (rC14) (.ref (qV1 0)) (rC17) (rC18) (rC19) SC ++ w6 ca qP0 (.ref (qT0 0)) (.ref (qE0 0)) SP0 ++ w7 ca qT0 ST0 ++ w1 ca qE0 SE0 ++ w6 ca qP1 (.ref (qT1 0)) (rP11) SP1 ++ w7 ca qT1 ST1 ++ w0 ca qV1 (rV10) (rV11) SV1) → va_S A s.heap H locs → lv_has ls 5 [(0, .ref (qC 0))] → W p l e rmX11_mean s m args below meth c H locs 0 0 (MQ below (tc_QIx dC dI ca A (fun u => (w11 ca qC (rC3) (rC4) (rC6) (rC7) (.ref (qP0 0)) (.ref (qP1 0)) (rC12) (rC14) (.ref (qV1 0)) (rC17) (rC18) (rC19) z.2.1 ++ w6 ca qP0 (.ref (qT0 0)) (.ref (qE0 0)) SP0 ++ w7 ca qT0 ST0 ++ w1 ca qE0 SE0 ++ w6 ca qP1 (.ref (qT1 0)) (rP11) SP1 ++ w7 ca qT1 z.2.2.1 ++ w0 ca qV1 (u 0) (u 1) z.2.2.2)) (z.1)) args s 0 0 A) (F0 m 26 ls []) := by
  obtain ⟨hx, hb, hr, hml, hown, hts, hlk, hK, hA, hG⟩ := id X
  intro SC ST1 SV1 hf H locs ls hP hD hS hl
  unfold fX11_mean_26 at hf
  refine lv_aload_n hx hb dX11_mean_26 rfl (lv_at hl 0 rfl) ?_
  refine lv_iconst (v := (5 : Int32)) hx hb dX11_mean_27 (by decide) ?_
  obtain ⟨z1, hg, hf⟩ := tc_bi hf
  refine tc_iVp (As := [.int ((5 : Int32))]) (rest := []) (b := qC 0) (wc := w11 ca qC (rC3) (rC4) (rC6) (rC7) (.ref (qP0 0)) (.ref (qP1 0)) (rC12) (rC14) (.ref (qV1 0)) (rC17) (rC18) (rC19) SC) (wr := w6 ca qP0 (.ref (qT0 0)) (.ref (qE0 0)) SP0 ++ w7 ca qT0 ST0 ++ w1 ca qE0 SE0 ++ w6 ca qP1 (.ref (qT1 0)) (rP11) SP1 ++ w7 ca qT1 ST1 ++ w0 ca qV1 (rV10) (rV11) SV1) X hP hD hS (mX11_deny hg) okX11_deny wl_X11_102 wi_X11_deny ws_X11_X11_deny_X11_deny ⟨rfl, rfl, Nat.le_of_ble_eq_true rfl, Nat.le_of_ble_eq_true rfl⟩ 11 0 rfl rfl (pm_14 (w11 ca qC (rC3) (rC4) (rC6) (rC7) (.ref (qP0 0)) (.ref (qP1 0)) (rC12) (rC14) (.ref (qV1 0)) (rC17) (rC18) (rC19) SC) (w6 ca qP0 (.ref (qT0 0)) (.ref (qE0 0)) SP0) (w7 ca qT0 ST0) (w1 ca qE0 SE0) (w6 ca qP1 (.ref (qT1 0)) (rP11) SP1) (w7 ca qT1 ST1) (w0 ca qV1 (rV10) (rV11) SV1)) rfl hl.1 (Nat.le_of_ble_eq_true rfl) dX11_mean_28 (fun H locs hP hD hS => ?_)
  have hP := tc_Pm (pm_15 (w11 ca qC (rC3) (rC4) (rC6) (rC7) (.ref (qP0 0)) (.ref (qP1 0)) (rC12) (rC14) (.ref (qV1 0)) (rC17) (rC18) (rC19) z1.2) (w6 ca qP0 (.ref (qT0 0)) (.ref (qE0 0)) SP0) (w7 ca qT0 ST0) (w1 ca qE0 SE0) (w6 ca qP1 (.ref (qT1 0)) (rP11) SP1) (w7 ca qT1 ST1) (w0 ca qV1 (rV10) (rV11) SV1)) hP
  have hD := tc_Dm (pm_15 (w11 ca qC (rC3) (rC4) (rC6) (rC7) (.ref (qP0 0)) (.ref (qP1 0)) (rC12) (rC14) (.ref (qV1 0)) (rC17) (rC18) (rC19) z1.2) (w6 ca qP0 (.ref (qT0 0)) (.ref (qE0 0)) SP0) (w7 ca qT0 ST0) (w1 ca qE0 SE0) (w6 ca qP1 (.ref (qT1 0)) (rP11) SP1) (w7 ca qT1 ST1) (w0 ca qV1 (rV10) (rV11) SV1)) hD
  obtain ⟨hz1, hf⟩ := tc_ck hf
  obtain rfl := Option.some.inj hf
  exact tc_rzx X hP hD hS rfl dX11_mean_31 hz1 (fun i => if i = 0 then rV10 else rV11) rfl rfl
set_option maxRecDepth 20000 in
theorem tX11_mean_57_1 {qC : Nat → Nat} {qP0 : Nat → Nat} {qT0 : Nat → Nat} {qE0 : Nat → Nat} {qP1 : Nat → Nat} {qT1 : Nat → Nat} {qV1 : Nat → Nat} {rC3 : Value} {rC4 : Value} {rC6 : Value} {rC7 : Value} {rC12 : Value} {rC14 : Value} {rC17 : Value} {rC18 : Value} {rC19 : Value} {rP11 : Value} (X : tc_X dC dI ca A RX11 cX11_mean 5 (some .boolean) p s m args meth c) (z : Int32 × ms_T × ms_T × ms_T)  (SP0 : ms_T) (ST0 : ms_T) (SE0 : ms_T) (SP1 : ms_T)   : ∀ n : Nat, ∀ (SC : ms_T) (ST1 : ms_T) (SV1 : ms_T) (v1 : Int32) (v2 : Int32) (v3 : Int32) (v4 : Int32), fX11_mean_57_1 SP0 ST0 SE0 SP1 n SC ST1 SV1 v1 v2 v3 v4 = some z → ∀ (H : Heap) (locs : List Loc) (ls : Array Slot), va_P (dC, dI) classes (w11 ca qC (rC3) (rC4) (rC6) (rC7) (.ref (qP0 0)) (.ref (qP1 0)) (rC12) (rC14) (.ref (qV1 0)) (rC17) (rC18) (rC19) SC ++ w6 ca qP0 (.ref (qT0 0)) (.ref (qE0 0)) SP0 ++ w7 ca qT0 ST0 ++ w1 ca qE0 SE0 ++ w6 ca qP1 (.ref (qT1 0)) (rP11) SP1 ++ w7 ca qT1 ST1 ++ w0 ca qV1 (.ref (qT1 0)) (.ref (qE0 0)) SV1) H → va_D A (w11 ca qC (rC3) (rC4) (rC6) (rC7) (.ref (qP0 0)) (.ref (qP1 0)) (rC12) (rC14) (.ref (qV1 0)) (rC17) (rC18) (rC19) SC ++ w6 ca qP0 (.ref (qT0 0)) (.ref (qE0 0)) SP0 ++ w7 ca qT0 ST0 ++ w1 ca qE0 SE0 ++ w6 ca qP1 (.ref (qT1 0)) (rP11) SP1 ++ w7 ca qT1 ST1 ++ w0 ca qV1 (.ref (qT1 0)) (.ref (qE0 0)) SV1) → va_S A s.heap H locs → lv_has ls 5 [(0, .ref (qC 0)), (1, .int (v1)), (2, .int (v2)), (3, .int (v3)), (4, .int (v4))] → W p l e rmX11_mean s m args below meth c H locs 0 0 (MQ below (tc_QIx dC dI ca A (fun u => (w11 ca qC (rC3) (rC4) (rC6) (rC7) (.ref (qP0 0)) (.ref (qP1 0)) (rC12) (rC14) (.ref (qV1 0)) (rC17) (rC18) (rC19) z.2.1 ++ w6 ca qP0 (.ref (qT0 0)) (.ref (qE0 0)) SP0 ++ w7 ca qT0 ST0 ++ w1 ca qE0 SE0 ++ w6 ca qP1 (.ref (qT1 0)) (rP11) SP1 ++ w7 ca qT1 z.2.2.1 ++ w0 ca qV1 (u 0) (u 1) z.2.2.2)) (z.1)) args s 0 0 A) (F0 m 57 ls []) := by
  obtain ⟨hx, hb, hr, hml, hown, hts, hlk, hK, hA, hG⟩ := id X
  intro n
  induction n with
  | zero => intro SC ST1 SV1 v1 v2 v3 v4 hf; exact absurd (show none = some z from hf) (fun h => by cases h)
  | succ n ih =>
    intro SC ST1 SV1 v1 v2 v3 v4 hf H locs ls hP hD hS hl
    rw [fX11_mean_57_1] at hf
    refine lv_iload hx hb dX11_mean_57 (lv_at hl 4 rfl) ?_
    refine lv_iload_n hx hb dX11_mean_59 rfl (lv_at hl 2 rfl) ?_
    refine lv_icmp_ge (tgt := 124) hx hb dX11_mean_60 (by decide) (fun hc => ?_) (fun hc => ?_)
    · have hf := tc_pos hc hf
      refine lv_aload_n hx hb dX11_mean_124 rfl (lv_at hl 0 rfl) ?_
      refine lv_iload_n hx hb dX11_mean_125 rfl (lv_at hl 3 rfl) ?_
      refine lv_i2l (v := v3.toInt64) hx hb dX11_mean_126 rfl ?_
      refine lv_iload_n hx hb dX11_mean_127 rfl (lv_at hl 2 rfl) ?_
      refine lv_i2l (v := v2.toInt64) hx hb dX11_mean_128 rfl ?_
      obtain ⟨z6, hg, hf⟩ := tc_bi hf
      refine tc_iVp (As := [.long (v3.toInt64), .long (v2.toInt64)]) (rest := []) (b := qC 0) (wc := w11 ca qC (rC3) (rC4) (rC6) (rC7) (.ref (qP0 0)) (.ref (qP1 0)) (rC12) (rC14) (.ref (qV1 0)) (rC17) (rC18) (rC19) SC) (wr := w6 ca qP0 (.ref (qT0 0)) (.ref (qE0 0)) SP0 ++ w7 ca qT0 ST0 ++ w1 ca qE0 SE0 ++ w6 ca qP1 (.ref (qT1 0)) (rP11) SP1 ++ w7 ca qT1 ST1 ++ w0 ca qV1 (.ref (qT1 0)) (.ref (qE0 0)) SV1) X hP hD hS (mX11_tell hg) okX11_tell wl_X11_328 wi_X11_tell ws_X11_X11_tell_X11_tell ⟨rfl, rfl, Nat.le_of_ble_eq_true rfl, Nat.le_of_ble_eq_true rfl⟩ 11 0 rfl rfl (pm_14 (w11 ca qC (rC3) (rC4) (rC6) (rC7) (.ref (qP0 0)) (.ref (qP1 0)) (rC12) (rC14) (.ref (qV1 0)) (rC17) (rC18) (rC19) SC) (w6 ca qP0 (.ref (qT0 0)) (.ref (qE0 0)) SP0) (w7 ca qT0 ST0) (w1 ca qE0 SE0) (w6 ca qP1 (.ref (qT1 0)) (rP11) SP1) (w7 ca qT1 ST1) (w0 ca qV1 (.ref (qT1 0)) (.ref (qE0 0)) SV1)) rfl hl.1 (Nat.le_of_ble_eq_true rfl) dX11_mean_129 (fun H locs hP hD hS => ?_)
      have hP := tc_Pm (pm_15 (w11 ca qC (rC3) (rC4) (rC6) (rC7) (.ref (qP0 0)) (.ref (qP1 0)) (rC12) (rC14) (.ref (qV1 0)) (rC17) (rC18) (rC19) z6.2) (w6 ca qP0 (.ref (qT0 0)) (.ref (qE0 0)) SP0) (w7 ca qT0 ST0) (w1 ca qE0 SE0) (w6 ca qP1 (.ref (qT1 0)) (rP11) SP1) (w7 ca qT1 ST1) (w0 ca qV1 (.ref (qT1 0)) (.ref (qE0 0)) SV1)) hP
      have hD := tc_Dm (pm_15 (w11 ca qC (rC3) (rC4) (rC6) (rC7) (.ref (qP0 0)) (.ref (qP1 0)) (rC12) (rC14) (.ref (qV1 0)) (rC17) (rC18) (rC19) z6.2) (w6 ca qP0 (.ref (qT0 0)) (.ref (qE0 0)) SP0) (w7 ca qT0 ST0) (w1 ca qE0 SE0) (w6 ca qP1 (.ref (qT1 0)) (rP11) SP1) (w7 ca qT1 ST1) (w0 ca qV1 (.ref (qT1 0)) (.ref (qE0 0)) SV1)) hD
      obtain ⟨hz1, hf⟩ := tc_ck hf
      obtain rfl := Option.some.inj hf
      exact tc_rzx X hP hD hS rfl dX11_mean_132 hz1 (fun i => if i = 0 then .ref (qT1 0) else .ref (qE0 0)) rfl rfl
    · have hf := tc_neg hc hf
      refine lv_aload_n hx hb dX11_mean_63 rfl (lv_at hl 0 rfl) ?_
      refine va_get (D := (dC, dI)) (ci := 11) (v := .ref (qP1 0)) (C := RX11) (T := TX11) (N := 20) hx hb hts i_X11 hown hK hP 0 rfl rfl 11 (by decide) (hts _ wf_X11_43) (fun _ h9 => h9) rfl dX11_mean_64 ?_
      refine va_get (D := (dC, dI)) (ci := 6) (v := .ref (qT1 0)) (C := RX6) (T := TX6) (N := 2) hx hb hts i_X6 hown hK hP 19 rfl rfl 0 (by decide) (hts _ wf_X11_152) (fun _ h9 => h9) rfl dX11_mean_67 ?_
      refine lv_aload_n hx hb dX11_mean_70 rfl (lv_at hl 0 rfl) ?_
      refine va_get (D := (dC, dI)) (ci := 11) (v := .ref (qP0 0)) (C := RX11) (T := TX11) (N := 20) hx hb hts i_X11 hown hK hP 0 rfl rfl 10 (by decide) (hts _ wf_X11_39) (fun _ h9 => h9) rfl dX11_mean_71 ?_
      refine va_get (D := (dC, dI)) (ci := 6) (v := .ref (qT0 0)) (C := RX6) (T := TX6) (N := 2) hx hb hts i_X6 hown hK hP 1 rfl rfl 0 (by decide) (hts _ wf_X11_152) (fun _ h9 => h9) rfl dX11_mean_74 ?_
      obtain ⟨z7, hg, hf⟩ := tc_bi hf
      refine tc_vVp (As := [.ref (qT0 0)]) (rest := []) (b := qT1 0) (wc := w7 ca qT1 ST1 ++ w7 ca qT0 ST0) (wr := w11 ca qC (rC3) (rC4) (rC6) (rC7) (.ref (qP0 0)) (.ref (qP1 0)) (rC12) (rC14) (.ref (qV1 0)) (rC17) (rC18) (rC19) SC ++ w6 ca qP0 (.ref (qT0 0)) (.ref (qE0 0)) SP0 ++ w1 ca qE0 SE0 ++ w6 ca qP1 (.ref (qT1 0)) (rP11) SP1 ++ w0 ca qV1 (.ref (qT1 0)) (.ref (qE0 0)) SV1) X hP hD hS (mX7_copyFrom hg) okX7_copyFrom wl_X11_164 wi_X7_copyFrom ws_X7_X7_copyFrom_X7_copyFrom ⟨rfl, rfl, Nat.le_of_ble_eq_true rfl, Nat.le_of_ble_eq_true rfl⟩ 7 0 rfl rfl (pm_16 (w11 ca qC (rC3) (rC4) (rC6) (rC7) (.ref (qP0 0)) (.ref (qP1 0)) (rC12) (rC14) (.ref (qV1 0)) (rC17) (rC18) (rC19) SC) (w6 ca qP0 (.ref (qT0 0)) (.ref (qE0 0)) SP0) (w7 ca qT0 ST0) (w1 ca qE0 SE0) (w6 ca qP1 (.ref (qT1 0)) (rP11) SP1) (w7 ca qT1 ST1) (w0 ca qV1 (.ref (qT1 0)) (.ref (qE0 0)) SV1)) rfl hl.1 (Nat.le_of_ble_eq_true rfl) dX11_mean_77 (fun H locs hP hD hS => ?_)
      have hP := tc_Pm (pm_17 (w11 ca qC (rC3) (rC4) (rC6) (rC7) (.ref (qP0 0)) (.ref (qP1 0)) (rC12) (rC14) (.ref (qV1 0)) (rC17) (rC18) (rC19) SC) (w6 ca qP0 (.ref (qT0 0)) (.ref (qE0 0)) SP0) (w7 ca qT0 ST0) (w1 ca qE0 SE0) (w6 ca qP1 (.ref (qT1 0)) (rP11) SP1) (w7 ca qT1 z7) (w0 ca qV1 (.ref (qT1 0)) (.ref (qE0 0)) SV1)) hP
      have hD := tc_Dm (pm_17 (w11 ca qC (rC3) (rC4) (rC6) (rC7) (.ref (qP0 0)) (.ref (qP1 0)) (rC12) (rC14) (.ref (qV1 0)) (rC17) (rC18) (rC19) SC) (w6 ca qP0 (.ref (qT0 0)) (.ref (qE0 0)) SP0) (w7 ca qT0 ST0) (w1 ca qE0 SE0) (w6 ca qP1 (.ref (qT1 0)) (rP11) SP1) (w7 ca qT1 z7) (w0 ca qV1 (.ref (qT1 0)) (.ref (qE0 0)) SV1)) hD
      refine lv_aload_n hx hb dX11_mean_80 rfl (lv_at hl 0 rfl) ?_
      refine va_get (D := (dC, dI)) (ci := 11) (v := .ref (qV1 0)) (C := RX11) (T := TX11) (N := 20) hx hb hts i_X11 hown hK hP 0 rfl rfl 15 (by decide) (hts _ wf_X11_57) (fun _ h9 => h9) rfl dX11_mean_81 ?_
      refine lv_aload_n hx hb dX11_mean_84 rfl (lv_at hl 0 rfl) ?_
      refine va_get (D := (dC, dI)) (ci := 11) (v := .ref (qP1 0)) (C := RX11) (T := TX11) (N := 20) hx hb hts i_X11 hown hK hP 0 rfl rfl 11 (by decide) (hts _ wf_X11_43) (fun _ h9 => h9) rfl dX11_mean_85 ?_
      refine va_get (D := (dC, dI)) (ci := 6) (v := .ref (qT1 0)) (C := RX6) (T := TX6) (N := 2) hx hb hts i_X6 hown hK hP 19 rfl rfl 0 (by decide) (hts _ wf_X11_152) (fun _ h9 => h9) rfl dX11_mean_88 ?_
      refine lv_aload_n hx hb dX11_mean_91 rfl (lv_at hl 0 rfl) ?_
      refine va_get (D := (dC, dI)) (ci := 11) (v := .ref (qP0 0)) (C := RX11) (T := TX11) (N := 20) hx hb hts i_X11 hown hK hP 0 rfl rfl 10 (by decide) (hts _ wf_X11_39) (fun _ h9 => h9) rfl dX11_mean_92 ?_
      refine va_get (D := (dC, dI)) (ci := 6) (v := .ref (qE0 0)) (C := RX6) (T := TX6) (N := 2) hx hb hts i_X6 hown hK hP 1 rfl rfl 1 (by decide) (hts _ wf_X11_170) (fun _ h9 => h9) rfl dX11_mean_95 ?_
      refine lv_iload_n hx hb dX11_mean_98 rfl (lv_at hl 1 rfl) ?_
      refine lv_iload hx hb dX11_mean_99 (lv_at hl 4 rfl) ?_
      refine lv_iadd hx hb dX11_mean_101 ?_
      obtain ⟨z8, hg, hf⟩ := tc_bi hf
      refine tc_vVp (As := [.ref (qT1 0), .ref (qE0 0), .int (v1 + v4)]) (rest := []) (b := qV1 0) (wc := w0 ca qV1 (.ref (qT1 0)) (.ref (qE0 0)) SV1 ++ w7 ca qT1 z7 ++ w1 ca qE0 SE0) (wr := w11 ca qC (rC3) (rC4) (rC6) (rC7) (.ref (qP0 0)) (.ref (qP1 0)) (rC12) (rC14) (.ref (qV1 0)) (rC17) (rC18) (rC19) SC ++ w6 ca qP0 (.ref (qT0 0)) (.ref (qE0 0)) SP0 ++ w7 ca qT0 ST0 ++ w6 ca qP1 (.ref (qT1 0)) (rP11) SP1) X hP hD hS (mX0_run hg) okX0_run wl_X11_389 wi_X0_run ws_X0_X0_run_X0_run ⟨rfl, rfl, Nat.le_of_ble_eq_true rfl, Nat.le_of_ble_eq_true rfl⟩ 0 0 rfl rfl (pm_18 (w11 ca qC (rC3) (rC4) (rC6) (rC7) (.ref (qP0 0)) (.ref (qP1 0)) (rC12) (rC14) (.ref (qV1 0)) (rC17) (rC18) (rC19) SC) (w6 ca qP0 (.ref (qT0 0)) (.ref (qE0 0)) SP0) (w7 ca qT0 ST0) (w1 ca qE0 SE0) (w6 ca qP1 (.ref (qT1 0)) (rP11) SP1) (w7 ca qT1 z7) (w0 ca qV1 (.ref (qT1 0)) (.ref (qE0 0)) SV1)) rfl hl.1 (Nat.le_of_ble_eq_true rfl) dX11_mean_102 (fun H locs hP hD hS => ?_)
      have hP := tc_Pm (pm_19 (w11 ca qC (rC3) (rC4) (rC6) (rC7) (.ref (qP0 0)) (.ref (qP1 0)) (rC12) (rC14) (.ref (qV1 0)) (rC17) (rC18) (rC19) SC) (w6 ca qP0 (.ref (qT0 0)) (.ref (qE0 0)) SP0) (w7 ca qT0 ST0) (w1 ca qE0 SE0) (w6 ca qP1 (.ref (qT1 0)) (rP11) SP1) (w7 ca qT1 z8.2) (w0 ca qV1 (.ref (qT1 0)) (.ref (qE0 0)) z8.1)) hP
      have hD := tc_Dm (pm_19 (w11 ca qC (rC3) (rC4) (rC6) (rC7) (.ref (qP0 0)) (.ref (qP1 0)) (rC12) (rC14) (.ref (qV1 0)) (rC17) (rC18) (rC19) SC) (w6 ca qP0 (.ref (qT0 0)) (.ref (qE0 0)) SP0) (w7 ca qT0 ST0) (w1 ca qE0 SE0) (w6 ca qP1 (.ref (qT1 0)) (rP11) SP1) (w7 ca qT1 z8.2) (w0 ca qV1 (.ref (qT1 0)) (.ref (qE0 0)) z8.1)) hD
      refine lv_iload_n hx hb dX11_mean_105 rfl (lv_at hl 3 rfl) ?_
      refine lv_aload_n hx hb dX11_mean_106 rfl (lv_at hl 0 rfl) ?_
      refine va_get (D := (dC, dI)) (ci := 11) (v := .ref (qP1 0)) (C := RX11) (T := TX11) (N := 20) hx hb hts i_X11 hown hK hP 0 rfl rfl 11 (by decide) (hts _ wf_X11_43) (fun _ h9 => h9) rfl dX11_mean_107 ?_
      refine va_get (D := (dC, dI)) (ci := 6) (v := .ref (qT1 0)) (C := RX6) (T := TX6) (N := 2) hx hb hts i_X6 hown hK hP 19 rfl rfl 0 (by decide) (hts _ wf_X11_152) (fun _ h9 => h9) rfl dX11_mean_110 ?_
      obtain ⟨z9, hg, hf⟩ := tc_bi hf
      refine tc_iVp (As := []) (rest := [.int (v3)]) (b := qT1 0) (wc := w7 ca qT1 z8.2) (wr := w11 ca qC (rC3) (rC4) (rC6) (rC7) (.ref (qP0 0)) (.ref (qP1 0)) (rC12) (rC14) (.ref (qV1 0)) (rC17) (rC18) (rC19) SC ++ w6 ca qP0 (.ref (qT0 0)) (.ref (qE0 0)) SP0 ++ w7 ca qT0 ST0 ++ w1 ca qE0 SE0 ++ w6 ca qP1 (.ref (qT1 0)) (rP11) SP1 ++ w0 ca qV1 (.ref (qT1 0)) (.ref (qE0 0)) z8.1) X hP hD hS (mX7_allHeights hg) okX7_allHeights wl_X11_410 wi_X7_allHeights ws_X7_X7_allHeights_X7_allHeights ⟨rfl, rfl, Nat.le_of_ble_eq_true rfl, Nat.le_of_ble_eq_true rfl⟩ 7 0 rfl rfl (pm_20 (w11 ca qC (rC3) (rC4) (rC6) (rC7) (.ref (qP0 0)) (.ref (qP1 0)) (rC12) (rC14) (.ref (qV1 0)) (rC17) (rC18) (rC19) SC) (w6 ca qP0 (.ref (qT0 0)) (.ref (qE0 0)) SP0) (w7 ca qT0 ST0) (w1 ca qE0 SE0) (w6 ca qP1 (.ref (qT1 0)) (rP11) SP1) (w7 ca qT1 z8.2) (w0 ca qV1 (.ref (qT1 0)) (.ref (qE0 0)) z8.1)) rfl hl.1 (Nat.le_of_ble_eq_true rfl) dX11_mean_113 (fun H locs hP hD hS => ?_)
      have hP := tc_Pm (pm_21 (w11 ca qC (rC3) (rC4) (rC6) (rC7) (.ref (qP0 0)) (.ref (qP1 0)) (rC12) (rC14) (.ref (qV1 0)) (rC17) (rC18) (rC19) SC) (w6 ca qP0 (.ref (qT0 0)) (.ref (qE0 0)) SP0) (w7 ca qT0 ST0) (w1 ca qE0 SE0) (w6 ca qP1 (.ref (qT1 0)) (rP11) SP1) (w7 ca qT1 z8.2) (w0 ca qV1 (.ref (qT1 0)) (.ref (qE0 0)) z8.1)) hP
      have hD := tc_Dm (pm_21 (w11 ca qC (rC3) (rC4) (rC6) (rC7) (.ref (qP0 0)) (.ref (qP1 0)) (rC12) (rC14) (.ref (qV1 0)) (rC17) (rC18) (rC19) SC) (w6 ca qP0 (.ref (qT0 0)) (.ref (qE0 0)) SP0) (w7 ca qT0 ST0) (w1 ca qE0 SE0) (w6 ca qP1 (.ref (qT1 0)) (rP11) SP1) (w7 ca qT1 z8.2) (w0 ca qV1 (.ref (qT1 0)) (.ref (qE0 0)) z8.1)) hD
      refine lv_iadd hx hb dX11_mean_116 ?_
      refine lv_istore_n (lv' := [(3, .int (v3 + z9)), (0, .ref (qC 0)), (1, .int (v1)), (2, .int (v2)), (4, .int (v4))]) hx hb dX11_mean_117 rfl hl (by decide) rfl (fun ls hl => ?_)
      refine lv_iinc (v := v4 + (1 : Int32)) (lv' := [(4, .int (v4 + (1 : Int32))), (3, .int (v3 + z9)), (0, .ref (qC 0)), (1, .int (v1)), (2, .int (v2))]) hx hb dX11_mean_118 hl (k := 4) rfl rfl (by decide) rfl (fun ls hl => ?_)
      refine lv_goto (tgt := 57) hx hb dX11_mean_121 (by decide) ?_
      exact ih SC z8.2 z8.1 v1 v2 (v3 + z9) (v4 + (1 : Int32)) hf _ _ _ hP hD hS (lv_sub hl [2, 3, 4, 1, 0] rfl)
set_option maxRecDepth 20000 in
theorem tX11_mean_57 {qC : Nat → Nat} {qP0 : Nat → Nat} {qT0 : Nat → Nat} {qE0 : Nat → Nat} {qP1 : Nat → Nat} {qT1 : Nat → Nat} {qV1 : Nat → Nat} {rC3 : Value} {rC4 : Value} {rC6 : Value} {rC7 : Value} {rC12 : Value} {rC14 : Value} {rC17 : Value} {rC18 : Value} {rC19 : Value} {rP11 : Value} {rV10 : Value} {rV11 : Value} (X : tc_X dC dI ca A RX11 cX11_mean 5 (some .boolean) p s m args meth c) (z : Int32 × ms_T × ms_T × ms_T)  (SP0 : ms_T) (ST0 : ms_T) (SE0 : ms_T) (SP1 : ms_T)   : ∀ n : Nat, ∀ (SC : ms_T) (ST1 : ms_T) (SV1 : ms_T) (v1 : Int32) (v2 : Int32) (v3 : Int32) (v4 : Int32), fX11_mean_57 SP0 ST0 SE0 SP1 n SC ST1 SV1 v1 v2 v3 v4 = some z → ∀ (H : Heap) (locs : List Loc) (ls : Array Slot), va_P (dC, dI) classes (w11 ca qC (rC3) (rC4) (rC6) (rC7) (.ref (qP0 0)) (.ref (qP1 0)) (rC12) (rC14) (.ref (qV1 0)) (rC17) (rC18) (rC19) SC ++ w6 ca qP0 (.ref (qT0 0)) (.ref (qE0 0)) SP0 ++ w7 ca qT0 ST0 ++ w1 ca qE0 SE0 ++ w6 ca qP1 (.ref (qT1 0)) (rP11) SP1 ++ w7 ca qT1 ST1 ++ w0 ca qV1 (rV10) (rV11) SV1) H → va_D A (w11 ca qC (rC3) (rC4) (rC6) (rC7) (.ref (qP0 0)) (.ref (qP1 0)) (rC12) (rC14) (.ref (qV1 0)) (rC17) (rC18) (rC19) SC ++ w6 ca qP0 (.ref (qT0 0)) (.ref (qE0 0)) SP0 ++ w7 ca qT0 ST0 ++ w1 ca qE0 SE0 ++ w6 ca qP1 (.ref (qT1 0)) (rP11) SP1 ++ w7 ca qT1 ST1 ++ w0 ca qV1 (rV10) (rV11) SV1) → va_S A s.heap H locs → lv_has ls 5 [(0, .ref (qC 0)), (1, .int (v1)), (2, .int (v2)), (3, .int (v3)), (4, .int (v4))] → W p l e rmX11_mean s m args below meth c H locs 0 0 (MQ below (tc_QIx dC dI ca A (fun u => (w11 ca qC (rC3) (rC4) (rC6) (rC7) (.ref (qP0 0)) (.ref (qP1 0)) (rC12) (rC14) (.ref (qV1 0)) (rC17) (rC18) (rC19) z.2.1 ++ w6 ca qP0 (.ref (qT0 0)) (.ref (qE0 0)) SP0 ++ w7 ca qT0 ST0 ++ w1 ca qE0 SE0 ++ w6 ca qP1 (.ref (qT1 0)) (rP11) SP1 ++ w7 ca qT1 z.2.2.1 ++ w0 ca qV1 (u 0) (u 1) z.2.2.2)) (z.1)) args s 0 0 A) (F0 m 57 ls []) := by
  obtain ⟨hx, hb, hr, hml, hown, hts, hlk, hK, hA, hG⟩ := id X
  intro n
  induction n with
  | zero => intro SC ST1 SV1 v1 v2 v3 v4 hf; exact absurd (show none = some z from hf) (fun h => by cases h)
  | succ n ih =>
    intro SC ST1 SV1 v1 v2 v3 v4 hf H locs ls hP hD hS hl
    rw [fX11_mean_57] at hf
    refine lv_iload hx hb dX11_mean_57 (lv_at hl 4 rfl) ?_
    refine lv_iload_n hx hb dX11_mean_59 rfl (lv_at hl 2 rfl) ?_
    refine lv_icmp_ge (tgt := 124) hx hb dX11_mean_60 (by decide) (fun hc => ?_) (fun hc => ?_)
    · have hf := tc_pos hc hf
      refine lv_aload_n hx hb dX11_mean_124 rfl (lv_at hl 0 rfl) ?_
      refine lv_iload_n hx hb dX11_mean_125 rfl (lv_at hl 3 rfl) ?_
      refine lv_i2l (v := v3.toInt64) hx hb dX11_mean_126 rfl ?_
      refine lv_iload_n hx hb dX11_mean_127 rfl (lv_at hl 2 rfl) ?_
      refine lv_i2l (v := v2.toInt64) hx hb dX11_mean_128 rfl ?_
      obtain ⟨z2, hg, hf⟩ := tc_bi hf
      refine tc_iVp (As := [.long (v3.toInt64), .long (v2.toInt64)]) (rest := []) (b := qC 0) (wc := w11 ca qC (rC3) (rC4) (rC6) (rC7) (.ref (qP0 0)) (.ref (qP1 0)) (rC12) (rC14) (.ref (qV1 0)) (rC17) (rC18) (rC19) SC) (wr := w6 ca qP0 (.ref (qT0 0)) (.ref (qE0 0)) SP0 ++ w7 ca qT0 ST0 ++ w1 ca qE0 SE0 ++ w6 ca qP1 (.ref (qT1 0)) (rP11) SP1 ++ w7 ca qT1 ST1 ++ w0 ca qV1 (rV10) (rV11) SV1) X hP hD hS (mX11_tell hg) okX11_tell wl_X11_328 wi_X11_tell ws_X11_X11_tell_X11_tell ⟨rfl, rfl, Nat.le_of_ble_eq_true rfl, Nat.le_of_ble_eq_true rfl⟩ 11 0 rfl rfl (pm_14 (w11 ca qC (rC3) (rC4) (rC6) (rC7) (.ref (qP0 0)) (.ref (qP1 0)) (rC12) (rC14) (.ref (qV1 0)) (rC17) (rC18) (rC19) SC) (w6 ca qP0 (.ref (qT0 0)) (.ref (qE0 0)) SP0) (w7 ca qT0 ST0) (w1 ca qE0 SE0) (w6 ca qP1 (.ref (qT1 0)) (rP11) SP1) (w7 ca qT1 ST1) (w0 ca qV1 (rV10) (rV11) SV1)) rfl hl.1 (Nat.le_of_ble_eq_true rfl) dX11_mean_129 (fun H locs hP hD hS => ?_)
      have hP := tc_Pm (pm_15 (w11 ca qC (rC3) (rC4) (rC6) (rC7) (.ref (qP0 0)) (.ref (qP1 0)) (rC12) (rC14) (.ref (qV1 0)) (rC17) (rC18) (rC19) z2.2) (w6 ca qP0 (.ref (qT0 0)) (.ref (qE0 0)) SP0) (w7 ca qT0 ST0) (w1 ca qE0 SE0) (w6 ca qP1 (.ref (qT1 0)) (rP11) SP1) (w7 ca qT1 ST1) (w0 ca qV1 (rV10) (rV11) SV1)) hP
      have hD := tc_Dm (pm_15 (w11 ca qC (rC3) (rC4) (rC6) (rC7) (.ref (qP0 0)) (.ref (qP1 0)) (rC12) (rC14) (.ref (qV1 0)) (rC17) (rC18) (rC19) z2.2) (w6 ca qP0 (.ref (qT0 0)) (.ref (qE0 0)) SP0) (w7 ca qT0 ST0) (w1 ca qE0 SE0) (w6 ca qP1 (.ref (qT1 0)) (rP11) SP1) (w7 ca qT1 ST1) (w0 ca qV1 (rV10) (rV11) SV1)) hD
      obtain ⟨hz1, hf⟩ := tc_ck hf
      obtain rfl := Option.some.inj hf
      exact tc_rzx X hP hD hS rfl dX11_mean_132 hz1 (fun i => if i = 0 then rV10 else rV11) rfl rfl
    · have hf := tc_neg hc hf
      refine lv_aload_n hx hb dX11_mean_63 rfl (lv_at hl 0 rfl) ?_
      refine va_get (D := (dC, dI)) (ci := 11) (v := .ref (qP1 0)) (C := RX11) (T := TX11) (N := 20) hx hb hts i_X11 hown hK hP 0 rfl rfl 11 (by decide) (hts _ wf_X11_43) (fun _ h9 => h9) rfl dX11_mean_64 ?_
      refine va_get (D := (dC, dI)) (ci := 6) (v := .ref (qT1 0)) (C := RX6) (T := TX6) (N := 2) hx hb hts i_X6 hown hK hP 19 rfl rfl 0 (by decide) (hts _ wf_X11_152) (fun _ h9 => h9) rfl dX11_mean_67 ?_
      refine lv_aload_n hx hb dX11_mean_70 rfl (lv_at hl 0 rfl) ?_
      refine va_get (D := (dC, dI)) (ci := 11) (v := .ref (qP0 0)) (C := RX11) (T := TX11) (N := 20) hx hb hts i_X11 hown hK hP 0 rfl rfl 10 (by decide) (hts _ wf_X11_39) (fun _ h9 => h9) rfl dX11_mean_71 ?_
      refine va_get (D := (dC, dI)) (ci := 6) (v := .ref (qT0 0)) (C := RX6) (T := TX6) (N := 2) hx hb hts i_X6 hown hK hP 1 rfl rfl 0 (by decide) (hts _ wf_X11_152) (fun _ h9 => h9) rfl dX11_mean_74 ?_
      obtain ⟨z3, hg, hf⟩ := tc_bi hf
      refine tc_vVp (As := [.ref (qT0 0)]) (rest := []) (b := qT1 0) (wc := w7 ca qT1 ST1 ++ w7 ca qT0 ST0) (wr := w11 ca qC (rC3) (rC4) (rC6) (rC7) (.ref (qP0 0)) (.ref (qP1 0)) (rC12) (rC14) (.ref (qV1 0)) (rC17) (rC18) (rC19) SC ++ w6 ca qP0 (.ref (qT0 0)) (.ref (qE0 0)) SP0 ++ w1 ca qE0 SE0 ++ w6 ca qP1 (.ref (qT1 0)) (rP11) SP1 ++ w0 ca qV1 (rV10) (rV11) SV1) X hP hD hS (mX7_copyFrom hg) okX7_copyFrom wl_X11_164 wi_X7_copyFrom ws_X7_X7_copyFrom_X7_copyFrom ⟨rfl, rfl, Nat.le_of_ble_eq_true rfl, Nat.le_of_ble_eq_true rfl⟩ 7 0 rfl rfl (pm_16 (w11 ca qC (rC3) (rC4) (rC6) (rC7) (.ref (qP0 0)) (.ref (qP1 0)) (rC12) (rC14) (.ref (qV1 0)) (rC17) (rC18) (rC19) SC) (w6 ca qP0 (.ref (qT0 0)) (.ref (qE0 0)) SP0) (w7 ca qT0 ST0) (w1 ca qE0 SE0) (w6 ca qP1 (.ref (qT1 0)) (rP11) SP1) (w7 ca qT1 ST1) (w0 ca qV1 (rV10) (rV11) SV1)) rfl hl.1 (Nat.le_of_ble_eq_true rfl) dX11_mean_77 (fun H locs hP hD hS => ?_)
      have hP := tc_Pm (pm_17 (w11 ca qC (rC3) (rC4) (rC6) (rC7) (.ref (qP0 0)) (.ref (qP1 0)) (rC12) (rC14) (.ref (qV1 0)) (rC17) (rC18) (rC19) SC) (w6 ca qP0 (.ref (qT0 0)) (.ref (qE0 0)) SP0) (w7 ca qT0 ST0) (w1 ca qE0 SE0) (w6 ca qP1 (.ref (qT1 0)) (rP11) SP1) (w7 ca qT1 z3) (w0 ca qV1 (rV10) (rV11) SV1)) hP
      have hD := tc_Dm (pm_17 (w11 ca qC (rC3) (rC4) (rC6) (rC7) (.ref (qP0 0)) (.ref (qP1 0)) (rC12) (rC14) (.ref (qV1 0)) (rC17) (rC18) (rC19) SC) (w6 ca qP0 (.ref (qT0 0)) (.ref (qE0 0)) SP0) (w7 ca qT0 ST0) (w1 ca qE0 SE0) (w6 ca qP1 (.ref (qT1 0)) (rP11) SP1) (w7 ca qT1 z3) (w0 ca qV1 (rV10) (rV11) SV1)) hD
      refine lv_aload_n hx hb dX11_mean_80 rfl (lv_at hl 0 rfl) ?_
      refine va_get (D := (dC, dI)) (ci := 11) (v := .ref (qV1 0)) (C := RX11) (T := TX11) (N := 20) hx hb hts i_X11 hown hK hP 0 rfl rfl 15 (by decide) (hts _ wf_X11_57) (fun _ h9 => h9) rfl dX11_mean_81 ?_
      refine lv_aload_n hx hb dX11_mean_84 rfl (lv_at hl 0 rfl) ?_
      refine va_get (D := (dC, dI)) (ci := 11) (v := .ref (qP1 0)) (C := RX11) (T := TX11) (N := 20) hx hb hts i_X11 hown hK hP 0 rfl rfl 11 (by decide) (hts _ wf_X11_43) (fun _ h9 => h9) rfl dX11_mean_85 ?_
      refine va_get (D := (dC, dI)) (ci := 6) (v := .ref (qT1 0)) (C := RX6) (T := TX6) (N := 2) hx hb hts i_X6 hown hK hP 19 rfl rfl 0 (by decide) (hts _ wf_X11_152) (fun _ h9 => h9) rfl dX11_mean_88 ?_
      refine lv_aload_n hx hb dX11_mean_91 rfl (lv_at hl 0 rfl) ?_
      refine va_get (D := (dC, dI)) (ci := 11) (v := .ref (qP0 0)) (C := RX11) (T := TX11) (N := 20) hx hb hts i_X11 hown hK hP 0 rfl rfl 10 (by decide) (hts _ wf_X11_39) (fun _ h9 => h9) rfl dX11_mean_92 ?_
      refine va_get (D := (dC, dI)) (ci := 6) (v := .ref (qE0 0)) (C := RX6) (T := TX6) (N := 2) hx hb hts i_X6 hown hK hP 1 rfl rfl 1 (by decide) (hts _ wf_X11_170) (fun _ h9 => h9) rfl dX11_mean_95 ?_
      refine lv_iload_n hx hb dX11_mean_98 rfl (lv_at hl 1 rfl) ?_
      refine lv_iload hx hb dX11_mean_99 (lv_at hl 4 rfl) ?_
      refine lv_iadd hx hb dX11_mean_101 ?_
      obtain ⟨z4, hg, hf⟩ := tc_bi hf
      refine tc_vVp (As := [.ref (qT1 0), .ref (qE0 0), .int (v1 + v4)]) (rest := []) (b := qV1 0) (wc := w0 ca qV1 (rV10) (rV11) SV1 ++ w7 ca qT1 z3 ++ w1 ca qE0 SE0) (wr := w11 ca qC (rC3) (rC4) (rC6) (rC7) (.ref (qP0 0)) (.ref (qP1 0)) (rC12) (rC14) (.ref (qV1 0)) (rC17) (rC18) (rC19) SC ++ w6 ca qP0 (.ref (qT0 0)) (.ref (qE0 0)) SP0 ++ w7 ca qT0 ST0 ++ w6 ca qP1 (.ref (qT1 0)) (rP11) SP1) X hP hD hS (mX0_run hg) okX0_run wl_X11_389 wi_X0_run ws_X0_X0_run_X0_run ⟨rfl, rfl, Nat.le_of_ble_eq_true rfl, Nat.le_of_ble_eq_true rfl⟩ 0 0 rfl rfl (pm_18 (w11 ca qC (rC3) (rC4) (rC6) (rC7) (.ref (qP0 0)) (.ref (qP1 0)) (rC12) (rC14) (.ref (qV1 0)) (rC17) (rC18) (rC19) SC) (w6 ca qP0 (.ref (qT0 0)) (.ref (qE0 0)) SP0) (w7 ca qT0 ST0) (w1 ca qE0 SE0) (w6 ca qP1 (.ref (qT1 0)) (rP11) SP1) (w7 ca qT1 z3) (w0 ca qV1 (rV10) (rV11) SV1)) rfl hl.1 (Nat.le_of_ble_eq_true rfl) dX11_mean_102 (fun H locs hP hD hS => ?_)
      have hP := tc_Pm (pm_19 (w11 ca qC (rC3) (rC4) (rC6) (rC7) (.ref (qP0 0)) (.ref (qP1 0)) (rC12) (rC14) (.ref (qV1 0)) (rC17) (rC18) (rC19) SC) (w6 ca qP0 (.ref (qT0 0)) (.ref (qE0 0)) SP0) (w7 ca qT0 ST0) (w1 ca qE0 SE0) (w6 ca qP1 (.ref (qT1 0)) (rP11) SP1) (w7 ca qT1 z4.2) (w0 ca qV1 (.ref (qT1 0)) (.ref (qE0 0)) z4.1)) hP
      have hD := tc_Dm (pm_19 (w11 ca qC (rC3) (rC4) (rC6) (rC7) (.ref (qP0 0)) (.ref (qP1 0)) (rC12) (rC14) (.ref (qV1 0)) (rC17) (rC18) (rC19) SC) (w6 ca qP0 (.ref (qT0 0)) (.ref (qE0 0)) SP0) (w7 ca qT0 ST0) (w1 ca qE0 SE0) (w6 ca qP1 (.ref (qT1 0)) (rP11) SP1) (w7 ca qT1 z4.2) (w0 ca qV1 (.ref (qT1 0)) (.ref (qE0 0)) z4.1)) hD
      refine lv_iload_n hx hb dX11_mean_105 rfl (lv_at hl 3 rfl) ?_
      refine lv_aload_n hx hb dX11_mean_106 rfl (lv_at hl 0 rfl) ?_
      refine va_get (D := (dC, dI)) (ci := 11) (v := .ref (qP1 0)) (C := RX11) (T := TX11) (N := 20) hx hb hts i_X11 hown hK hP 0 rfl rfl 11 (by decide) (hts _ wf_X11_43) (fun _ h9 => h9) rfl dX11_mean_107 ?_
      refine va_get (D := (dC, dI)) (ci := 6) (v := .ref (qT1 0)) (C := RX6) (T := TX6) (N := 2) hx hb hts i_X6 hown hK hP 19 rfl rfl 0 (by decide) (hts _ wf_X11_152) (fun _ h9 => h9) rfl dX11_mean_110 ?_
      obtain ⟨z5, hg, hf⟩ := tc_bi hf
      refine tc_iVp (As := []) (rest := [.int (v3)]) (b := qT1 0) (wc := w7 ca qT1 z4.2) (wr := w11 ca qC (rC3) (rC4) (rC6) (rC7) (.ref (qP0 0)) (.ref (qP1 0)) (rC12) (rC14) (.ref (qV1 0)) (rC17) (rC18) (rC19) SC ++ w6 ca qP0 (.ref (qT0 0)) (.ref (qE0 0)) SP0 ++ w7 ca qT0 ST0 ++ w1 ca qE0 SE0 ++ w6 ca qP1 (.ref (qT1 0)) (rP11) SP1 ++ w0 ca qV1 (.ref (qT1 0)) (.ref (qE0 0)) z4.1) X hP hD hS (mX7_allHeights hg) okX7_allHeights wl_X11_410 wi_X7_allHeights ws_X7_X7_allHeights_X7_allHeights ⟨rfl, rfl, Nat.le_of_ble_eq_true rfl, Nat.le_of_ble_eq_true rfl⟩ 7 0 rfl rfl (pm_20 (w11 ca qC (rC3) (rC4) (rC6) (rC7) (.ref (qP0 0)) (.ref (qP1 0)) (rC12) (rC14) (.ref (qV1 0)) (rC17) (rC18) (rC19) SC) (w6 ca qP0 (.ref (qT0 0)) (.ref (qE0 0)) SP0) (w7 ca qT0 ST0) (w1 ca qE0 SE0) (w6 ca qP1 (.ref (qT1 0)) (rP11) SP1) (w7 ca qT1 z4.2) (w0 ca qV1 (.ref (qT1 0)) (.ref (qE0 0)) z4.1)) rfl hl.1 (Nat.le_of_ble_eq_true rfl) dX11_mean_113 (fun H locs hP hD hS => ?_)
      have hP := tc_Pm (pm_21 (w11 ca qC (rC3) (rC4) (rC6) (rC7) (.ref (qP0 0)) (.ref (qP1 0)) (rC12) (rC14) (.ref (qV1 0)) (rC17) (rC18) (rC19) SC) (w6 ca qP0 (.ref (qT0 0)) (.ref (qE0 0)) SP0) (w7 ca qT0 ST0) (w1 ca qE0 SE0) (w6 ca qP1 (.ref (qT1 0)) (rP11) SP1) (w7 ca qT1 z4.2) (w0 ca qV1 (.ref (qT1 0)) (.ref (qE0 0)) z4.1)) hP
      have hD := tc_Dm (pm_21 (w11 ca qC (rC3) (rC4) (rC6) (rC7) (.ref (qP0 0)) (.ref (qP1 0)) (rC12) (rC14) (.ref (qV1 0)) (rC17) (rC18) (rC19) SC) (w6 ca qP0 (.ref (qT0 0)) (.ref (qE0 0)) SP0) (w7 ca qT0 ST0) (w1 ca qE0 SE0) (w6 ca qP1 (.ref (qT1 0)) (rP11) SP1) (w7 ca qT1 z4.2) (w0 ca qV1 (.ref (qT1 0)) (.ref (qE0 0)) z4.1)) hD
      refine lv_iadd hx hb dX11_mean_116 ?_
      refine lv_istore_n (lv' := [(3, .int (v3 + z5)), (0, .ref (qC 0)), (1, .int (v1)), (2, .int (v2)), (4, .int (v4))]) hx hb dX11_mean_117 rfl hl (by decide) rfl (fun ls hl => ?_)
      refine lv_iinc (v := v4 + (1 : Int32)) (lv' := [(4, .int (v4 + (1 : Int32))), (3, .int (v3 + z5)), (0, .ref (qC 0)), (1, .int (v1)), (2, .int (v2))]) hx hb dX11_mean_118 hl (k := 4) rfl rfl (by decide) rfl (fun ls hl => ?_)
      refine lv_goto (tgt := 57) hx hb dX11_mean_121 (by decide) ?_
      exact tX11_mean_57_1 X z SP0 ST0 SE0 SP1 FU SC z4.2 z4.1 v1 v2 (v3 + z5) (v4 + (1 : Int32)) hf _ _ _ hP hD hS (lv_sub hl [2, 3, 4, 1, 0] rfl)
set_option maxRecDepth 20000 in
theorem mX11_mean {qC : Nat → Nat} {qP0 : Nat → Nat} {qT0 : Nat → Nat} {qE0 : Nat → Nat} {qP1 : Nat → Nat} {qT1 : Nat → Nat} {qV1 : Nat → Nat} {rC3 : Value} {rC4 : Value} {rC6 : Value} {rC7 : Value} {rC12 : Value} {rC14 : Value} {rC17 : Value} {rC18 : Value} {rC19 : Value} {rP11 : Value} {rV10 : Value} {rV11 : Value} {SC : ms_T} {SP0 : ms_T} {ST0 : ms_T} {SE0 : ms_T} {SP1 : ms_T} {ST1 : ms_T} {SV1 : ms_T} {a1 : Int32} {a2 : Int32} {z : Int32 × ms_T × ms_T × ms_T}  (hf : fX11_mean SC SP0 ST0 SE0 SP1 ST1 SV1 a1 a2 = some z) : tc_MIx l dC dI ca yX11_mean cX11_mean 5 (some .boolean) rmX11_mean [.ref (qC 0), .int (a1), .int (a2)] (w11 ca qC (rC3) (rC4) (rC6) (rC7) (.ref (qP0 0)) (.ref (qP1 0)) (rC12) (rC14) (.ref (qV1 0)) (rC17) (rC18) (rC19) SC ++ w6 ca qP0 (.ref (qT0 0)) (.ref (qE0 0)) SP0 ++ w7 ca qT0 ST0 ++ w1 ca qE0 SE0 ++ w6 ca qP1 (.ref (qT1 0)) (rP11) SP1 ++ w7 ca qT1 ST1 ++ w0 ca qV1 (rV10) (rV11) SV1) (fun u => (w11 ca qC (rC3) (rC4) (rC6) (rC7) (.ref (qP0 0)) (.ref (qP1 0)) (rC12) (rC14) (.ref (qV1 0)) (rC17) (rC18) (rC19) z.2.1 ++ w6 ca qP0 (.ref (qT0 0)) (.ref (qE0 0)) SP0 ++ w7 ca qT0 ST0 ++ w1 ca qE0 SE0 ++ w6 ca qP1 (.ref (qT1 0)) (rP11) SP1 ++ w7 ca qT1 z.2.2.1 ++ w0 ca qV1 (u 0) (u 1) z.2.2.2)) (z.1) := by
  refine tc_metIx (own := RX11) (by decide) rfl ?_ (Nat.le_of_ble_eq_true rfl)
  intro p e s m below meth c A X hP hD hS ls hl
  obtain ⟨hx, hb, hr, hml, hown, hts, hlk, hK, hA, hG⟩ := id X
  unfold fX11_mean at hf
  have hl : lv_has ls 5 [(0, .ref (qC 0)), (1, .int (a1)), (2, .int (a2))] := hl
  refine lv_iload_n hx hb dX11_mean_0 rfl (lv_at hl 1 rfl) ?_
  refine lv_if_lt (tgt := 26) hx hb dX11_mean_1 (by decide) (fun hc => ?_) (fun hc => ?_)
  · have hf := tc_pos hc hf
    exact tX11_mean_26 X z SP0 ST0 SE0 SP1 SC ST1 SV1 hf _ _ _ hP hD hS (lv_sub hl [0] rfl)
  · have hf := tc_neg hc hf
    refine lv_iload_n hx hb dX11_mean_4 rfl (lv_at hl 2 rfl) ?_
    refine lv_iconst (v := (1 : Int32)) hx hb dX11_mean_5 (by decide) ?_
    refine lv_icmp_lt (tgt := 26) hx hb dX11_mean_6 (by decide) (fun hc => ?_) (fun hc => ?_)
    · have hf := tc_pos hc hf
      exact tX11_mean_26 X z SP0 ST0 SE0 SP1 SC ST1 SV1 hf _ _ _ hP hD hS (lv_sub hl [0] rfl)
    · have hf := tc_neg hc hf
      refine lv_iload_n hx hb dX11_mean_9 rfl (lv_at hl 2 rfl) ?_
      refine lv_bipush (v := (20 : Int32)) hx hb dX11_mean_10 (by decide) ?_
      refine lv_icmp_gt (tgt := 26) hx hb dX11_mean_12 (by decide) (fun hc => ?_) (fun hc => ?_)
      · have hf := tc_pos hc hf
        exact tX11_mean_26 X z SP0 ST0 SE0 SP1 SC ST1 SV1 hf _ _ _ hP hD hS (lv_sub hl [0] rfl)
      · have hf := tc_neg hc hf
        refine lv_iload_n hx hb dX11_mean_15 rfl (lv_at hl 1 rfl) ?_
        refine lv_sipush (v := (9999 : Int32)) hx hb dX11_mean_16 (by decide) ?_
        refine lv_iload_n hx hb dX11_mean_19 rfl (lv_at hl 2 rfl) ?_
        refine lv_isub hx hb dX11_mean_20 ?_
        refine lv_iconst (v := (1 : Int32)) hx hb dX11_mean_21 (by decide) ?_
        refine lv_iadd hx hb dX11_mean_22 ?_
        refine lv_icmp_le (tgt := 32) hx hb dX11_mean_23 (by decide) (fun hc => ?_) (fun hc => ?_)
        · have hf := tc_pos hc hf
          refine lv_aload_n hx hb dX11_mean_32 rfl (lv_at hl 0 rfl) ?_
          refine va_get (D := (dC, dI)) (ci := 11) (v := .ref (qP0 0)) (C := RX11) (T := TX11) (N := 20) hx hb hts i_X11 hown hK hP 0 rfl rfl 10 (by decide) (hts _ wf_X11_39) (fun _ h9 => h9) rfl dX11_mean_33 ?_
          refine va_get (D := (dC, dI)) (ci := 6) (v := .ref (qE0 0)) (C := RX6) (T := TX6) (N := 2) hx hb hts i_X6 hown hK hP 1 rfl rfl 1 (by decide) (hts _ wf_X11_170) (fun _ h9 => h9) rfl dX11_mean_36 ?_
          refine va_get (D := (dC, dI)) (ci := 1) (v := .int (gi SE0 0)) (C := RX1) (T := TX1) (N := 8) hx hb hts i_X1 hown hK hP 13 rfl rfl 0 (by decide) (hts _ wf_X11_385) (fun _ h9 => h9) rfl dX11_mean_39 ?_
          refine lv_if_ne (tgt := 52) hx hb dX11_mean_42 (by decide) (fun hc => ?_) (fun hc => ?_)
          · have hf := tc_neg hc hf
            refine lv_iconst (v := (0 : Int32)) hx hb dX11_mean_52 (by decide) ?_
            refine lv_istore_n (lv' := [(3, .int ((0 : Int32))), (0, .ref (qC 0)), (1, .int (a1)), (2, .int (a2))]) hx hb dX11_mean_53 rfl hl (by decide) rfl (fun ls hl => ?_)
            refine lv_iconst (v := (0 : Int32)) hx hb dX11_mean_54 (by decide) ?_
            refine lv_istore (lv' := [(4, .int ((0 : Int32))), (3, .int ((0 : Int32))), (0, .ref (qC 0)), (1, .int (a1)), (2, .int (a2))]) hx hb dX11_mean_55 hl (by decide) rfl (fun ls hl => ?_)
            exact tX11_mean_57 X z SP0 ST0 SE0 SP1 FU SC ST1 SV1 a1 a2 (0 : Int32) (0 : Int32) hf _ _ _ hP hD hS (lv_sub hl [2, 3, 4, 1, 0] rfl)
          · have hf := tc_pos hc hf
            refine lv_aload_n hx hb dX11_mean_45 rfl (lv_at hl 0 rfl) ?_
            refine lv_bipush (v := (8 : Int32)) hx hb dX11_mean_46 (by decide) ?_
            obtain ⟨z10, hg, hf⟩ := tc_bi hf
            refine tc_iVp (As := [.int ((8 : Int32))]) (rest := []) (b := qC 0) (wc := w11 ca qC (rC3) (rC4) (rC6) (rC7) (.ref (qP0 0)) (.ref (qP1 0)) (rC12) (rC14) (.ref (qV1 0)) (rC17) (rC18) (rC19) SC) (wr := w6 ca qP0 (.ref (qT0 0)) (.ref (qE0 0)) SP0 ++ w7 ca qT0 ST0 ++ w1 ca qE0 SE0 ++ w6 ca qP1 (.ref (qT1 0)) (rP11) SP1 ++ w7 ca qT1 ST1 ++ w0 ca qV1 (rV10) (rV11) SV1) X hP hD hS (mX11_deny hg) okX11_deny wl_X11_102 wi_X11_deny ws_X11_X11_deny_X11_deny ⟨rfl, rfl, Nat.le_of_ble_eq_true rfl, Nat.le_of_ble_eq_true rfl⟩ 11 0 rfl rfl (pm_14 (w11 ca qC (rC3) (rC4) (rC6) (rC7) (.ref (qP0 0)) (.ref (qP1 0)) (rC12) (rC14) (.ref (qV1 0)) (rC17) (rC18) (rC19) SC) (w6 ca qP0 (.ref (qT0 0)) (.ref (qE0 0)) SP0) (w7 ca qT0 ST0) (w1 ca qE0 SE0) (w6 ca qP1 (.ref (qT1 0)) (rP11) SP1) (w7 ca qT1 ST1) (w0 ca qV1 (rV10) (rV11) SV1)) rfl hl.1 (Nat.le_of_ble_eq_true rfl) dX11_mean_48 (fun H locs hP hD hS => ?_)
            have hP := tc_Pm (pm_15 (w11 ca qC (rC3) (rC4) (rC6) (rC7) (.ref (qP0 0)) (.ref (qP1 0)) (rC12) (rC14) (.ref (qV1 0)) (rC17) (rC18) (rC19) z10.2) (w6 ca qP0 (.ref (qT0 0)) (.ref (qE0 0)) SP0) (w7 ca qT0 ST0) (w1 ca qE0 SE0) (w6 ca qP1 (.ref (qT1 0)) (rP11) SP1) (w7 ca qT1 ST1) (w0 ca qV1 (rV10) (rV11) SV1)) hP
            have hD := tc_Dm (pm_15 (w11 ca qC (rC3) (rC4) (rC6) (rC7) (.ref (qP0 0)) (.ref (qP1 0)) (rC12) (rC14) (.ref (qV1 0)) (rC17) (rC18) (rC19) z10.2) (w6 ca qP0 (.ref (qT0 0)) (.ref (qE0 0)) SP0) (w7 ca qT0 ST0) (w1 ca qE0 SE0) (w6 ca qP1 (.ref (qT1 0)) (rP11) SP1) (w7 ca qT1 ST1) (w0 ca qV1 (rV10) (rV11) SV1)) hD
            obtain ⟨hz1, hf⟩ := tc_ck hf
            obtain rfl := Option.some.inj hf
            exact tc_rzx X hP hD hS rfl dX11_mean_51 hz1 (fun i => if i = 0 then rV10 else rV11) rfl rfl
        · have hf := tc_neg hc hf
          exact tX11_mean_26 X z SP0 ST0 SE0 SP1 SC ST1 SV1 hf _ _ _ hP hD hS (lv_sub hl [0] rfl)
theorem pm_22 (m0 m1 m2 m3 m4 m5 m6 m7 m8 m9 m10 m11 m12 m13 : va_W) : List.Perm (m0 ++ m1 ++ m2 ++ m3 ++ m4 ++ m5 ++ m6 ++ m7 ++ m8 ++ m9 ++ m10 ++ m11 ++ m12 ++ m13) ((m0 ++ m4 ++ m8 ++ m9 ++ m10 ++ m11 ++ m12 ++ m13) ++ (m5 ++ m6 ++ m7 ++ m1 ++ m2 ++ m3)) := by
  have h := tc_flat (tc_pk [] [m1, m2, m3, m4, m5, m6, m7, m8, m9, m10, m11, m12, m13] m0 (tc_pk [m1, m2, m3] [m5, m6, m7, m8, m9, m10, m11, m12, m13] m4 (tc_pk [m1, m2, m3, m5, m6, m7] [m9, m10, m11, m12, m13] m8 (tc_pk [m1, m2, m3, m5, m6, m7] [m10, m11, m12, m13] m9 (tc_pk [m1, m2, m3, m5, m6, m7] [m11, m12, m13] m10 (tc_pk [m1, m2, m3, m5, m6, m7] [m12, m13] m11 (tc_pk [m1, m2, m3, m5, m6, m7] [m13] m12 (tc_pk [m1, m2, m3, m5, m6, m7] [] m13 (tc_pk [m1, m2, m3] [m6, m7] m5 (tc_pk [m1, m2, m3] [m7] m6 (tc_pk [m1, m2, m3] [] m7 (tc_pk [] [m2, m3] m1 (tc_pk [] [m3] m2 (tc_pk [] [] m3 (List.Perm.refl _)))))))))))))) : List.Perm [m0, m1, m2, m3, m4, m5, m6, m7, m8, m9, m10, m11, m12, m13] [m0, m4, m8, m9, m10, m11, m12, m13, m5, m6, m7, m1, m2, m3])
  simpa [List.append_assoc] using h
theorem pm_23 (m0 m1 m2 m3 m4 m5 m6 m7 m8 m9 m10 m11 m12 m13 : va_W) : List.Perm ((m0 ++ m4 ++ m8 ++ m9 ++ m10 ++ m11 ++ m12 ++ m13) ++ (m5 ++ m6 ++ m7 ++ m1 ++ m2 ++ m3)) (m0 ++ m1 ++ m2 ++ m3 ++ m4 ++ m5 ++ m6 ++ m7 ++ m8 ++ m9 ++ m10 ++ m11 ++ m12 ++ m13) := by
  have h := tc_flat (tc_pk [] [m4, m8, m9, m10, m11, m12, m13, m5, m6, m7, m1, m2, m3] m0 (tc_pk [m4, m8, m9, m10, m11, m12, m13, m5, m6, m7] [m2, m3] m1 (tc_pk [m4, m8, m9, m10, m11, m12, m13, m5, m6, m7] [m3] m2 (tc_pk [m4, m8, m9, m10, m11, m12, m13, m5, m6, m7] [] m3 (tc_pk [] [m8, m9, m10, m11, m12, m13, m5, m6, m7] m4 (tc_pk [m8, m9, m10, m11, m12, m13] [m6, m7] m5 (tc_pk [m8, m9, m10, m11, m12, m13] [m7] m6 (tc_pk [m8, m9, m10, m11, m12, m13] [] m7 (tc_pk [] [m9, m10, m11, m12, m13] m8 (tc_pk [] [m10, m11, m12, m13] m9 (tc_pk [] [m11, m12, m13] m10 (tc_pk [] [m12, m13] m11 (tc_pk [] [m13] m12 (tc_pk [] [] m13 (List.Perm.refl _)))))))))))))) : List.Perm [m0, m4, m8, m9, m10, m11, m12, m13, m5, m6, m7, m1, m2, m3] [m0, m1, m2, m3, m4, m5, m6, m7, m8, m9, m10, m11, m12, m13])
  simpa [List.append_assoc] using h
theorem pwm30_0_13 (ca : Nat → ClassId) (q0 q1 q2 q3 q4 q5 q6 q7 q8 q9 q10 q11 q12 q13 : Nat → Nat) (r4_0 : Nat → Option Nat) (r0_3 r0_4 r0_6 r0_7 r0_10 r0_11 r0_12 r0_14 r0_15 r0_17 r0_18 r0_19 r1_0 r1_1 r5_0 r5_1 r8_0 r8_1 r11_0 r11_1 : Value) (S0 S1 S2 S3 S5 S6 S7 S8 S9 S10 S11 S12 S13 : ms_T) (v : Int32) : (w11 ca q0 r0_3 r0_4 r0_6 r0_7 r0_10 r0_11 r0_12 r0_14 r0_15 r0_17 r0_18 r0_19 S0 ++ w6 ca q1 r1_0 r1_1 S1 ++ w7 ca q2 S2 ++ w1 ca q3 S3 ++ wLS ca q4 r4_0 ++ w6 ca q5 r5_0 r5_1 S5 ++ w7 ca q6 S6 ++ w1 ca q7 S7 ++ w6 ca q8 r8_0 r8_1 S8 ++ w7 ca q9 S9 ++ w1 ca q10 S10 ++ w6 ca q11 r11_0 r11_1 S11 ++ w7 ca q12 S12 ++ w1 ca q13 S13 : va_W).set 0 (q0 0, .inr (11, List.set (.int (gi S0 0) :: .long (gl S0 1) :: .long (gl S0 2) :: r0_3 :: r0_4 :: .int (gi S0 5) :: r0_6 :: r0_7 :: .int (gi S0 8) :: .int (gi S0 9) :: r0_10 :: r0_11 :: r0_12 :: .int (gi S0 13) :: r0_14 :: r0_15 :: .int (gi S0 16) :: r0_17 :: r0_18 :: r0_19 :: []) 13 (.int v))) = w11 ca q0 r0_3 r0_4 r0_6 r0_7 r0_10 r0_11 r0_12 r0_14 r0_15 r0_17 r0_18 r0_19 (si S0 13 v) ++ w6 ca q1 r1_0 r1_1 S1 ++ w7 ca q2 S2 ++ w1 ca q3 S3 ++ wLS ca q4 r4_0 ++ w6 ca q5 r5_0 r5_1 S5 ++ w7 ca q6 S6 ++ w1 ca q7 S7 ++ w6 ca q8 r8_0 r8_1 S8 ++ w7 ca q9 S9 ++ w1 ca q10 S10 ++ w6 ca q11 r11_0 r11_1 S11 ++ w7 ca q12 S12 ++ w1 ca q13 S13 := rfl
theorem pm_24 (m0 m1 m2 m3 m4 m5 m6 m7 m8 m9 m10 m11 m12 m13 : va_W) : List.Perm (m0 ++ m1 ++ m2 ++ m3 ++ m4 ++ m5 ++ m6 ++ m7 ++ m8 ++ m9 ++ m10 ++ m11 ++ m12 ++ m13) ((m1 ++ m2 ++ m3 ++ m4 ++ m5 ++ m6 ++ m7 ++ m8 ++ m9 ++ m10 ++ m11 ++ m12 ++ m13) ++ (m0)) := by
  have h := tc_flat (tc_pk [m0] [m2, m3, m4, m5, m6, m7, m8, m9, m10, m11, m12, m13] m1 (tc_pk [m0] [m3, m4, m5, m6, m7, m8, m9, m10, m11, m12, m13] m2 (tc_pk [m0] [m4, m5, m6, m7, m8, m9, m10, m11, m12, m13] m3 (tc_pk [m0] [m5, m6, m7, m8, m9, m10, m11, m12, m13] m4 (tc_pk [m0] [m6, m7, m8, m9, m10, m11, m12, m13] m5 (tc_pk [m0] [m7, m8, m9, m10, m11, m12, m13] m6 (tc_pk [m0] [m8, m9, m10, m11, m12, m13] m7 (tc_pk [m0] [m9, m10, m11, m12, m13] m8 (tc_pk [m0] [m10, m11, m12, m13] m9 (tc_pk [m0] [m11, m12, m13] m10 (tc_pk [m0] [m12, m13] m11 (tc_pk [m0] [m13] m12 (tc_pk [m0] [] m13 (tc_pk [] [] m0 (List.Perm.refl _)))))))))))))) : List.Perm [m0, m1, m2, m3, m4, m5, m6, m7, m8, m9, m10, m11, m12, m13] [m1, m2, m3, m4, m5, m6, m7, m8, m9, m10, m11, m12, m13, m0])
  simpa [List.append_assoc] using h
theorem pm_25 (m0 m1 m2 m3 m4 m5 m6 m7 m8 m9 m10 m11 m12 m13 : va_W) : List.Perm ((m1 ++ m2 ++ m3 ++ m4 ++ m5 ++ m6 ++ m7 ++ m8 ++ m9 ++ m10 ++ m11 ++ m12 ++ m13) ++ (m0)) (m0 ++ m1 ++ m2 ++ m3 ++ m4 ++ m5 ++ m6 ++ m7 ++ m8 ++ m9 ++ m10 ++ m11 ++ m12 ++ m13) := by
  have h := tc_flat (tc_pk [m1, m2, m3, m4, m5, m6, m7, m8, m9, m10, m11, m12, m13] [] m0 (tc_pk [] [m2, m3, m4, m5, m6, m7, m8, m9, m10, m11, m12, m13] m1 (tc_pk [] [m3, m4, m5, m6, m7, m8, m9, m10, m11, m12, m13] m2 (tc_pk [] [m4, m5, m6, m7, m8, m9, m10, m11, m12, m13] m3 (tc_pk [] [m5, m6, m7, m8, m9, m10, m11, m12, m13] m4 (tc_pk [] [m6, m7, m8, m9, m10, m11, m12, m13] m5 (tc_pk [] [m7, m8, m9, m10, m11, m12, m13] m6 (tc_pk [] [m8, m9, m10, m11, m12, m13] m7 (tc_pk [] [m9, m10, m11, m12, m13] m8 (tc_pk [] [m10, m11, m12, m13] m9 (tc_pk [] [m11, m12, m13] m10 (tc_pk [] [m12, m13] m11 (tc_pk [] [m13] m12 (tc_pk [] [] m13 (List.Perm.refl _)))))))))))))) : List.Perm [m1, m2, m3, m4, m5, m6, m7, m8, m9, m10, m11, m12, m13, m0] [m0, m1, m2, m3, m4, m5, m6, m7, m8, m9, m10, m11, m12, m13])
  simpa [List.append_assoc] using h
theorem pm_26 (m0 m1 m2 m3 m4 m5 m6 m7 m8 m9 m10 m11 m12 m13 : va_W) : List.Perm (m0 ++ m1 ++ m2 ++ m3 ++ m4 ++ m5 ++ m6 ++ m7 ++ m8 ++ m9 ++ m10 ++ m11 ++ m12 ++ m13) ((m0 ++ m4 ++ m5 ++ m6 ++ m7 ++ m11 ++ m12 ++ m13) ++ (m8 ++ m9 ++ m10 ++ m1 ++ m2 ++ m3)) := by
  have h := tc_flat (tc_pk [] [m1, m2, m3, m4, m5, m6, m7, m8, m9, m10, m11, m12, m13] m0 (tc_pk [m1, m2, m3] [m5, m6, m7, m8, m9, m10, m11, m12, m13] m4 (tc_pk [m1, m2, m3] [m6, m7, m8, m9, m10, m11, m12, m13] m5 (tc_pk [m1, m2, m3] [m7, m8, m9, m10, m11, m12, m13] m6 (tc_pk [m1, m2, m3] [m8, m9, m10, m11, m12, m13] m7 (tc_pk [m1, m2, m3, m8, m9, m10] [m12, m13] m11 (tc_pk [m1, m2, m3, m8, m9, m10] [m13] m12 (tc_pk [m1, m2, m3, m8, m9, m10] [] m13 (tc_pk [m1, m2, m3] [m9, m10] m8 (tc_pk [m1, m2, m3] [m10] m9 (tc_pk [m1, m2, m3] [] m10 (tc_pk [] [m2, m3] m1 (tc_pk [] [m3] m2 (tc_pk [] [] m3 (List.Perm.refl _)))))))))))))) : List.Perm [m0, m1, m2, m3, m4, m5, m6, m7, m8, m9, m10, m11, m12, m13] [m0, m4, m5, m6, m7, m11, m12, m13, m8, m9, m10, m1, m2, m3])
  simpa [List.append_assoc] using h
theorem pm_27 (m0 m1 m2 m3 m4 m5 m6 m7 m8 m9 m10 m11 m12 m13 : va_W) : List.Perm ((m0 ++ m4 ++ m5 ++ m6 ++ m7 ++ m11 ++ m12 ++ m13) ++ (m8 ++ m9 ++ m10 ++ m1 ++ m2 ++ m3)) (m0 ++ m1 ++ m2 ++ m3 ++ m4 ++ m5 ++ m6 ++ m7 ++ m8 ++ m9 ++ m10 ++ m11 ++ m12 ++ m13) := by
  have h := tc_flat (tc_pk [] [m4, m5, m6, m7, m11, m12, m13, m8, m9, m10, m1, m2, m3] m0 (tc_pk [m4, m5, m6, m7, m11, m12, m13, m8, m9, m10] [m2, m3] m1 (tc_pk [m4, m5, m6, m7, m11, m12, m13, m8, m9, m10] [m3] m2 (tc_pk [m4, m5, m6, m7, m11, m12, m13, m8, m9, m10] [] m3 (tc_pk [] [m5, m6, m7, m11, m12, m13, m8, m9, m10] m4 (tc_pk [] [m6, m7, m11, m12, m13, m8, m9, m10] m5 (tc_pk [] [m7, m11, m12, m13, m8, m9, m10] m6 (tc_pk [] [m11, m12, m13, m8, m9, m10] m7 (tc_pk [m11, m12, m13] [m9, m10] m8 (tc_pk [m11, m12, m13] [m10] m9 (tc_pk [m11, m12, m13] [] m10 (tc_pk [] [m12, m13] m11 (tc_pk [] [m13] m12 (tc_pk [] [] m13 (List.Perm.refl _)))))))))))))) : List.Perm [m0, m4, m5, m6, m7, m11, m12, m13, m8, m9, m10, m1, m2, m3] [m0, m1, m2, m3, m4, m5, m6, m7, m8, m9, m10, m11, m12, m13])
  simpa [List.append_assoc] using h
theorem pm_28 (m0 m1 m2 m3 m4 m5 m6 m7 m8 m9 m10 m11 m12 m13 : va_W) : List.Perm (m0 ++ m1 ++ m2 ++ m3 ++ m4 ++ m5 ++ m6 ++ m7 ++ m8 ++ m9 ++ m10 ++ m11 ++ m12 ++ m13) ((m0 ++ m4 ++ m5 ++ m6 ++ m7 ++ m8 ++ m9 ++ m10) ++ (m11 ++ m12 ++ m13 ++ m1 ++ m2 ++ m3)) := by
  have h := tc_flat (tc_pk [] [m1, m2, m3, m4, m5, m6, m7, m8, m9, m10, m11, m12, m13] m0 (tc_pk [m1, m2, m3] [m5, m6, m7, m8, m9, m10, m11, m12, m13] m4 (tc_pk [m1, m2, m3] [m6, m7, m8, m9, m10, m11, m12, m13] m5 (tc_pk [m1, m2, m3] [m7, m8, m9, m10, m11, m12, m13] m6 (tc_pk [m1, m2, m3] [m8, m9, m10, m11, m12, m13] m7 (tc_pk [m1, m2, m3] [m9, m10, m11, m12, m13] m8 (tc_pk [m1, m2, m3] [m10, m11, m12, m13] m9 (tc_pk [m1, m2, m3] [m11, m12, m13] m10 (tc_pk [m1, m2, m3] [m12, m13] m11 (tc_pk [m1, m2, m3] [m13] m12 (tc_pk [m1, m2, m3] [] m13 (tc_pk [] [m2, m3] m1 (tc_pk [] [m3] m2 (tc_pk [] [] m3 (List.Perm.refl _)))))))))))))) : List.Perm [m0, m1, m2, m3, m4, m5, m6, m7, m8, m9, m10, m11, m12, m13] [m0, m4, m5, m6, m7, m8, m9, m10, m11, m12, m13, m1, m2, m3])
  simpa [List.append_assoc] using h
theorem pm_29 (m0 m1 m2 m3 m4 m5 m6 m7 m8 m9 m10 m11 m12 m13 : va_W) : List.Perm ((m0 ++ m4 ++ m5 ++ m6 ++ m7 ++ m8 ++ m9 ++ m10) ++ (m11 ++ m12 ++ m13 ++ m1 ++ m2 ++ m3)) (m0 ++ m1 ++ m2 ++ m3 ++ m4 ++ m5 ++ m6 ++ m7 ++ m8 ++ m9 ++ m10 ++ m11 ++ m12 ++ m13) := by
  have h := tc_flat (tc_pk [] [m4, m5, m6, m7, m8, m9, m10, m11, m12, m13, m1, m2, m3] m0 (tc_pk [m4, m5, m6, m7, m8, m9, m10, m11, m12, m13] [m2, m3] m1 (tc_pk [m4, m5, m6, m7, m8, m9, m10, m11, m12, m13] [m3] m2 (tc_pk [m4, m5, m6, m7, m8, m9, m10, m11, m12, m13] [] m3 (tc_pk [] [m5, m6, m7, m8, m9, m10, m11, m12, m13] m4 (tc_pk [] [m6, m7, m8, m9, m10, m11, m12, m13] m5 (tc_pk [] [m7, m8, m9, m10, m11, m12, m13] m6 (tc_pk [] [m8, m9, m10, m11, m12, m13] m7 (tc_pk [] [m9, m10, m11, m12, m13] m8 (tc_pk [] [m10, m11, m12, m13] m9 (tc_pk [] [m11, m12, m13] m10 (tc_pk [] [m12, m13] m11 (tc_pk [] [m13] m12 (tc_pk [] [] m13 (List.Perm.refl _)))))))))))))) : List.Perm [m0, m4, m5, m6, m7, m8, m9, m10, m11, m12, m13, m1, m2, m3] [m0, m1, m2, m3, m4, m5, m6, m7, m8, m9, m10, m11, m12, m13])
  simpa [List.append_assoc] using h
def fX11_mark  (SC : ms_T) (SP0 : ms_T) (ST0 : ms_T) (SE0 : ms_T) (SP2 : ms_T) (ST2 : ms_T) (SE2 : ms_T) (SP3 : ms_T) (ST3 : ms_T) (SE3 : ms_T) (SP4 : ms_T) (ST4 : ms_T) (SE4 : ms_T)  : Option (Int32 × ms_T × ms_T × ms_T × ms_T × ms_T × ms_T × ms_T) :=
  if (gi SC 13) = (3 : Int32) then
    (fX11_refuse SC (7 : Int32)).bind fun z8 =>
    some (z8.1, z8.2, ST2, SE2, ST3, SE3, ST4, SE4)
  else
    if (gi SC 13) = (0 : Int32) then
      (fX6_copyFrom SP2 ST2 SE2 SP0 ST0 SE0).bind fun z2 =>
      (fX11_answer (si SC 13 ((gi SC 13) + (1 : Int32))) (gi (si SC 13 ((gi SC 13) + (1 : Int32))) 13)).bind fun z3 =>
      some (z3.1, z3.2, z2.1, z2.2, ST3, SE3, ST4, SE4)
    else
      if (gi SC 13) = (1 : Int32) then
        (fX6_copyFrom SP3 ST3 SE3 SP0 ST0 SE0).bind fun z4 =>
        (fX11_answer (si SC 13 ((gi SC 13) + (1 : Int32))) (gi (si SC 13 ((gi SC 13) + (1 : Int32))) 13)).bind fun z5 =>
        some (z5.1, z5.2, ST2, SE2, z4.1, z4.2, ST4, SE4)
      else
        if (gi SC 13) = (2 : Int32) then
          (fX6_copyFrom SP4 ST4 SE4 SP0 ST0 SE0).bind fun z6 =>
          (fX11_answer (si SC 13 ((gi SC 13) + (1 : Int32))) (gi (si SC 13 ((gi SC 13) + (1 : Int32))) 13)).bind fun z7 =>
          some (z7.1, z7.2, ST2, SE2, ST3, SE3, z6.1, z6.2)
        else
          none
abbrev rmX11_mark : Room := { frames := 10, cells := 0, slots := 0, locals := 442 }
theorem okX11_mark : tc_ok yX11_mark cX11_mark 1 (some .int) 0 := ⟨wc_X11_mark, wn_X11, by decide, by decide, by decide +kernel⟩
set_option maxRecDepth 20000 in
theorem mX11_mark {qC : Nat → Nat} {qP0 : Nat → Nat} {qT0 : Nat → Nat} {qE0 : Nat → Nat} {qZ : Nat → Nat} {qP2 : Nat → Nat} {qT2 : Nat → Nat} {qE2 : Nat → Nat} {qP3 : Nat → Nat} {qT3 : Nat → Nat} {qE3 : Nat → Nat} {qP4 : Nat → Nat} {qT4 : Nat → Nat} {qE4 : Nat → Nat} {rC3 : Value} {rC4 : Value} {rC6 : Value} {rC7 : Value} {rC11 : Value} {rC14 : Value} {rC15 : Value} {rC17 : Value} {rC18 : Value} {rC19 : Value} {SC : ms_T} {SP0 : ms_T} {ST0 : ms_T} {SE0 : ms_T} {SP2 : ms_T} {ST2 : ms_T} {SE2 : ms_T} {SP3 : ms_T} {ST3 : ms_T} {SE3 : ms_T} {SP4 : ms_T} {ST4 : ms_T} {SE4 : ms_T}  {z : Int32 × ms_T × ms_T × ms_T × ms_T × ms_T × ms_T × ms_T}  (hf : fX11_mark SC SP0 ST0 SE0 SP2 ST2 SE2 SP3 ST3 SE3 SP4 ST4 SE4 = some z) : tc_MI l dC dI ca yX11_mark cX11_mark 1 (some .int) rmX11_mark [.ref (qC 0)] (w11 ca qC (rC3) (rC4) (rC6) (rC7) (.ref (qP0 0)) (rC11) (.ref (qZ 0)) (rC14) (rC15) (rC17) (rC18) (rC19) SC ++ w6 ca qP0 (.ref (qT0 0)) (.ref (qE0 0)) SP0 ++ w7 ca qT0 ST0 ++ w1 ca qE0 SE0 ++ wLS ca qZ (rf3 (qP2 0) (qP3 0) (qP4 0)) ++ w6 ca qP2 (.ref (qT2 0)) (.ref (qE2 0)) SP2 ++ w7 ca qT2 ST2 ++ w1 ca qE2 SE2 ++ w6 ca qP3 (.ref (qT3 0)) (.ref (qE3 0)) SP3 ++ w7 ca qT3 ST3 ++ w1 ca qE3 SE3 ++ w6 ca qP4 (.ref (qT4 0)) (.ref (qE4 0)) SP4 ++ w7 ca qT4 ST4 ++ w1 ca qE4 SE4) (w11 ca qC (rC3) (rC4) (rC6) (rC7) (.ref (qP0 0)) (rC11) (.ref (qZ 0)) (rC14) (rC15) (rC17) (rC18) (rC19) z.2.1 ++ w6 ca qP0 (.ref (qT0 0)) (.ref (qE0 0)) SP0 ++ w7 ca qT0 ST0 ++ w1 ca qE0 SE0 ++ wLS ca qZ (rf3 (qP2 0) (qP3 0) (qP4 0)) ++ w6 ca qP2 (.ref (qT2 0)) (.ref (qE2 0)) SP2 ++ w7 ca qT2 z.2.2.1 ++ w1 ca qE2 z.2.2.2.1 ++ w6 ca qP3 (.ref (qT3 0)) (.ref (qE3 0)) SP3 ++ w7 ca qT3 z.2.2.2.2.1 ++ w1 ca qE3 z.2.2.2.2.2.1 ++ w6 ca qP4 (.ref (qT4 0)) (.ref (qE4 0)) SP4 ++ w7 ca qT4 z.2.2.2.2.2.2.1 ++ w1 ca qE4 z.2.2.2.2.2.2.2) (z.1) := by
  refine tc_metI (own := RX11) (by decide) rfl ?_ (Nat.le_of_ble_eq_true rfl)
  intro p e s m below meth c A X hP hD hS ls hl
  obtain ⟨hx, hb, hr, hml, hown, hts, hlk, hK, hA, hG⟩ := id X
  unfold fX11_mark at hf
  have hl : lv_has ls 1 [(0, .ref (qC 0))] := hl
  refine lv_aload_n hx hb dX11_mark_0 rfl (lv_at hl 0 rfl) ?_
  refine va_get (D := (dC, dI)) (ci := 11) (v := .int (gi SC 13)) (C := RX11) (T := TX11) (N := 20) hx hb hts i_X11 hown hK hP 0 rfl rfl 13 (by decide) (hts _ wf_X11_413) (fun _ h9 => h9) rfl dX11_mark_1 ?_
  refine lv_iconst (v := (3 : Int32)) hx hb dX11_mark_4 (by decide) ?_
  refine lv_icmp_ne (tgt := 15) hx hb dX11_mark_5 (by decide) (fun hc => ?_) (fun hc => ?_)
  · have hf := tc_neg hc hf
    refine lv_aload_n hx hb dX11_mark_15 rfl (lv_at hl 0 rfl) ?_
    refine va_get (D := (dC, dI)) (ci := 11) (v := .ref (qZ 0)) (C := RX11) (T := TX11) (N := 20) hx hb hts i_X11 hown hK hP 0 rfl rfl 12 (by decide) (hts _ wf_X11_46) (fun _ h9 => h9) rfl dX11_mark_16 ?_
    refine lv_aload_n hx hb dX11_mark_19 rfl (lv_at hl 0 rfl) ?_
    refine va_get (D := (dC, dI)) (ci := 11) (v := .int (gi SC 13)) (C := RX11) (T := TX11) (N := 20) hx hb hts i_X11 hown hK hP 0 rfl rfl 13 (by decide) (hts _ wf_X11_413) (fun _ h9 => h9) rfl dX11_mark_20 ?_
    by_cases hq1_0 : (gi SC 13) = (0 : Int32)
    · have hf := tc_pos hq1_0 hf
      refine tc_ald (b := qP2 0) X hP 19 3 rfl rfl 0 (by rw [hq1_0]; decide) (by rw [hq1_0]; exact inb_vp (by decide)) rfl dX11_mark_23 ?_
      refine lv_aload_n hx hb dX11_mark_24 rfl (lv_at hl 0 rfl) ?_
      refine va_get (D := (dC, dI)) (ci := 11) (v := .ref (qP0 0)) (C := RX11) (T := TX11) (N := 20) hx hb hts i_X11 hown hK hP 0 rfl rfl 10 (by decide) (hts _ wf_X11_39) (fun _ h9 => h9) rfl dX11_mark_25 ?_
      obtain ⟨z2, hg, hf⟩ := tc_bi hf
      refine tc_vVp (As := [.ref (qP0 0)]) (rest := []) (b := qP2 0) (wc := w6 ca qP2 (.ref (qT2 0)) (.ref (qE2 0)) SP2 ++ w7 ca qT2 ST2 ++ w1 ca qE2 SE2 ++ w6 ca qP0 (.ref (qT0 0)) (.ref (qE0 0)) SP0 ++ w7 ca qT0 ST0 ++ w1 ca qE0 SE0) (wr := w11 ca qC (rC3) (rC4) (rC6) (rC7) (.ref (qP0 0)) (rC11) (.ref (qZ 0)) (rC14) (rC15) (rC17) (rC18) (rC19) SC ++ wLS ca qZ (rf3 (qP2 0) (qP3 0) (qP4 0)) ++ w6 ca qP3 (.ref (qT3 0)) (.ref (qE3 0)) SP3 ++ w7 ca qT3 ST3 ++ w1 ca qE3 SE3 ++ w6 ca qP4 (.ref (qT4 0)) (.ref (qE4 0)) SP4 ++ w7 ca qT4 ST4 ++ w1 ca qE4 SE4) X hP hD hS (mX6_copyFrom hg) okX6_copyFrom wl_X11_416 wi_X6_copyFrom ws_X6_X6_copyFrom_X6_copyFrom ⟨rfl, rfl, Nat.le_of_ble_eq_true rfl, Nat.le_of_ble_eq_true rfl⟩ 6 0 rfl rfl (pm_22 (w11 ca qC (rC3) (rC4) (rC6) (rC7) (.ref (qP0 0)) (rC11) (.ref (qZ 0)) (rC14) (rC15) (rC17) (rC18) (rC19) SC) (w6 ca qP0 (.ref (qT0 0)) (.ref (qE0 0)) SP0) (w7 ca qT0 ST0) (w1 ca qE0 SE0) (wLS ca qZ (rf3 (qP2 0) (qP3 0) (qP4 0))) (w6 ca qP2 (.ref (qT2 0)) (.ref (qE2 0)) SP2) (w7 ca qT2 ST2) (w1 ca qE2 SE2) (w6 ca qP3 (.ref (qT3 0)) (.ref (qE3 0)) SP3) (w7 ca qT3 ST3) (w1 ca qE3 SE3) (w6 ca qP4 (.ref (qT4 0)) (.ref (qE4 0)) SP4) (w7 ca qT4 ST4) (w1 ca qE4 SE4)) rfl hl.1 (Nat.le_of_ble_eq_true rfl) dX11_mark_28 (fun H locs hP hD hS => ?_)
      have hP := tc_Pm (pm_23 (w11 ca qC (rC3) (rC4) (rC6) (rC7) (.ref (qP0 0)) (rC11) (.ref (qZ 0)) (rC14) (rC15) (rC17) (rC18) (rC19) SC) (w6 ca qP0 (.ref (qT0 0)) (.ref (qE0 0)) SP0) (w7 ca qT0 ST0) (w1 ca qE0 SE0) (wLS ca qZ (rf3 (qP2 0) (qP3 0) (qP4 0))) (w6 ca qP2 (.ref (qT2 0)) (.ref (qE2 0)) SP2) (w7 ca qT2 z2.1) (w1 ca qE2 z2.2) (w6 ca qP3 (.ref (qT3 0)) (.ref (qE3 0)) SP3) (w7 ca qT3 ST3) (w1 ca qE3 SE3) (w6 ca qP4 (.ref (qT4 0)) (.ref (qE4 0)) SP4) (w7 ca qT4 ST4) (w1 ca qE4 SE4)) hP
      have hD := tc_Dm (pm_23 (w11 ca qC (rC3) (rC4) (rC6) (rC7) (.ref (qP0 0)) (rC11) (.ref (qZ 0)) (rC14) (rC15) (rC17) (rC18) (rC19) SC) (w6 ca qP0 (.ref (qT0 0)) (.ref (qE0 0)) SP0) (w7 ca qT0 ST0) (w1 ca qE0 SE0) (wLS ca qZ (rf3 (qP2 0) (qP3 0) (qP4 0))) (w6 ca qP2 (.ref (qT2 0)) (.ref (qE2 0)) SP2) (w7 ca qT2 z2.1) (w1 ca qE2 z2.2) (w6 ca qP3 (.ref (qT3 0)) (.ref (qE3 0)) SP3) (w7 ca qT3 ST3) (w1 ca qE3 SE3) (w6 ca qP4 (.ref (qT4 0)) (.ref (qE4 0)) SP4) (w7 ca qT4 ST4) (w1 ca qE4 SE4)) hD
      refine lv_aload_n hx hb dX11_mark_31 rfl (lv_at hl 0 rfl) ?_
      refine lv_dup hx hb dX11_mark_32 rfl ?_
      refine va_get (D := (dC, dI)) (ci := 11) (v := .int (gi SC 13)) (C := RX11) (T := TX11) (N := 20) hx hb hts i_X11 hown hK hP 0 rfl rfl 13 (by decide) (hts _ wf_X11_413) (fun _ h9 => h9) rfl dX11_mark_33 ?_
      refine lv_iconst (v := (1 : Int32)) hx hb dX11_mark_36 (by decide) ?_
      refine lv_iadd hx hb dX11_mark_37 ?_
      refine va_put (D := (dC, dI)) (ci := 11) (v := .int ((gi SC 13) + (1 : Int32))) (ty := .int) (C := RX11) (T := TX11) (N := 20) hx hb hts i_X11 tyX11 tyX11_ok nmX11 hown hK hP hD hS 0 rfl rfl 13 (by decide) (hts _ wf_X11_413) (fun _ h9 => h9) rfl (tyX11_ok 13 (by decide)) rfl rfl (Nat.le_of_ble_eq_true rfl) dX11_mark_38 (fun H locs hP hD hS => ?_)
      have hP := tc_eP (pwm30_0_13 ca qC qP0 qT0 qE0 qZ qP2 qT2 qE2 qP3 qT3 qE3 qP4 qT4 qE4 (rf3 (qP2 0) (qP3 0) (qP4 0)) (rC3) (rC4) (rC6) (rC7) (.ref (qP0 0)) (rC11) (.ref (qZ 0)) (rC14) (rC15) (rC17) (rC18) (rC19) (.ref (qT0 0)) (.ref (qE0 0)) (.ref (qT2 0)) (.ref (qE2 0)) (.ref (qT3 0)) (.ref (qE3 0)) (.ref (qT4 0)) (.ref (qE4 0)) SC SP0 ST0 SE0 SP2 z2.1 z2.2 SP3 ST3 SE3 SP4 ST4 SE4 ((gi SC 13) + (1 : Int32))) hP
      have hD := tc_eD (pwm30_0_13 ca qC qP0 qT0 qE0 qZ qP2 qT2 qE2 qP3 qT3 qE3 qP4 qT4 qE4 (rf3 (qP2 0) (qP3 0) (qP4 0)) (rC3) (rC4) (rC6) (rC7) (.ref (qP0 0)) (rC11) (.ref (qZ 0)) (rC14) (rC15) (rC17) (rC18) (rC19) (.ref (qT0 0)) (.ref (qE0 0)) (.ref (qT2 0)) (.ref (qE2 0)) (.ref (qT3 0)) (.ref (qE3 0)) (.ref (qT4 0)) (.ref (qE4 0)) SC SP0 ST0 SE0 SP2 z2.1 z2.2 SP3 ST3 SE3 SP4 ST4 SE4 ((gi SC 13) + (1 : Int32))) hD
      refine lv_aload_n hx hb dX11_mark_41 rfl (lv_at hl 0 rfl) ?_
      refine lv_aload_n hx hb dX11_mark_42 rfl (lv_at hl 0 rfl) ?_
      refine va_get (D := (dC, dI)) (ci := 11) (v := .int (gi (si SC 13 ((gi SC 13) + (1 : Int32))) 13)) (C := RX11) (T := TX11) (N := 20) hx hb hts i_X11 hown hK hP 0 rfl rfl 13 (by decide) (hts _ wf_X11_413) (fun _ h9 => h9) rfl dX11_mark_43 ?_
      obtain ⟨z3, hg, hf⟩ := tc_bi hf
      refine tc_iVp (As := [.int (gi (si SC 13 ((gi SC 13) + (1 : Int32))) 13)]) (rest := []) (b := qC 0) (wc := w11 ca qC (rC3) (rC4) (rC6) (rC7) (.ref (qP0 0)) (rC11) (.ref (qZ 0)) (rC14) (rC15) (rC17) (rC18) (rC19) (si SC 13 ((gi SC 13) + (1 : Int32)))) (wr := w6 ca qP0 (.ref (qT0 0)) (.ref (qE0 0)) SP0 ++ w7 ca qT0 ST0 ++ w1 ca qE0 SE0 ++ wLS ca qZ (rf3 (qP2 0) (qP3 0) (qP4 0)) ++ w6 ca qP2 (.ref (qT2 0)) (.ref (qE2 0)) SP2 ++ w7 ca qT2 z2.1 ++ w1 ca qE2 z2.2 ++ w6 ca qP3 (.ref (qT3 0)) (.ref (qE3 0)) SP3 ++ w7 ca qT3 ST3 ++ w1 ca qE3 SE3 ++ w6 ca qP4 (.ref (qT4 0)) (.ref (qE4 0)) SP4 ++ w7 ca qT4 ST4 ++ w1 ca qE4 SE4) X hP hD hS (mX11_answer hg) okX11_answer wl_X11_182 wi_X11_answer ws_X11_X11_answer_X11_answer ⟨rfl, rfl, Nat.le_of_ble_eq_true rfl, Nat.le_of_ble_eq_true rfl⟩ 11 0 rfl rfl (pm_24 (w11 ca qC (rC3) (rC4) (rC6) (rC7) (.ref (qP0 0)) (rC11) (.ref (qZ 0)) (rC14) (rC15) (rC17) (rC18) (rC19) (si SC 13 ((gi SC 13) + (1 : Int32)))) (w6 ca qP0 (.ref (qT0 0)) (.ref (qE0 0)) SP0) (w7 ca qT0 ST0) (w1 ca qE0 SE0) (wLS ca qZ (rf3 (qP2 0) (qP3 0) (qP4 0))) (w6 ca qP2 (.ref (qT2 0)) (.ref (qE2 0)) SP2) (w7 ca qT2 z2.1) (w1 ca qE2 z2.2) (w6 ca qP3 (.ref (qT3 0)) (.ref (qE3 0)) SP3) (w7 ca qT3 ST3) (w1 ca qE3 SE3) (w6 ca qP4 (.ref (qT4 0)) (.ref (qE4 0)) SP4) (w7 ca qT4 ST4) (w1 ca qE4 SE4)) rfl hl.1 (Nat.le_of_ble_eq_true rfl) dX11_mark_46 (fun H locs hP hD hS => ?_)
      have hP := tc_Pm (pm_25 (w11 ca qC (rC3) (rC4) (rC6) (rC7) (.ref (qP0 0)) (rC11) (.ref (qZ 0)) (rC14) (rC15) (rC17) (rC18) (rC19) z3.2) (w6 ca qP0 (.ref (qT0 0)) (.ref (qE0 0)) SP0) (w7 ca qT0 ST0) (w1 ca qE0 SE0) (wLS ca qZ (rf3 (qP2 0) (qP3 0) (qP4 0))) (w6 ca qP2 (.ref (qT2 0)) (.ref (qE2 0)) SP2) (w7 ca qT2 z2.1) (w1 ca qE2 z2.2) (w6 ca qP3 (.ref (qT3 0)) (.ref (qE3 0)) SP3) (w7 ca qT3 ST3) (w1 ca qE3 SE3) (w6 ca qP4 (.ref (qT4 0)) (.ref (qE4 0)) SP4) (w7 ca qT4 ST4) (w1 ca qE4 SE4)) hP
      have hD := tc_Dm (pm_25 (w11 ca qC (rC3) (rC4) (rC6) (rC7) (.ref (qP0 0)) (rC11) (.ref (qZ 0)) (rC14) (rC15) (rC17) (rC18) (rC19) z3.2) (w6 ca qP0 (.ref (qT0 0)) (.ref (qE0 0)) SP0) (w7 ca qT0 ST0) (w1 ca qE0 SE0) (wLS ca qZ (rf3 (qP2 0) (qP3 0) (qP4 0))) (w6 ca qP2 (.ref (qT2 0)) (.ref (qE2 0)) SP2) (w7 ca qT2 z2.1) (w1 ca qE2 z2.2) (w6 ca qP3 (.ref (qT3 0)) (.ref (qE3 0)) SP3) (w7 ca qT3 ST3) (w1 ca qE3 SE3) (w6 ca qP4 (.ref (qT4 0)) (.ref (qE4 0)) SP4) (w7 ca qT4 ST4) (w1 ca qE4 SE4)) hD
      obtain rfl := Option.some.inj hf
      exact tc_ri X hP hD hS rfl dX11_mark_49 rfl rfl
    · have hf := tc_neg hq1_0 hf
      by_cases hq1_1 : (gi SC 13) = (1 : Int32)
      · have hf := tc_pos hq1_1 hf
        refine tc_ald (b := qP3 0) X hP 19 3 rfl rfl 1 (by rw [hq1_1]; decide) (by rw [hq1_1]; exact inb_vp (by decide)) rfl dX11_mark_23 ?_
        refine lv_aload_n hx hb dX11_mark_24 rfl (lv_at hl 0 rfl) ?_
        refine va_get (D := (dC, dI)) (ci := 11) (v := .ref (qP0 0)) (C := RX11) (T := TX11) (N := 20) hx hb hts i_X11 hown hK hP 0 rfl rfl 10 (by decide) (hts _ wf_X11_39) (fun _ h9 => h9) rfl dX11_mark_25 ?_
        obtain ⟨z4, hg, hf⟩ := tc_bi hf
        refine tc_vVp (As := [.ref (qP0 0)]) (rest := []) (b := qP3 0) (wc := w6 ca qP3 (.ref (qT3 0)) (.ref (qE3 0)) SP3 ++ w7 ca qT3 ST3 ++ w1 ca qE3 SE3 ++ w6 ca qP0 (.ref (qT0 0)) (.ref (qE0 0)) SP0 ++ w7 ca qT0 ST0 ++ w1 ca qE0 SE0) (wr := w11 ca qC (rC3) (rC4) (rC6) (rC7) (.ref (qP0 0)) (rC11) (.ref (qZ 0)) (rC14) (rC15) (rC17) (rC18) (rC19) SC ++ wLS ca qZ (rf3 (qP2 0) (qP3 0) (qP4 0)) ++ w6 ca qP2 (.ref (qT2 0)) (.ref (qE2 0)) SP2 ++ w7 ca qT2 ST2 ++ w1 ca qE2 SE2 ++ w6 ca qP4 (.ref (qT4 0)) (.ref (qE4 0)) SP4 ++ w7 ca qT4 ST4 ++ w1 ca qE4 SE4) X hP hD hS (mX6_copyFrom hg) okX6_copyFrom wl_X11_416 wi_X6_copyFrom ws_X6_X6_copyFrom_X6_copyFrom ⟨rfl, rfl, Nat.le_of_ble_eq_true rfl, Nat.le_of_ble_eq_true rfl⟩ 6 0 rfl rfl (pm_26 (w11 ca qC (rC3) (rC4) (rC6) (rC7) (.ref (qP0 0)) (rC11) (.ref (qZ 0)) (rC14) (rC15) (rC17) (rC18) (rC19) SC) (w6 ca qP0 (.ref (qT0 0)) (.ref (qE0 0)) SP0) (w7 ca qT0 ST0) (w1 ca qE0 SE0) (wLS ca qZ (rf3 (qP2 0) (qP3 0) (qP4 0))) (w6 ca qP2 (.ref (qT2 0)) (.ref (qE2 0)) SP2) (w7 ca qT2 ST2) (w1 ca qE2 SE2) (w6 ca qP3 (.ref (qT3 0)) (.ref (qE3 0)) SP3) (w7 ca qT3 ST3) (w1 ca qE3 SE3) (w6 ca qP4 (.ref (qT4 0)) (.ref (qE4 0)) SP4) (w7 ca qT4 ST4) (w1 ca qE4 SE4)) rfl hl.1 (Nat.le_of_ble_eq_true rfl) dX11_mark_28 (fun H locs hP hD hS => ?_)
        have hP := tc_Pm (pm_27 (w11 ca qC (rC3) (rC4) (rC6) (rC7) (.ref (qP0 0)) (rC11) (.ref (qZ 0)) (rC14) (rC15) (rC17) (rC18) (rC19) SC) (w6 ca qP0 (.ref (qT0 0)) (.ref (qE0 0)) SP0) (w7 ca qT0 ST0) (w1 ca qE0 SE0) (wLS ca qZ (rf3 (qP2 0) (qP3 0) (qP4 0))) (w6 ca qP2 (.ref (qT2 0)) (.ref (qE2 0)) SP2) (w7 ca qT2 ST2) (w1 ca qE2 SE2) (w6 ca qP3 (.ref (qT3 0)) (.ref (qE3 0)) SP3) (w7 ca qT3 z4.1) (w1 ca qE3 z4.2) (w6 ca qP4 (.ref (qT4 0)) (.ref (qE4 0)) SP4) (w7 ca qT4 ST4) (w1 ca qE4 SE4)) hP
        have hD := tc_Dm (pm_27 (w11 ca qC (rC3) (rC4) (rC6) (rC7) (.ref (qP0 0)) (rC11) (.ref (qZ 0)) (rC14) (rC15) (rC17) (rC18) (rC19) SC) (w6 ca qP0 (.ref (qT0 0)) (.ref (qE0 0)) SP0) (w7 ca qT0 ST0) (w1 ca qE0 SE0) (wLS ca qZ (rf3 (qP2 0) (qP3 0) (qP4 0))) (w6 ca qP2 (.ref (qT2 0)) (.ref (qE2 0)) SP2) (w7 ca qT2 ST2) (w1 ca qE2 SE2) (w6 ca qP3 (.ref (qT3 0)) (.ref (qE3 0)) SP3) (w7 ca qT3 z4.1) (w1 ca qE3 z4.2) (w6 ca qP4 (.ref (qT4 0)) (.ref (qE4 0)) SP4) (w7 ca qT4 ST4) (w1 ca qE4 SE4)) hD
        refine lv_aload_n hx hb dX11_mark_31 rfl (lv_at hl 0 rfl) ?_
        refine lv_dup hx hb dX11_mark_32 rfl ?_
        refine va_get (D := (dC, dI)) (ci := 11) (v := .int (gi SC 13)) (C := RX11) (T := TX11) (N := 20) hx hb hts i_X11 hown hK hP 0 rfl rfl 13 (by decide) (hts _ wf_X11_413) (fun _ h9 => h9) rfl dX11_mark_33 ?_
        refine lv_iconst (v := (1 : Int32)) hx hb dX11_mark_36 (by decide) ?_
        refine lv_iadd hx hb dX11_mark_37 ?_
        refine va_put (D := (dC, dI)) (ci := 11) (v := .int ((gi SC 13) + (1 : Int32))) (ty := .int) (C := RX11) (T := TX11) (N := 20) hx hb hts i_X11 tyX11 tyX11_ok nmX11 hown hK hP hD hS 0 rfl rfl 13 (by decide) (hts _ wf_X11_413) (fun _ h9 => h9) rfl (tyX11_ok 13 (by decide)) rfl rfl (Nat.le_of_ble_eq_true rfl) dX11_mark_38 (fun H locs hP hD hS => ?_)
        have hP := tc_eP (pwm30_0_13 ca qC qP0 qT0 qE0 qZ qP2 qT2 qE2 qP3 qT3 qE3 qP4 qT4 qE4 (rf3 (qP2 0) (qP3 0) (qP4 0)) (rC3) (rC4) (rC6) (rC7) (.ref (qP0 0)) (rC11) (.ref (qZ 0)) (rC14) (rC15) (rC17) (rC18) (rC19) (.ref (qT0 0)) (.ref (qE0 0)) (.ref (qT2 0)) (.ref (qE2 0)) (.ref (qT3 0)) (.ref (qE3 0)) (.ref (qT4 0)) (.ref (qE4 0)) SC SP0 ST0 SE0 SP2 ST2 SE2 SP3 z4.1 z4.2 SP4 ST4 SE4 ((gi SC 13) + (1 : Int32))) hP
        have hD := tc_eD (pwm30_0_13 ca qC qP0 qT0 qE0 qZ qP2 qT2 qE2 qP3 qT3 qE3 qP4 qT4 qE4 (rf3 (qP2 0) (qP3 0) (qP4 0)) (rC3) (rC4) (rC6) (rC7) (.ref (qP0 0)) (rC11) (.ref (qZ 0)) (rC14) (rC15) (rC17) (rC18) (rC19) (.ref (qT0 0)) (.ref (qE0 0)) (.ref (qT2 0)) (.ref (qE2 0)) (.ref (qT3 0)) (.ref (qE3 0)) (.ref (qT4 0)) (.ref (qE4 0)) SC SP0 ST0 SE0 SP2 ST2 SE2 SP3 z4.1 z4.2 SP4 ST4 SE4 ((gi SC 13) + (1 : Int32))) hD
        refine lv_aload_n hx hb dX11_mark_41 rfl (lv_at hl 0 rfl) ?_
        refine lv_aload_n hx hb dX11_mark_42 rfl (lv_at hl 0 rfl) ?_
        refine va_get (D := (dC, dI)) (ci := 11) (v := .int (gi (si SC 13 ((gi SC 13) + (1 : Int32))) 13)) (C := RX11) (T := TX11) (N := 20) hx hb hts i_X11 hown hK hP 0 rfl rfl 13 (by decide) (hts _ wf_X11_413) (fun _ h9 => h9) rfl dX11_mark_43 ?_
        obtain ⟨z5, hg, hf⟩ := tc_bi hf
        refine tc_iVp (As := [.int (gi (si SC 13 ((gi SC 13) + (1 : Int32))) 13)]) (rest := []) (b := qC 0) (wc := w11 ca qC (rC3) (rC4) (rC6) (rC7) (.ref (qP0 0)) (rC11) (.ref (qZ 0)) (rC14) (rC15) (rC17) (rC18) (rC19) (si SC 13 ((gi SC 13) + (1 : Int32)))) (wr := w6 ca qP0 (.ref (qT0 0)) (.ref (qE0 0)) SP0 ++ w7 ca qT0 ST0 ++ w1 ca qE0 SE0 ++ wLS ca qZ (rf3 (qP2 0) (qP3 0) (qP4 0)) ++ w6 ca qP2 (.ref (qT2 0)) (.ref (qE2 0)) SP2 ++ w7 ca qT2 ST2 ++ w1 ca qE2 SE2 ++ w6 ca qP3 (.ref (qT3 0)) (.ref (qE3 0)) SP3 ++ w7 ca qT3 z4.1 ++ w1 ca qE3 z4.2 ++ w6 ca qP4 (.ref (qT4 0)) (.ref (qE4 0)) SP4 ++ w7 ca qT4 ST4 ++ w1 ca qE4 SE4) X hP hD hS (mX11_answer hg) okX11_answer wl_X11_182 wi_X11_answer ws_X11_X11_answer_X11_answer ⟨rfl, rfl, Nat.le_of_ble_eq_true rfl, Nat.le_of_ble_eq_true rfl⟩ 11 0 rfl rfl (pm_24 (w11 ca qC (rC3) (rC4) (rC6) (rC7) (.ref (qP0 0)) (rC11) (.ref (qZ 0)) (rC14) (rC15) (rC17) (rC18) (rC19) (si SC 13 ((gi SC 13) + (1 : Int32)))) (w6 ca qP0 (.ref (qT0 0)) (.ref (qE0 0)) SP0) (w7 ca qT0 ST0) (w1 ca qE0 SE0) (wLS ca qZ (rf3 (qP2 0) (qP3 0) (qP4 0))) (w6 ca qP2 (.ref (qT2 0)) (.ref (qE2 0)) SP2) (w7 ca qT2 ST2) (w1 ca qE2 SE2) (w6 ca qP3 (.ref (qT3 0)) (.ref (qE3 0)) SP3) (w7 ca qT3 z4.1) (w1 ca qE3 z4.2) (w6 ca qP4 (.ref (qT4 0)) (.ref (qE4 0)) SP4) (w7 ca qT4 ST4) (w1 ca qE4 SE4)) rfl hl.1 (Nat.le_of_ble_eq_true rfl) dX11_mark_46 (fun H locs hP hD hS => ?_)
        have hP := tc_Pm (pm_25 (w11 ca qC (rC3) (rC4) (rC6) (rC7) (.ref (qP0 0)) (rC11) (.ref (qZ 0)) (rC14) (rC15) (rC17) (rC18) (rC19) z5.2) (w6 ca qP0 (.ref (qT0 0)) (.ref (qE0 0)) SP0) (w7 ca qT0 ST0) (w1 ca qE0 SE0) (wLS ca qZ (rf3 (qP2 0) (qP3 0) (qP4 0))) (w6 ca qP2 (.ref (qT2 0)) (.ref (qE2 0)) SP2) (w7 ca qT2 ST2) (w1 ca qE2 SE2) (w6 ca qP3 (.ref (qT3 0)) (.ref (qE3 0)) SP3) (w7 ca qT3 z4.1) (w1 ca qE3 z4.2) (w6 ca qP4 (.ref (qT4 0)) (.ref (qE4 0)) SP4) (w7 ca qT4 ST4) (w1 ca qE4 SE4)) hP
        have hD := tc_Dm (pm_25 (w11 ca qC (rC3) (rC4) (rC6) (rC7) (.ref (qP0 0)) (rC11) (.ref (qZ 0)) (rC14) (rC15) (rC17) (rC18) (rC19) z5.2) (w6 ca qP0 (.ref (qT0 0)) (.ref (qE0 0)) SP0) (w7 ca qT0 ST0) (w1 ca qE0 SE0) (wLS ca qZ (rf3 (qP2 0) (qP3 0) (qP4 0))) (w6 ca qP2 (.ref (qT2 0)) (.ref (qE2 0)) SP2) (w7 ca qT2 ST2) (w1 ca qE2 SE2) (w6 ca qP3 (.ref (qT3 0)) (.ref (qE3 0)) SP3) (w7 ca qT3 z4.1) (w1 ca qE3 z4.2) (w6 ca qP4 (.ref (qT4 0)) (.ref (qE4 0)) SP4) (w7 ca qT4 ST4) (w1 ca qE4 SE4)) hD
        obtain rfl := Option.some.inj hf
        exact tc_ri X hP hD hS rfl dX11_mark_49 rfl rfl
      · have hf := tc_neg hq1_1 hf
        by_cases hq1_2 : (gi SC 13) = (2 : Int32)
        · have hf := tc_pos hq1_2 hf
          refine tc_ald (b := qP4 0) X hP 19 3 rfl rfl 2 (by rw [hq1_2]; decide) (by rw [hq1_2]; exact inb_vp (by decide)) rfl dX11_mark_23 ?_
          refine lv_aload_n hx hb dX11_mark_24 rfl (lv_at hl 0 rfl) ?_
          refine va_get (D := (dC, dI)) (ci := 11) (v := .ref (qP0 0)) (C := RX11) (T := TX11) (N := 20) hx hb hts i_X11 hown hK hP 0 rfl rfl 10 (by decide) (hts _ wf_X11_39) (fun _ h9 => h9) rfl dX11_mark_25 ?_
          obtain ⟨z6, hg, hf⟩ := tc_bi hf
          refine tc_vVp (As := [.ref (qP0 0)]) (rest := []) (b := qP4 0) (wc := w6 ca qP4 (.ref (qT4 0)) (.ref (qE4 0)) SP4 ++ w7 ca qT4 ST4 ++ w1 ca qE4 SE4 ++ w6 ca qP0 (.ref (qT0 0)) (.ref (qE0 0)) SP0 ++ w7 ca qT0 ST0 ++ w1 ca qE0 SE0) (wr := w11 ca qC (rC3) (rC4) (rC6) (rC7) (.ref (qP0 0)) (rC11) (.ref (qZ 0)) (rC14) (rC15) (rC17) (rC18) (rC19) SC ++ wLS ca qZ (rf3 (qP2 0) (qP3 0) (qP4 0)) ++ w6 ca qP2 (.ref (qT2 0)) (.ref (qE2 0)) SP2 ++ w7 ca qT2 ST2 ++ w1 ca qE2 SE2 ++ w6 ca qP3 (.ref (qT3 0)) (.ref (qE3 0)) SP3 ++ w7 ca qT3 ST3 ++ w1 ca qE3 SE3) X hP hD hS (mX6_copyFrom hg) okX6_copyFrom wl_X11_416 wi_X6_copyFrom ws_X6_X6_copyFrom_X6_copyFrom ⟨rfl, rfl, Nat.le_of_ble_eq_true rfl, Nat.le_of_ble_eq_true rfl⟩ 6 0 rfl rfl (pm_28 (w11 ca qC (rC3) (rC4) (rC6) (rC7) (.ref (qP0 0)) (rC11) (.ref (qZ 0)) (rC14) (rC15) (rC17) (rC18) (rC19) SC) (w6 ca qP0 (.ref (qT0 0)) (.ref (qE0 0)) SP0) (w7 ca qT0 ST0) (w1 ca qE0 SE0) (wLS ca qZ (rf3 (qP2 0) (qP3 0) (qP4 0))) (w6 ca qP2 (.ref (qT2 0)) (.ref (qE2 0)) SP2) (w7 ca qT2 ST2) (w1 ca qE2 SE2) (w6 ca qP3 (.ref (qT3 0)) (.ref (qE3 0)) SP3) (w7 ca qT3 ST3) (w1 ca qE3 SE3) (w6 ca qP4 (.ref (qT4 0)) (.ref (qE4 0)) SP4) (w7 ca qT4 ST4) (w1 ca qE4 SE4)) rfl hl.1 (Nat.le_of_ble_eq_true rfl) dX11_mark_28 (fun H locs hP hD hS => ?_)
          have hP := tc_Pm (pm_29 (w11 ca qC (rC3) (rC4) (rC6) (rC7) (.ref (qP0 0)) (rC11) (.ref (qZ 0)) (rC14) (rC15) (rC17) (rC18) (rC19) SC) (w6 ca qP0 (.ref (qT0 0)) (.ref (qE0 0)) SP0) (w7 ca qT0 ST0) (w1 ca qE0 SE0) (wLS ca qZ (rf3 (qP2 0) (qP3 0) (qP4 0))) (w6 ca qP2 (.ref (qT2 0)) (.ref (qE2 0)) SP2) (w7 ca qT2 ST2) (w1 ca qE2 SE2) (w6 ca qP3 (.ref (qT3 0)) (.ref (qE3 0)) SP3) (w7 ca qT3 ST3) (w1 ca qE3 SE3) (w6 ca qP4 (.ref (qT4 0)) (.ref (qE4 0)) SP4) (w7 ca qT4 z6.1) (w1 ca qE4 z6.2)) hP
          have hD := tc_Dm (pm_29 (w11 ca qC (rC3) (rC4) (rC6) (rC7) (.ref (qP0 0)) (rC11) (.ref (qZ 0)) (rC14) (rC15) (rC17) (rC18) (rC19) SC) (w6 ca qP0 (.ref (qT0 0)) (.ref (qE0 0)) SP0) (w7 ca qT0 ST0) (w1 ca qE0 SE0) (wLS ca qZ (rf3 (qP2 0) (qP3 0) (qP4 0))) (w6 ca qP2 (.ref (qT2 0)) (.ref (qE2 0)) SP2) (w7 ca qT2 ST2) (w1 ca qE2 SE2) (w6 ca qP3 (.ref (qT3 0)) (.ref (qE3 0)) SP3) (w7 ca qT3 ST3) (w1 ca qE3 SE3) (w6 ca qP4 (.ref (qT4 0)) (.ref (qE4 0)) SP4) (w7 ca qT4 z6.1) (w1 ca qE4 z6.2)) hD
          refine lv_aload_n hx hb dX11_mark_31 rfl (lv_at hl 0 rfl) ?_
          refine lv_dup hx hb dX11_mark_32 rfl ?_
          refine va_get (D := (dC, dI)) (ci := 11) (v := .int (gi SC 13)) (C := RX11) (T := TX11) (N := 20) hx hb hts i_X11 hown hK hP 0 rfl rfl 13 (by decide) (hts _ wf_X11_413) (fun _ h9 => h9) rfl dX11_mark_33 ?_
          refine lv_iconst (v := (1 : Int32)) hx hb dX11_mark_36 (by decide) ?_
          refine lv_iadd hx hb dX11_mark_37 ?_
          refine va_put (D := (dC, dI)) (ci := 11) (v := .int ((gi SC 13) + (1 : Int32))) (ty := .int) (C := RX11) (T := TX11) (N := 20) hx hb hts i_X11 tyX11 tyX11_ok nmX11 hown hK hP hD hS 0 rfl rfl 13 (by decide) (hts _ wf_X11_413) (fun _ h9 => h9) rfl (tyX11_ok 13 (by decide)) rfl rfl (Nat.le_of_ble_eq_true rfl) dX11_mark_38 (fun H locs hP hD hS => ?_)
          have hP := tc_eP (pwm30_0_13 ca qC qP0 qT0 qE0 qZ qP2 qT2 qE2 qP3 qT3 qE3 qP4 qT4 qE4 (rf3 (qP2 0) (qP3 0) (qP4 0)) (rC3) (rC4) (rC6) (rC7) (.ref (qP0 0)) (rC11) (.ref (qZ 0)) (rC14) (rC15) (rC17) (rC18) (rC19) (.ref (qT0 0)) (.ref (qE0 0)) (.ref (qT2 0)) (.ref (qE2 0)) (.ref (qT3 0)) (.ref (qE3 0)) (.ref (qT4 0)) (.ref (qE4 0)) SC SP0 ST0 SE0 SP2 ST2 SE2 SP3 ST3 SE3 SP4 z6.1 z6.2 ((gi SC 13) + (1 : Int32))) hP
          have hD := tc_eD (pwm30_0_13 ca qC qP0 qT0 qE0 qZ qP2 qT2 qE2 qP3 qT3 qE3 qP4 qT4 qE4 (rf3 (qP2 0) (qP3 0) (qP4 0)) (rC3) (rC4) (rC6) (rC7) (.ref (qP0 0)) (rC11) (.ref (qZ 0)) (rC14) (rC15) (rC17) (rC18) (rC19) (.ref (qT0 0)) (.ref (qE0 0)) (.ref (qT2 0)) (.ref (qE2 0)) (.ref (qT3 0)) (.ref (qE3 0)) (.ref (qT4 0)) (.ref (qE4 0)) SC SP0 ST0 SE0 SP2 ST2 SE2 SP3 ST3 SE3 SP4 z6.1 z6.2 ((gi SC 13) + (1 : Int32))) hD
          refine lv_aload_n hx hb dX11_mark_41 rfl (lv_at hl 0 rfl) ?_
          refine lv_aload_n hx hb dX11_mark_42 rfl (lv_at hl 0 rfl) ?_
          refine va_get (D := (dC, dI)) (ci := 11) (v := .int (gi (si SC 13 ((gi SC 13) + (1 : Int32))) 13)) (C := RX11) (T := TX11) (N := 20) hx hb hts i_X11 hown hK hP 0 rfl rfl 13 (by decide) (hts _ wf_X11_413) (fun _ h9 => h9) rfl dX11_mark_43 ?_
          obtain ⟨z7, hg, hf⟩ := tc_bi hf
          refine tc_iVp (As := [.int (gi (si SC 13 ((gi SC 13) + (1 : Int32))) 13)]) (rest := []) (b := qC 0) (wc := w11 ca qC (rC3) (rC4) (rC6) (rC7) (.ref (qP0 0)) (rC11) (.ref (qZ 0)) (rC14) (rC15) (rC17) (rC18) (rC19) (si SC 13 ((gi SC 13) + (1 : Int32)))) (wr := w6 ca qP0 (.ref (qT0 0)) (.ref (qE0 0)) SP0 ++ w7 ca qT0 ST0 ++ w1 ca qE0 SE0 ++ wLS ca qZ (rf3 (qP2 0) (qP3 0) (qP4 0)) ++ w6 ca qP2 (.ref (qT2 0)) (.ref (qE2 0)) SP2 ++ w7 ca qT2 ST2 ++ w1 ca qE2 SE2 ++ w6 ca qP3 (.ref (qT3 0)) (.ref (qE3 0)) SP3 ++ w7 ca qT3 ST3 ++ w1 ca qE3 SE3 ++ w6 ca qP4 (.ref (qT4 0)) (.ref (qE4 0)) SP4 ++ w7 ca qT4 z6.1 ++ w1 ca qE4 z6.2) X hP hD hS (mX11_answer hg) okX11_answer wl_X11_182 wi_X11_answer ws_X11_X11_answer_X11_answer ⟨rfl, rfl, Nat.le_of_ble_eq_true rfl, Nat.le_of_ble_eq_true rfl⟩ 11 0 rfl rfl (pm_24 (w11 ca qC (rC3) (rC4) (rC6) (rC7) (.ref (qP0 0)) (rC11) (.ref (qZ 0)) (rC14) (rC15) (rC17) (rC18) (rC19) (si SC 13 ((gi SC 13) + (1 : Int32)))) (w6 ca qP0 (.ref (qT0 0)) (.ref (qE0 0)) SP0) (w7 ca qT0 ST0) (w1 ca qE0 SE0) (wLS ca qZ (rf3 (qP2 0) (qP3 0) (qP4 0))) (w6 ca qP2 (.ref (qT2 0)) (.ref (qE2 0)) SP2) (w7 ca qT2 ST2) (w1 ca qE2 SE2) (w6 ca qP3 (.ref (qT3 0)) (.ref (qE3 0)) SP3) (w7 ca qT3 ST3) (w1 ca qE3 SE3) (w6 ca qP4 (.ref (qT4 0)) (.ref (qE4 0)) SP4) (w7 ca qT4 z6.1) (w1 ca qE4 z6.2)) rfl hl.1 (Nat.le_of_ble_eq_true rfl) dX11_mark_46 (fun H locs hP hD hS => ?_)
          have hP := tc_Pm (pm_25 (w11 ca qC (rC3) (rC4) (rC6) (rC7) (.ref (qP0 0)) (rC11) (.ref (qZ 0)) (rC14) (rC15) (rC17) (rC18) (rC19) z7.2) (w6 ca qP0 (.ref (qT0 0)) (.ref (qE0 0)) SP0) (w7 ca qT0 ST0) (w1 ca qE0 SE0) (wLS ca qZ (rf3 (qP2 0) (qP3 0) (qP4 0))) (w6 ca qP2 (.ref (qT2 0)) (.ref (qE2 0)) SP2) (w7 ca qT2 ST2) (w1 ca qE2 SE2) (w6 ca qP3 (.ref (qT3 0)) (.ref (qE3 0)) SP3) (w7 ca qT3 ST3) (w1 ca qE3 SE3) (w6 ca qP4 (.ref (qT4 0)) (.ref (qE4 0)) SP4) (w7 ca qT4 z6.1) (w1 ca qE4 z6.2)) hP
          have hD := tc_Dm (pm_25 (w11 ca qC (rC3) (rC4) (rC6) (rC7) (.ref (qP0 0)) (rC11) (.ref (qZ 0)) (rC14) (rC15) (rC17) (rC18) (rC19) z7.2) (w6 ca qP0 (.ref (qT0 0)) (.ref (qE0 0)) SP0) (w7 ca qT0 ST0) (w1 ca qE0 SE0) (wLS ca qZ (rf3 (qP2 0) (qP3 0) (qP4 0))) (w6 ca qP2 (.ref (qT2 0)) (.ref (qE2 0)) SP2) (w7 ca qT2 ST2) (w1 ca qE2 SE2) (w6 ca qP3 (.ref (qT3 0)) (.ref (qE3 0)) SP3) (w7 ca qT3 ST3) (w1 ca qE3 SE3) (w6 ca qP4 (.ref (qT4 0)) (.ref (qE4 0)) SP4) (w7 ca qT4 z6.1) (w1 ca qE4 z6.2)) hD
          obtain rfl := Option.some.inj hf
          exact tc_ri X hP hD hS rfl dX11_mark_49 rfl rfl
        · have hf := tc_neg hq1_2 hf
          cases hf
  · have hf := tc_pos hc hf
    refine lv_aload_n hx hb dX11_mark_8 rfl (lv_at hl 0 rfl) ?_
    refine lv_bipush (v := (7 : Int32)) hx hb dX11_mark_9 (by decide) ?_
    obtain ⟨z8, hg, hf⟩ := tc_bi hf
    refine tc_iVp (As := [.int ((7 : Int32))]) (rest := []) (b := qC 0) (wc := w11 ca qC (rC3) (rC4) (rC6) (rC7) (.ref (qP0 0)) (rC11) (.ref (qZ 0)) (rC14) (rC15) (rC17) (rC18) (rC19) SC) (wr := w6 ca qP0 (.ref (qT0 0)) (.ref (qE0 0)) SP0 ++ w7 ca qT0 ST0 ++ w1 ca qE0 SE0 ++ wLS ca qZ (rf3 (qP2 0) (qP3 0) (qP4 0)) ++ w6 ca qP2 (.ref (qT2 0)) (.ref (qE2 0)) SP2 ++ w7 ca qT2 ST2 ++ w1 ca qE2 SE2 ++ w6 ca qP3 (.ref (qT3 0)) (.ref (qE3 0)) SP3 ++ w7 ca qT3 ST3 ++ w1 ca qE3 SE3 ++ w6 ca qP4 (.ref (qT4 0)) (.ref (qE4 0)) SP4 ++ w7 ca qT4 ST4 ++ w1 ca qE4 SE4) X hP hD hS (mX11_refuse hg) okX11_refuse wl_X11_121 wi_X11_refuse ws_X11_X11_refuse_X11_refuse ⟨rfl, rfl, Nat.le_of_ble_eq_true rfl, Nat.le_of_ble_eq_true rfl⟩ 11 0 rfl rfl (pm_24 (w11 ca qC (rC3) (rC4) (rC6) (rC7) (.ref (qP0 0)) (rC11) (.ref (qZ 0)) (rC14) (rC15) (rC17) (rC18) (rC19) SC) (w6 ca qP0 (.ref (qT0 0)) (.ref (qE0 0)) SP0) (w7 ca qT0 ST0) (w1 ca qE0 SE0) (wLS ca qZ (rf3 (qP2 0) (qP3 0) (qP4 0))) (w6 ca qP2 (.ref (qT2 0)) (.ref (qE2 0)) SP2) (w7 ca qT2 ST2) (w1 ca qE2 SE2) (w6 ca qP3 (.ref (qT3 0)) (.ref (qE3 0)) SP3) (w7 ca qT3 ST3) (w1 ca qE3 SE3) (w6 ca qP4 (.ref (qT4 0)) (.ref (qE4 0)) SP4) (w7 ca qT4 ST4) (w1 ca qE4 SE4)) rfl hl.1 (Nat.le_of_ble_eq_true rfl) dX11_mark_11 (fun H locs hP hD hS => ?_)
    have hP := tc_Pm (pm_25 (w11 ca qC (rC3) (rC4) (rC6) (rC7) (.ref (qP0 0)) (rC11) (.ref (qZ 0)) (rC14) (rC15) (rC17) (rC18) (rC19) z8.2) (w6 ca qP0 (.ref (qT0 0)) (.ref (qE0 0)) SP0) (w7 ca qT0 ST0) (w1 ca qE0 SE0) (wLS ca qZ (rf3 (qP2 0) (qP3 0) (qP4 0))) (w6 ca qP2 (.ref (qT2 0)) (.ref (qE2 0)) SP2) (w7 ca qT2 ST2) (w1 ca qE2 SE2) (w6 ca qP3 (.ref (qT3 0)) (.ref (qE3 0)) SP3) (w7 ca qT3 ST3) (w1 ca qE3 SE3) (w6 ca qP4 (.ref (qT4 0)) (.ref (qE4 0)) SP4) (w7 ca qT4 ST4) (w1 ca qE4 SE4)) hP
    have hD := tc_Dm (pm_25 (w11 ca qC (rC3) (rC4) (rC6) (rC7) (.ref (qP0 0)) (rC11) (.ref (qZ 0)) (rC14) (rC15) (rC17) (rC18) (rC19) z8.2) (w6 ca qP0 (.ref (qT0 0)) (.ref (qE0 0)) SP0) (w7 ca qT0 ST0) (w1 ca qE0 SE0) (wLS ca qZ (rf3 (qP2 0) (qP3 0) (qP4 0))) (w6 ca qP2 (.ref (qT2 0)) (.ref (qE2 0)) SP2) (w7 ca qT2 ST2) (w1 ca qE2 SE2) (w6 ca qP3 (.ref (qT3 0)) (.ref (qE3 0)) SP3) (w7 ca qT3 ST3) (w1 ca qE3 SE3) (w6 ca qP4 (.ref (qT4 0)) (.ref (qE4 0)) SP4) (w7 ca qT4 ST4) (w1 ca qE4 SE4)) hD
    obtain rfl := Option.some.inj hf
    exact tc_ri X hP hD hS rfl dX11_mark_14 rfl rfl
theorem pm_30 (m0 m1 m2 m3 m4 m5 m6 m7 m8 m9 m10 m11 m12 m13 : va_W) : List.Perm (m0 ++ m1 ++ m2 ++ m3 ++ m4 ++ m5 ++ m6 ++ m7 ++ m8 ++ m9 ++ m10 ++ m11 ++ m12 ++ m13) ((m0 ++ m4 ++ m8 ++ m9 ++ m10 ++ m11 ++ m12 ++ m13) ++ (m1 ++ m2 ++ m3 ++ m5 ++ m6 ++ m7)) := by
  have h := tc_flat (tc_pk [] [m1, m2, m3, m4, m5, m6, m7, m8, m9, m10, m11, m12, m13] m0 (tc_pk [m1, m2, m3] [m5, m6, m7, m8, m9, m10, m11, m12, m13] m4 (tc_pk [m1, m2, m3, m5, m6, m7] [m9, m10, m11, m12, m13] m8 (tc_pk [m1, m2, m3, m5, m6, m7] [m10, m11, m12, m13] m9 (tc_pk [m1, m2, m3, m5, m6, m7] [m11, m12, m13] m10 (tc_pk [m1, m2, m3, m5, m6, m7] [m12, m13] m11 (tc_pk [m1, m2, m3, m5, m6, m7] [m13] m12 (tc_pk [m1, m2, m3, m5, m6, m7] [] m13 (tc_pk [] [m2, m3, m5, m6, m7] m1 (tc_pk [] [m3, m5, m6, m7] m2 (tc_pk [] [m5, m6, m7] m3 (tc_pk [] [m6, m7] m5 (tc_pk [] [m7] m6 (tc_pk [] [] m7 (List.Perm.refl _)))))))))))))) : List.Perm [m0, m1, m2, m3, m4, m5, m6, m7, m8, m9, m10, m11, m12, m13] [m0, m4, m8, m9, m10, m11, m12, m13, m1, m2, m3, m5, m6, m7])
  simpa [List.append_assoc] using h
theorem pm_31 (m0 m1 m2 m3 m4 m5 m6 m7 m8 m9 m10 m11 m12 m13 : va_W) : List.Perm ((m0 ++ m4 ++ m8 ++ m9 ++ m10 ++ m11 ++ m12 ++ m13) ++ (m1 ++ m2 ++ m3 ++ m5 ++ m6 ++ m7)) (m0 ++ m1 ++ m2 ++ m3 ++ m4 ++ m5 ++ m6 ++ m7 ++ m8 ++ m9 ++ m10 ++ m11 ++ m12 ++ m13) := by
  have h := tc_flat (tc_pk [] [m4, m8, m9, m10, m11, m12, m13, m1, m2, m3, m5, m6, m7] m0 (tc_pk [m4, m8, m9, m10, m11, m12, m13] [m2, m3, m5, m6, m7] m1 (tc_pk [m4, m8, m9, m10, m11, m12, m13] [m3, m5, m6, m7] m2 (tc_pk [m4, m8, m9, m10, m11, m12, m13] [m5, m6, m7] m3 (tc_pk [] [m8, m9, m10, m11, m12, m13, m5, m6, m7] m4 (tc_pk [m8, m9, m10, m11, m12, m13] [m6, m7] m5 (tc_pk [m8, m9, m10, m11, m12, m13] [m7] m6 (tc_pk [m8, m9, m10, m11, m12, m13] [] m7 (tc_pk [] [m9, m10, m11, m12, m13] m8 (tc_pk [] [m10, m11, m12, m13] m9 (tc_pk [] [m11, m12, m13] m10 (tc_pk [] [m12, m13] m11 (tc_pk [] [m13] m12 (tc_pk [] [] m13 (List.Perm.refl _)))))))))))))) : List.Perm [m0, m4, m8, m9, m10, m11, m12, m13, m1, m2, m3, m5, m6, m7] [m0, m1, m2, m3, m4, m5, m6, m7, m8, m9, m10, m11, m12, m13])
  simpa [List.append_assoc] using h
theorem pm_32 (m0 m1 m2 m3 m4 m5 m6 m7 m8 m9 m10 m11 m12 m13 : va_W) : List.Perm (m0 ++ m1 ++ m2 ++ m3 ++ m4 ++ m5 ++ m6 ++ m7 ++ m8 ++ m9 ++ m10 ++ m11 ++ m12 ++ m13) ((m0 ++ m4 ++ m5 ++ m6 ++ m7 ++ m11 ++ m12 ++ m13) ++ (m1 ++ m2 ++ m3 ++ m8 ++ m9 ++ m10)) := by
  have h := tc_flat (tc_pk [] [m1, m2, m3, m4, m5, m6, m7, m8, m9, m10, m11, m12, m13] m0 (tc_pk [m1, m2, m3] [m5, m6, m7, m8, m9, m10, m11, m12, m13] m4 (tc_pk [m1, m2, m3] [m6, m7, m8, m9, m10, m11, m12, m13] m5 (tc_pk [m1, m2, m3] [m7, m8, m9, m10, m11, m12, m13] m6 (tc_pk [m1, m2, m3] [m8, m9, m10, m11, m12, m13] m7 (tc_pk [m1, m2, m3, m8, m9, m10] [m12, m13] m11 (tc_pk [m1, m2, m3, m8, m9, m10] [m13] m12 (tc_pk [m1, m2, m3, m8, m9, m10] [] m13 (tc_pk [] [m2, m3, m8, m9, m10] m1 (tc_pk [] [m3, m8, m9, m10] m2 (tc_pk [] [m8, m9, m10] m3 (tc_pk [] [m9, m10] m8 (tc_pk [] [m10] m9 (tc_pk [] [] m10 (List.Perm.refl _)))))))))))))) : List.Perm [m0, m1, m2, m3, m4, m5, m6, m7, m8, m9, m10, m11, m12, m13] [m0, m4, m5, m6, m7, m11, m12, m13, m1, m2, m3, m8, m9, m10])
  simpa [List.append_assoc] using h
theorem pm_33 (m0 m1 m2 m3 m4 m5 m6 m7 m8 m9 m10 m11 m12 m13 : va_W) : List.Perm ((m0 ++ m4 ++ m5 ++ m6 ++ m7 ++ m11 ++ m12 ++ m13) ++ (m1 ++ m2 ++ m3 ++ m8 ++ m9 ++ m10)) (m0 ++ m1 ++ m2 ++ m3 ++ m4 ++ m5 ++ m6 ++ m7 ++ m8 ++ m9 ++ m10 ++ m11 ++ m12 ++ m13) := by
  have h := tc_flat (tc_pk [] [m4, m5, m6, m7, m11, m12, m13, m1, m2, m3, m8, m9, m10] m0 (tc_pk [m4, m5, m6, m7, m11, m12, m13] [m2, m3, m8, m9, m10] m1 (tc_pk [m4, m5, m6, m7, m11, m12, m13] [m3, m8, m9, m10] m2 (tc_pk [m4, m5, m6, m7, m11, m12, m13] [m8, m9, m10] m3 (tc_pk [] [m5, m6, m7, m11, m12, m13, m8, m9, m10] m4 (tc_pk [] [m6, m7, m11, m12, m13, m8, m9, m10] m5 (tc_pk [] [m7, m11, m12, m13, m8, m9, m10] m6 (tc_pk [] [m11, m12, m13, m8, m9, m10] m7 (tc_pk [m11, m12, m13] [m9, m10] m8 (tc_pk [m11, m12, m13] [m10] m9 (tc_pk [m11, m12, m13] [] m10 (tc_pk [] [m12, m13] m11 (tc_pk [] [m13] m12 (tc_pk [] [] m13 (List.Perm.refl _)))))))))))))) : List.Perm [m0, m4, m5, m6, m7, m11, m12, m13, m1, m2, m3, m8, m9, m10] [m0, m1, m2, m3, m4, m5, m6, m7, m8, m9, m10, m11, m12, m13])
  simpa [List.append_assoc] using h
theorem pm_34 (m0 m1 m2 m3 m4 m5 m6 m7 m8 m9 m10 m11 m12 m13 : va_W) : List.Perm (m0 ++ m1 ++ m2 ++ m3 ++ m4 ++ m5 ++ m6 ++ m7 ++ m8 ++ m9 ++ m10 ++ m11 ++ m12 ++ m13) ((m0 ++ m4 ++ m5 ++ m6 ++ m7 ++ m8 ++ m9 ++ m10) ++ (m1 ++ m2 ++ m3 ++ m11 ++ m12 ++ m13)) := by
  have h := tc_flat (tc_pk [] [m1, m2, m3, m4, m5, m6, m7, m8, m9, m10, m11, m12, m13] m0 (tc_pk [m1, m2, m3] [m5, m6, m7, m8, m9, m10, m11, m12, m13] m4 (tc_pk [m1, m2, m3] [m6, m7, m8, m9, m10, m11, m12, m13] m5 (tc_pk [m1, m2, m3] [m7, m8, m9, m10, m11, m12, m13] m6 (tc_pk [m1, m2, m3] [m8, m9, m10, m11, m12, m13] m7 (tc_pk [m1, m2, m3] [m9, m10, m11, m12, m13] m8 (tc_pk [m1, m2, m3] [m10, m11, m12, m13] m9 (tc_pk [m1, m2, m3] [m11, m12, m13] m10 (tc_pk [] [m2, m3, m11, m12, m13] m1 (tc_pk [] [m3, m11, m12, m13] m2 (tc_pk [] [m11, m12, m13] m3 (tc_pk [] [m12, m13] m11 (tc_pk [] [m13] m12 (tc_pk [] [] m13 (List.Perm.refl _)))))))))))))) : List.Perm [m0, m1, m2, m3, m4, m5, m6, m7, m8, m9, m10, m11, m12, m13] [m0, m4, m5, m6, m7, m8, m9, m10, m1, m2, m3, m11, m12, m13])
  simpa [List.append_assoc] using h
theorem pm_35 (m0 m1 m2 m3 m4 m5 m6 m7 m8 m9 m10 m11 m12 m13 : va_W) : List.Perm ((m0 ++ m4 ++ m5 ++ m6 ++ m7 ++ m8 ++ m9 ++ m10) ++ (m1 ++ m2 ++ m3 ++ m11 ++ m12 ++ m13)) (m0 ++ m1 ++ m2 ++ m3 ++ m4 ++ m5 ++ m6 ++ m7 ++ m8 ++ m9 ++ m10 ++ m11 ++ m12 ++ m13) := by
  have h := tc_flat (tc_pk [] [m4, m5, m6, m7, m8, m9, m10, m1, m2, m3, m11, m12, m13] m0 (tc_pk [m4, m5, m6, m7, m8, m9, m10] [m2, m3, m11, m12, m13] m1 (tc_pk [m4, m5, m6, m7, m8, m9, m10] [m3, m11, m12, m13] m2 (tc_pk [m4, m5, m6, m7, m8, m9, m10] [m11, m12, m13] m3 (tc_pk [] [m5, m6, m7, m8, m9, m10, m11, m12, m13] m4 (tc_pk [] [m6, m7, m8, m9, m10, m11, m12, m13] m5 (tc_pk [] [m7, m8, m9, m10, m11, m12, m13] m6 (tc_pk [] [m8, m9, m10, m11, m12, m13] m7 (tc_pk [] [m9, m10, m11, m12, m13] m8 (tc_pk [] [m10, m11, m12, m13] m9 (tc_pk [] [m11, m12, m13] m10 (tc_pk [] [m12, m13] m11 (tc_pk [] [m13] m12 (tc_pk [] [] m13 (List.Perm.refl _)))))))))))))) : List.Perm [m0, m4, m5, m6, m7, m8, m9, m10, m1, m2, m3, m11, m12, m13] [m0, m1, m2, m3, m4, m5, m6, m7, m8, m9, m10, m11, m12, m13])
  simpa [List.append_assoc] using h
def fX11_back  (SC : ms_T) (SP0 : ms_T) (ST0 : ms_T) (SE0 : ms_T) (SP2 : ms_T) (ST2 : ms_T) (SE2 : ms_T) (SP3 : ms_T) (ST3 : ms_T) (SE3 : ms_T) (SP4 : ms_T) (ST4 : ms_T) (SE4 : ms_T)  : Option (Int32 × ms_T × ms_T × ms_T) :=
  if (gi SC 13) = 0 then
    (fX11_refuse SC (8 : Int32)).bind fun z8 =>
    some (z8.1, z8.2, ST0, SE0)
  else
    if (gi (si SC 13 ((gi SC 13) - (1 : Int32))) 13) = (0 : Int32) then
      (fX6_copyFrom SP0 ST0 SE0 SP2 ST2 SE2).bind fun z2 =>
      (fX11_answer (si SC 13 ((gi SC 13) - (1 : Int32))) (gi (si SC 13 ((gi SC 13) - (1 : Int32))) 13)).bind fun z3 =>
      some (z3.1, z3.2, z2.1, z2.2)
    else
      if (gi (si SC 13 ((gi SC 13) - (1 : Int32))) 13) = (1 : Int32) then
        (fX6_copyFrom SP0 ST0 SE0 SP3 ST3 SE3).bind fun z4 =>
        (fX11_answer (si SC 13 ((gi SC 13) - (1 : Int32))) (gi (si SC 13 ((gi SC 13) - (1 : Int32))) 13)).bind fun z5 =>
        some (z5.1, z5.2, z4.1, z4.2)
      else
        if (gi (si SC 13 ((gi SC 13) - (1 : Int32))) 13) = (2 : Int32) then
          (fX6_copyFrom SP0 ST0 SE0 SP4 ST4 SE4).bind fun z6 =>
          (fX11_answer (si SC 13 ((gi SC 13) - (1 : Int32))) (gi (si SC 13 ((gi SC 13) - (1 : Int32))) 13)).bind fun z7 =>
          some (z7.1, z7.2, z6.1, z6.2)
        else
          none
abbrev rmX11_back : Room := { frames := 10, cells := 0, slots := 0, locals := 442 }
theorem okX11_back : tc_ok yX11_back cX11_back 1 (some .int) 0 := ⟨wc_X11_back, wn_X11, by decide, by decide, by decide +kernel⟩
set_option maxRecDepth 20000 in
theorem mX11_back {qC : Nat → Nat} {qP0 : Nat → Nat} {qT0 : Nat → Nat} {qE0 : Nat → Nat} {qZ : Nat → Nat} {qP2 : Nat → Nat} {qT2 : Nat → Nat} {qE2 : Nat → Nat} {qP3 : Nat → Nat} {qT3 : Nat → Nat} {qE3 : Nat → Nat} {qP4 : Nat → Nat} {qT4 : Nat → Nat} {qE4 : Nat → Nat} {rC3 : Value} {rC4 : Value} {rC6 : Value} {rC7 : Value} {rC11 : Value} {rC14 : Value} {rC15 : Value} {rC17 : Value} {rC18 : Value} {rC19 : Value} {SC : ms_T} {SP0 : ms_T} {ST0 : ms_T} {SE0 : ms_T} {SP2 : ms_T} {ST2 : ms_T} {SE2 : ms_T} {SP3 : ms_T} {ST3 : ms_T} {SE3 : ms_T} {SP4 : ms_T} {ST4 : ms_T} {SE4 : ms_T}  {z : Int32 × ms_T × ms_T × ms_T}  (hf : fX11_back SC SP0 ST0 SE0 SP2 ST2 SE2 SP3 ST3 SE3 SP4 ST4 SE4 = some z) : tc_MI l dC dI ca yX11_back cX11_back 1 (some .int) rmX11_back [.ref (qC 0)] (w11 ca qC (rC3) (rC4) (rC6) (rC7) (.ref (qP0 0)) (rC11) (.ref (qZ 0)) (rC14) (rC15) (rC17) (rC18) (rC19) SC ++ w6 ca qP0 (.ref (qT0 0)) (.ref (qE0 0)) SP0 ++ w7 ca qT0 ST0 ++ w1 ca qE0 SE0 ++ wLS ca qZ (rf3 (qP2 0) (qP3 0) (qP4 0)) ++ w6 ca qP2 (.ref (qT2 0)) (.ref (qE2 0)) SP2 ++ w7 ca qT2 ST2 ++ w1 ca qE2 SE2 ++ w6 ca qP3 (.ref (qT3 0)) (.ref (qE3 0)) SP3 ++ w7 ca qT3 ST3 ++ w1 ca qE3 SE3 ++ w6 ca qP4 (.ref (qT4 0)) (.ref (qE4 0)) SP4 ++ w7 ca qT4 ST4 ++ w1 ca qE4 SE4) (w11 ca qC (rC3) (rC4) (rC6) (rC7) (.ref (qP0 0)) (rC11) (.ref (qZ 0)) (rC14) (rC15) (rC17) (rC18) (rC19) z.2.1 ++ w6 ca qP0 (.ref (qT0 0)) (.ref (qE0 0)) SP0 ++ w7 ca qT0 z.2.2.1 ++ w1 ca qE0 z.2.2.2 ++ wLS ca qZ (rf3 (qP2 0) (qP3 0) (qP4 0)) ++ w6 ca qP2 (.ref (qT2 0)) (.ref (qE2 0)) SP2 ++ w7 ca qT2 ST2 ++ w1 ca qE2 SE2 ++ w6 ca qP3 (.ref (qT3 0)) (.ref (qE3 0)) SP3 ++ w7 ca qT3 ST3 ++ w1 ca qE3 SE3 ++ w6 ca qP4 (.ref (qT4 0)) (.ref (qE4 0)) SP4 ++ w7 ca qT4 ST4 ++ w1 ca qE4 SE4) (z.1) := by
  refine tc_metI (own := RX11) (by decide) rfl ?_ (Nat.le_of_ble_eq_true rfl)
  intro p e s m below meth c A X hP hD hS ls hl
  obtain ⟨hx, hb, hr, hml, hown, hts, hlk, hK, hA, hG⟩ := id X
  unfold fX11_back at hf
  have hl : lv_has ls 1 [(0, .ref (qC 0))] := hl
  refine lv_aload_n hx hb dX11_back_0 rfl (lv_at hl 0 rfl) ?_
  refine va_get (D := (dC, dI)) (ci := 11) (v := .int (gi SC 13)) (C := RX11) (T := TX11) (N := 20) hx hb hts i_X11 hown hK hP 0 rfl rfl 13 (by decide) (hts _ wf_X11_413) (fun _ h9 => h9) rfl dX11_back_1 ?_
  refine lv_if_ne (tgt := 14) hx hb dX11_back_4 (by decide) (fun hc => ?_) (fun hc => ?_)
  · have hf := tc_neg hc hf
    refine lv_aload_n hx hb dX11_back_14 rfl (lv_at hl 0 rfl) ?_
    refine lv_dup hx hb dX11_back_15 rfl ?_
    refine va_get (D := (dC, dI)) (ci := 11) (v := .int (gi SC 13)) (C := RX11) (T := TX11) (N := 20) hx hb hts i_X11 hown hK hP 0 rfl rfl 13 (by decide) (hts _ wf_X11_413) (fun _ h9 => h9) rfl dX11_back_16 ?_
    refine lv_iconst (v := (1 : Int32)) hx hb dX11_back_19 (by decide) ?_
    refine lv_isub hx hb dX11_back_20 ?_
    refine va_put (D := (dC, dI)) (ci := 11) (v := .int ((gi SC 13) - (1 : Int32))) (ty := .int) (C := RX11) (T := TX11) (N := 20) hx hb hts i_X11 tyX11 tyX11_ok nmX11 hown hK hP hD hS 0 rfl rfl 13 (by decide) (hts _ wf_X11_413) (fun _ h9 => h9) rfl (tyX11_ok 13 (by decide)) rfl rfl (Nat.le_of_ble_eq_true rfl) dX11_back_21 (fun H locs hP hD hS => ?_)
    have hP := tc_eP (pwm30_0_13 ca qC qP0 qT0 qE0 qZ qP2 qT2 qE2 qP3 qT3 qE3 qP4 qT4 qE4 (rf3 (qP2 0) (qP3 0) (qP4 0)) (rC3) (rC4) (rC6) (rC7) (.ref (qP0 0)) (rC11) (.ref (qZ 0)) (rC14) (rC15) (rC17) (rC18) (rC19) (.ref (qT0 0)) (.ref (qE0 0)) (.ref (qT2 0)) (.ref (qE2 0)) (.ref (qT3 0)) (.ref (qE3 0)) (.ref (qT4 0)) (.ref (qE4 0)) SC SP0 ST0 SE0 SP2 ST2 SE2 SP3 ST3 SE3 SP4 ST4 SE4 ((gi SC 13) - (1 : Int32))) hP
    have hD := tc_eD (pwm30_0_13 ca qC qP0 qT0 qE0 qZ qP2 qT2 qE2 qP3 qT3 qE3 qP4 qT4 qE4 (rf3 (qP2 0) (qP3 0) (qP4 0)) (rC3) (rC4) (rC6) (rC7) (.ref (qP0 0)) (rC11) (.ref (qZ 0)) (rC14) (rC15) (rC17) (rC18) (rC19) (.ref (qT0 0)) (.ref (qE0 0)) (.ref (qT2 0)) (.ref (qE2 0)) (.ref (qT3 0)) (.ref (qE3 0)) (.ref (qT4 0)) (.ref (qE4 0)) SC SP0 ST0 SE0 SP2 ST2 SE2 SP3 ST3 SE3 SP4 ST4 SE4 ((gi SC 13) - (1 : Int32))) hD
    refine lv_aload_n hx hb dX11_back_24 rfl (lv_at hl 0 rfl) ?_
    refine va_get (D := (dC, dI)) (ci := 11) (v := .ref (qP0 0)) (C := RX11) (T := TX11) (N := 20) hx hb hts i_X11 hown hK hP 0 rfl rfl 10 (by decide) (hts _ wf_X11_39) (fun _ h9 => h9) rfl dX11_back_25 ?_
    refine lv_aload_n hx hb dX11_back_28 rfl (lv_at hl 0 rfl) ?_
    refine va_get (D := (dC, dI)) (ci := 11) (v := .ref (qZ 0)) (C := RX11) (T := TX11) (N := 20) hx hb hts i_X11 hown hK hP 0 rfl rfl 12 (by decide) (hts _ wf_X11_46) (fun _ h9 => h9) rfl dX11_back_29 ?_
    refine lv_aload_n hx hb dX11_back_32 rfl (lv_at hl 0 rfl) ?_
    refine va_get (D := (dC, dI)) (ci := 11) (v := .int (gi (si SC 13 ((gi SC 13) - (1 : Int32))) 13)) (C := RX11) (T := TX11) (N := 20) hx hb hts i_X11 hown hK hP 0 rfl rfl 13 (by decide) (hts _ wf_X11_413) (fun _ h9 => h9) rfl dX11_back_33 ?_
    by_cases hq1_0 : (gi (si SC 13 ((gi SC 13) - (1 : Int32))) 13) = (0 : Int32)
    · have hf := tc_pos hq1_0 hf
      refine tc_ald (b := qP2 0) X hP 19 3 rfl rfl 0 (by rw [hq1_0]; decide) (by rw [hq1_0]; exact inb_vp (by decide)) rfl dX11_back_36 ?_
      obtain ⟨z2, hg, hf⟩ := tc_bi hf
      refine tc_vVp (As := [.ref (qP2 0)]) (rest := []) (b := qP0 0) (wc := w6 ca qP0 (.ref (qT0 0)) (.ref (qE0 0)) SP0 ++ w7 ca qT0 ST0 ++ w1 ca qE0 SE0 ++ w6 ca qP2 (.ref (qT2 0)) (.ref (qE2 0)) SP2 ++ w7 ca qT2 ST2 ++ w1 ca qE2 SE2) (wr := w11 ca qC (rC3) (rC4) (rC6) (rC7) (.ref (qP0 0)) (rC11) (.ref (qZ 0)) (rC14) (rC15) (rC17) (rC18) (rC19) (si SC 13 ((gi SC 13) - (1 : Int32))) ++ wLS ca qZ (rf3 (qP2 0) (qP3 0) (qP4 0)) ++ w6 ca qP3 (.ref (qT3 0)) (.ref (qE3 0)) SP3 ++ w7 ca qT3 ST3 ++ w1 ca qE3 SE3 ++ w6 ca qP4 (.ref (qT4 0)) (.ref (qE4 0)) SP4 ++ w7 ca qT4 ST4 ++ w1 ca qE4 SE4) X hP hD hS (mX6_copyFrom hg) okX6_copyFrom wl_X11_416 wi_X6_copyFrom ws_X6_X6_copyFrom_X6_copyFrom ⟨rfl, rfl, Nat.le_of_ble_eq_true rfl, Nat.le_of_ble_eq_true rfl⟩ 6 0 rfl rfl (pm_30 (w11 ca qC (rC3) (rC4) (rC6) (rC7) (.ref (qP0 0)) (rC11) (.ref (qZ 0)) (rC14) (rC15) (rC17) (rC18) (rC19) (si SC 13 ((gi SC 13) - (1 : Int32)))) (w6 ca qP0 (.ref (qT0 0)) (.ref (qE0 0)) SP0) (w7 ca qT0 ST0) (w1 ca qE0 SE0) (wLS ca qZ (rf3 (qP2 0) (qP3 0) (qP4 0))) (w6 ca qP2 (.ref (qT2 0)) (.ref (qE2 0)) SP2) (w7 ca qT2 ST2) (w1 ca qE2 SE2) (w6 ca qP3 (.ref (qT3 0)) (.ref (qE3 0)) SP3) (w7 ca qT3 ST3) (w1 ca qE3 SE3) (w6 ca qP4 (.ref (qT4 0)) (.ref (qE4 0)) SP4) (w7 ca qT4 ST4) (w1 ca qE4 SE4)) rfl hl.1 (Nat.le_of_ble_eq_true rfl) dX11_back_37 (fun H locs hP hD hS => ?_)
      have hP := tc_Pm (pm_31 (w11 ca qC (rC3) (rC4) (rC6) (rC7) (.ref (qP0 0)) (rC11) (.ref (qZ 0)) (rC14) (rC15) (rC17) (rC18) (rC19) (si SC 13 ((gi SC 13) - (1 : Int32)))) (w6 ca qP0 (.ref (qT0 0)) (.ref (qE0 0)) SP0) (w7 ca qT0 z2.1) (w1 ca qE0 z2.2) (wLS ca qZ (rf3 (qP2 0) (qP3 0) (qP4 0))) (w6 ca qP2 (.ref (qT2 0)) (.ref (qE2 0)) SP2) (w7 ca qT2 ST2) (w1 ca qE2 SE2) (w6 ca qP3 (.ref (qT3 0)) (.ref (qE3 0)) SP3) (w7 ca qT3 ST3) (w1 ca qE3 SE3) (w6 ca qP4 (.ref (qT4 0)) (.ref (qE4 0)) SP4) (w7 ca qT4 ST4) (w1 ca qE4 SE4)) hP
      have hD := tc_Dm (pm_31 (w11 ca qC (rC3) (rC4) (rC6) (rC7) (.ref (qP0 0)) (rC11) (.ref (qZ 0)) (rC14) (rC15) (rC17) (rC18) (rC19) (si SC 13 ((gi SC 13) - (1 : Int32)))) (w6 ca qP0 (.ref (qT0 0)) (.ref (qE0 0)) SP0) (w7 ca qT0 z2.1) (w1 ca qE0 z2.2) (wLS ca qZ (rf3 (qP2 0) (qP3 0) (qP4 0))) (w6 ca qP2 (.ref (qT2 0)) (.ref (qE2 0)) SP2) (w7 ca qT2 ST2) (w1 ca qE2 SE2) (w6 ca qP3 (.ref (qT3 0)) (.ref (qE3 0)) SP3) (w7 ca qT3 ST3) (w1 ca qE3 SE3) (w6 ca qP4 (.ref (qT4 0)) (.ref (qE4 0)) SP4) (w7 ca qT4 ST4) (w1 ca qE4 SE4)) hD
      refine lv_aload_n hx hb dX11_back_40 rfl (lv_at hl 0 rfl) ?_
      refine lv_aload_n hx hb dX11_back_41 rfl (lv_at hl 0 rfl) ?_
      refine va_get (D := (dC, dI)) (ci := 11) (v := .int (gi (si SC 13 ((gi SC 13) - (1 : Int32))) 13)) (C := RX11) (T := TX11) (N := 20) hx hb hts i_X11 hown hK hP 0 rfl rfl 13 (by decide) (hts _ wf_X11_413) (fun _ h9 => h9) rfl dX11_back_42 ?_
      obtain ⟨z3, hg, hf⟩ := tc_bi hf
      refine tc_iVp (As := [.int (gi (si SC 13 ((gi SC 13) - (1 : Int32))) 13)]) (rest := []) (b := qC 0) (wc := w11 ca qC (rC3) (rC4) (rC6) (rC7) (.ref (qP0 0)) (rC11) (.ref (qZ 0)) (rC14) (rC15) (rC17) (rC18) (rC19) (si SC 13 ((gi SC 13) - (1 : Int32)))) (wr := w6 ca qP0 (.ref (qT0 0)) (.ref (qE0 0)) SP0 ++ w7 ca qT0 z2.1 ++ w1 ca qE0 z2.2 ++ wLS ca qZ (rf3 (qP2 0) (qP3 0) (qP4 0)) ++ w6 ca qP2 (.ref (qT2 0)) (.ref (qE2 0)) SP2 ++ w7 ca qT2 ST2 ++ w1 ca qE2 SE2 ++ w6 ca qP3 (.ref (qT3 0)) (.ref (qE3 0)) SP3 ++ w7 ca qT3 ST3 ++ w1 ca qE3 SE3 ++ w6 ca qP4 (.ref (qT4 0)) (.ref (qE4 0)) SP4 ++ w7 ca qT4 ST4 ++ w1 ca qE4 SE4) X hP hD hS (mX11_answer hg) okX11_answer wl_X11_182 wi_X11_answer ws_X11_X11_answer_X11_answer ⟨rfl, rfl, Nat.le_of_ble_eq_true rfl, Nat.le_of_ble_eq_true rfl⟩ 11 0 rfl rfl (pm_24 (w11 ca qC (rC3) (rC4) (rC6) (rC7) (.ref (qP0 0)) (rC11) (.ref (qZ 0)) (rC14) (rC15) (rC17) (rC18) (rC19) (si SC 13 ((gi SC 13) - (1 : Int32)))) (w6 ca qP0 (.ref (qT0 0)) (.ref (qE0 0)) SP0) (w7 ca qT0 z2.1) (w1 ca qE0 z2.2) (wLS ca qZ (rf3 (qP2 0) (qP3 0) (qP4 0))) (w6 ca qP2 (.ref (qT2 0)) (.ref (qE2 0)) SP2) (w7 ca qT2 ST2) (w1 ca qE2 SE2) (w6 ca qP3 (.ref (qT3 0)) (.ref (qE3 0)) SP3) (w7 ca qT3 ST3) (w1 ca qE3 SE3) (w6 ca qP4 (.ref (qT4 0)) (.ref (qE4 0)) SP4) (w7 ca qT4 ST4) (w1 ca qE4 SE4)) rfl hl.1 (Nat.le_of_ble_eq_true rfl) dX11_back_45 (fun H locs hP hD hS => ?_)
      have hP := tc_Pm (pm_25 (w11 ca qC (rC3) (rC4) (rC6) (rC7) (.ref (qP0 0)) (rC11) (.ref (qZ 0)) (rC14) (rC15) (rC17) (rC18) (rC19) z3.2) (w6 ca qP0 (.ref (qT0 0)) (.ref (qE0 0)) SP0) (w7 ca qT0 z2.1) (w1 ca qE0 z2.2) (wLS ca qZ (rf3 (qP2 0) (qP3 0) (qP4 0))) (w6 ca qP2 (.ref (qT2 0)) (.ref (qE2 0)) SP2) (w7 ca qT2 ST2) (w1 ca qE2 SE2) (w6 ca qP3 (.ref (qT3 0)) (.ref (qE3 0)) SP3) (w7 ca qT3 ST3) (w1 ca qE3 SE3) (w6 ca qP4 (.ref (qT4 0)) (.ref (qE4 0)) SP4) (w7 ca qT4 ST4) (w1 ca qE4 SE4)) hP
      have hD := tc_Dm (pm_25 (w11 ca qC (rC3) (rC4) (rC6) (rC7) (.ref (qP0 0)) (rC11) (.ref (qZ 0)) (rC14) (rC15) (rC17) (rC18) (rC19) z3.2) (w6 ca qP0 (.ref (qT0 0)) (.ref (qE0 0)) SP0) (w7 ca qT0 z2.1) (w1 ca qE0 z2.2) (wLS ca qZ (rf3 (qP2 0) (qP3 0) (qP4 0))) (w6 ca qP2 (.ref (qT2 0)) (.ref (qE2 0)) SP2) (w7 ca qT2 ST2) (w1 ca qE2 SE2) (w6 ca qP3 (.ref (qT3 0)) (.ref (qE3 0)) SP3) (w7 ca qT3 ST3) (w1 ca qE3 SE3) (w6 ca qP4 (.ref (qT4 0)) (.ref (qE4 0)) SP4) (w7 ca qT4 ST4) (w1 ca qE4 SE4)) hD
      obtain rfl := Option.some.inj hf
      exact tc_ri X hP hD hS rfl dX11_back_48 rfl rfl
    · have hf := tc_neg hq1_0 hf
      by_cases hq1_1 : (gi (si SC 13 ((gi SC 13) - (1 : Int32))) 13) = (1 : Int32)
      · have hf := tc_pos hq1_1 hf
        refine tc_ald (b := qP3 0) X hP 19 3 rfl rfl 1 (by rw [hq1_1]; decide) (by rw [hq1_1]; exact inb_vp (by decide)) rfl dX11_back_36 ?_
        obtain ⟨z4, hg, hf⟩ := tc_bi hf
        refine tc_vVp (As := [.ref (qP3 0)]) (rest := []) (b := qP0 0) (wc := w6 ca qP0 (.ref (qT0 0)) (.ref (qE0 0)) SP0 ++ w7 ca qT0 ST0 ++ w1 ca qE0 SE0 ++ w6 ca qP3 (.ref (qT3 0)) (.ref (qE3 0)) SP3 ++ w7 ca qT3 ST3 ++ w1 ca qE3 SE3) (wr := w11 ca qC (rC3) (rC4) (rC6) (rC7) (.ref (qP0 0)) (rC11) (.ref (qZ 0)) (rC14) (rC15) (rC17) (rC18) (rC19) (si SC 13 ((gi SC 13) - (1 : Int32))) ++ wLS ca qZ (rf3 (qP2 0) (qP3 0) (qP4 0)) ++ w6 ca qP2 (.ref (qT2 0)) (.ref (qE2 0)) SP2 ++ w7 ca qT2 ST2 ++ w1 ca qE2 SE2 ++ w6 ca qP4 (.ref (qT4 0)) (.ref (qE4 0)) SP4 ++ w7 ca qT4 ST4 ++ w1 ca qE4 SE4) X hP hD hS (mX6_copyFrom hg) okX6_copyFrom wl_X11_416 wi_X6_copyFrom ws_X6_X6_copyFrom_X6_copyFrom ⟨rfl, rfl, Nat.le_of_ble_eq_true rfl, Nat.le_of_ble_eq_true rfl⟩ 6 0 rfl rfl (pm_32 (w11 ca qC (rC3) (rC4) (rC6) (rC7) (.ref (qP0 0)) (rC11) (.ref (qZ 0)) (rC14) (rC15) (rC17) (rC18) (rC19) (si SC 13 ((gi SC 13) - (1 : Int32)))) (w6 ca qP0 (.ref (qT0 0)) (.ref (qE0 0)) SP0) (w7 ca qT0 ST0) (w1 ca qE0 SE0) (wLS ca qZ (rf3 (qP2 0) (qP3 0) (qP4 0))) (w6 ca qP2 (.ref (qT2 0)) (.ref (qE2 0)) SP2) (w7 ca qT2 ST2) (w1 ca qE2 SE2) (w6 ca qP3 (.ref (qT3 0)) (.ref (qE3 0)) SP3) (w7 ca qT3 ST3) (w1 ca qE3 SE3) (w6 ca qP4 (.ref (qT4 0)) (.ref (qE4 0)) SP4) (w7 ca qT4 ST4) (w1 ca qE4 SE4)) rfl hl.1 (Nat.le_of_ble_eq_true rfl) dX11_back_37 (fun H locs hP hD hS => ?_)
        have hP := tc_Pm (pm_33 (w11 ca qC (rC3) (rC4) (rC6) (rC7) (.ref (qP0 0)) (rC11) (.ref (qZ 0)) (rC14) (rC15) (rC17) (rC18) (rC19) (si SC 13 ((gi SC 13) - (1 : Int32)))) (w6 ca qP0 (.ref (qT0 0)) (.ref (qE0 0)) SP0) (w7 ca qT0 z4.1) (w1 ca qE0 z4.2) (wLS ca qZ (rf3 (qP2 0) (qP3 0) (qP4 0))) (w6 ca qP2 (.ref (qT2 0)) (.ref (qE2 0)) SP2) (w7 ca qT2 ST2) (w1 ca qE2 SE2) (w6 ca qP3 (.ref (qT3 0)) (.ref (qE3 0)) SP3) (w7 ca qT3 ST3) (w1 ca qE3 SE3) (w6 ca qP4 (.ref (qT4 0)) (.ref (qE4 0)) SP4) (w7 ca qT4 ST4) (w1 ca qE4 SE4)) hP
        have hD := tc_Dm (pm_33 (w11 ca qC (rC3) (rC4) (rC6) (rC7) (.ref (qP0 0)) (rC11) (.ref (qZ 0)) (rC14) (rC15) (rC17) (rC18) (rC19) (si SC 13 ((gi SC 13) - (1 : Int32)))) (w6 ca qP0 (.ref (qT0 0)) (.ref (qE0 0)) SP0) (w7 ca qT0 z4.1) (w1 ca qE0 z4.2) (wLS ca qZ (rf3 (qP2 0) (qP3 0) (qP4 0))) (w6 ca qP2 (.ref (qT2 0)) (.ref (qE2 0)) SP2) (w7 ca qT2 ST2) (w1 ca qE2 SE2) (w6 ca qP3 (.ref (qT3 0)) (.ref (qE3 0)) SP3) (w7 ca qT3 ST3) (w1 ca qE3 SE3) (w6 ca qP4 (.ref (qT4 0)) (.ref (qE4 0)) SP4) (w7 ca qT4 ST4) (w1 ca qE4 SE4)) hD
        refine lv_aload_n hx hb dX11_back_40 rfl (lv_at hl 0 rfl) ?_
        refine lv_aload_n hx hb dX11_back_41 rfl (lv_at hl 0 rfl) ?_
        refine va_get (D := (dC, dI)) (ci := 11) (v := .int (gi (si SC 13 ((gi SC 13) - (1 : Int32))) 13)) (C := RX11) (T := TX11) (N := 20) hx hb hts i_X11 hown hK hP 0 rfl rfl 13 (by decide) (hts _ wf_X11_413) (fun _ h9 => h9) rfl dX11_back_42 ?_
        obtain ⟨z5, hg, hf⟩ := tc_bi hf
        refine tc_iVp (As := [.int (gi (si SC 13 ((gi SC 13) - (1 : Int32))) 13)]) (rest := []) (b := qC 0) (wc := w11 ca qC (rC3) (rC4) (rC6) (rC7) (.ref (qP0 0)) (rC11) (.ref (qZ 0)) (rC14) (rC15) (rC17) (rC18) (rC19) (si SC 13 ((gi SC 13) - (1 : Int32)))) (wr := w6 ca qP0 (.ref (qT0 0)) (.ref (qE0 0)) SP0 ++ w7 ca qT0 z4.1 ++ w1 ca qE0 z4.2 ++ wLS ca qZ (rf3 (qP2 0) (qP3 0) (qP4 0)) ++ w6 ca qP2 (.ref (qT2 0)) (.ref (qE2 0)) SP2 ++ w7 ca qT2 ST2 ++ w1 ca qE2 SE2 ++ w6 ca qP3 (.ref (qT3 0)) (.ref (qE3 0)) SP3 ++ w7 ca qT3 ST3 ++ w1 ca qE3 SE3 ++ w6 ca qP4 (.ref (qT4 0)) (.ref (qE4 0)) SP4 ++ w7 ca qT4 ST4 ++ w1 ca qE4 SE4) X hP hD hS (mX11_answer hg) okX11_answer wl_X11_182 wi_X11_answer ws_X11_X11_answer_X11_answer ⟨rfl, rfl, Nat.le_of_ble_eq_true rfl, Nat.le_of_ble_eq_true rfl⟩ 11 0 rfl rfl (pm_24 (w11 ca qC (rC3) (rC4) (rC6) (rC7) (.ref (qP0 0)) (rC11) (.ref (qZ 0)) (rC14) (rC15) (rC17) (rC18) (rC19) (si SC 13 ((gi SC 13) - (1 : Int32)))) (w6 ca qP0 (.ref (qT0 0)) (.ref (qE0 0)) SP0) (w7 ca qT0 z4.1) (w1 ca qE0 z4.2) (wLS ca qZ (rf3 (qP2 0) (qP3 0) (qP4 0))) (w6 ca qP2 (.ref (qT2 0)) (.ref (qE2 0)) SP2) (w7 ca qT2 ST2) (w1 ca qE2 SE2) (w6 ca qP3 (.ref (qT3 0)) (.ref (qE3 0)) SP3) (w7 ca qT3 ST3) (w1 ca qE3 SE3) (w6 ca qP4 (.ref (qT4 0)) (.ref (qE4 0)) SP4) (w7 ca qT4 ST4) (w1 ca qE4 SE4)) rfl hl.1 (Nat.le_of_ble_eq_true rfl) dX11_back_45 (fun H locs hP hD hS => ?_)
        have hP := tc_Pm (pm_25 (w11 ca qC (rC3) (rC4) (rC6) (rC7) (.ref (qP0 0)) (rC11) (.ref (qZ 0)) (rC14) (rC15) (rC17) (rC18) (rC19) z5.2) (w6 ca qP0 (.ref (qT0 0)) (.ref (qE0 0)) SP0) (w7 ca qT0 z4.1) (w1 ca qE0 z4.2) (wLS ca qZ (rf3 (qP2 0) (qP3 0) (qP4 0))) (w6 ca qP2 (.ref (qT2 0)) (.ref (qE2 0)) SP2) (w7 ca qT2 ST2) (w1 ca qE2 SE2) (w6 ca qP3 (.ref (qT3 0)) (.ref (qE3 0)) SP3) (w7 ca qT3 ST3) (w1 ca qE3 SE3) (w6 ca qP4 (.ref (qT4 0)) (.ref (qE4 0)) SP4) (w7 ca qT4 ST4) (w1 ca qE4 SE4)) hP
        have hD := tc_Dm (pm_25 (w11 ca qC (rC3) (rC4) (rC6) (rC7) (.ref (qP0 0)) (rC11) (.ref (qZ 0)) (rC14) (rC15) (rC17) (rC18) (rC19) z5.2) (w6 ca qP0 (.ref (qT0 0)) (.ref (qE0 0)) SP0) (w7 ca qT0 z4.1) (w1 ca qE0 z4.2) (wLS ca qZ (rf3 (qP2 0) (qP3 0) (qP4 0))) (w6 ca qP2 (.ref (qT2 0)) (.ref (qE2 0)) SP2) (w7 ca qT2 ST2) (w1 ca qE2 SE2) (w6 ca qP3 (.ref (qT3 0)) (.ref (qE3 0)) SP3) (w7 ca qT3 ST3) (w1 ca qE3 SE3) (w6 ca qP4 (.ref (qT4 0)) (.ref (qE4 0)) SP4) (w7 ca qT4 ST4) (w1 ca qE4 SE4)) hD
        obtain rfl := Option.some.inj hf
        exact tc_ri X hP hD hS rfl dX11_back_48 rfl rfl
      · have hf := tc_neg hq1_1 hf
        by_cases hq1_2 : (gi (si SC 13 ((gi SC 13) - (1 : Int32))) 13) = (2 : Int32)
        · have hf := tc_pos hq1_2 hf
          refine tc_ald (b := qP4 0) X hP 19 3 rfl rfl 2 (by rw [hq1_2]; decide) (by rw [hq1_2]; exact inb_vp (by decide)) rfl dX11_back_36 ?_
          obtain ⟨z6, hg, hf⟩ := tc_bi hf
          refine tc_vVp (As := [.ref (qP4 0)]) (rest := []) (b := qP0 0) (wc := w6 ca qP0 (.ref (qT0 0)) (.ref (qE0 0)) SP0 ++ w7 ca qT0 ST0 ++ w1 ca qE0 SE0 ++ w6 ca qP4 (.ref (qT4 0)) (.ref (qE4 0)) SP4 ++ w7 ca qT4 ST4 ++ w1 ca qE4 SE4) (wr := w11 ca qC (rC3) (rC4) (rC6) (rC7) (.ref (qP0 0)) (rC11) (.ref (qZ 0)) (rC14) (rC15) (rC17) (rC18) (rC19) (si SC 13 ((gi SC 13) - (1 : Int32))) ++ wLS ca qZ (rf3 (qP2 0) (qP3 0) (qP4 0)) ++ w6 ca qP2 (.ref (qT2 0)) (.ref (qE2 0)) SP2 ++ w7 ca qT2 ST2 ++ w1 ca qE2 SE2 ++ w6 ca qP3 (.ref (qT3 0)) (.ref (qE3 0)) SP3 ++ w7 ca qT3 ST3 ++ w1 ca qE3 SE3) X hP hD hS (mX6_copyFrom hg) okX6_copyFrom wl_X11_416 wi_X6_copyFrom ws_X6_X6_copyFrom_X6_copyFrom ⟨rfl, rfl, Nat.le_of_ble_eq_true rfl, Nat.le_of_ble_eq_true rfl⟩ 6 0 rfl rfl (pm_34 (w11 ca qC (rC3) (rC4) (rC6) (rC7) (.ref (qP0 0)) (rC11) (.ref (qZ 0)) (rC14) (rC15) (rC17) (rC18) (rC19) (si SC 13 ((gi SC 13) - (1 : Int32)))) (w6 ca qP0 (.ref (qT0 0)) (.ref (qE0 0)) SP0) (w7 ca qT0 ST0) (w1 ca qE0 SE0) (wLS ca qZ (rf3 (qP2 0) (qP3 0) (qP4 0))) (w6 ca qP2 (.ref (qT2 0)) (.ref (qE2 0)) SP2) (w7 ca qT2 ST2) (w1 ca qE2 SE2) (w6 ca qP3 (.ref (qT3 0)) (.ref (qE3 0)) SP3) (w7 ca qT3 ST3) (w1 ca qE3 SE3) (w6 ca qP4 (.ref (qT4 0)) (.ref (qE4 0)) SP4) (w7 ca qT4 ST4) (w1 ca qE4 SE4)) rfl hl.1 (Nat.le_of_ble_eq_true rfl) dX11_back_37 (fun H locs hP hD hS => ?_)
          have hP := tc_Pm (pm_35 (w11 ca qC (rC3) (rC4) (rC6) (rC7) (.ref (qP0 0)) (rC11) (.ref (qZ 0)) (rC14) (rC15) (rC17) (rC18) (rC19) (si SC 13 ((gi SC 13) - (1 : Int32)))) (w6 ca qP0 (.ref (qT0 0)) (.ref (qE0 0)) SP0) (w7 ca qT0 z6.1) (w1 ca qE0 z6.2) (wLS ca qZ (rf3 (qP2 0) (qP3 0) (qP4 0))) (w6 ca qP2 (.ref (qT2 0)) (.ref (qE2 0)) SP2) (w7 ca qT2 ST2) (w1 ca qE2 SE2) (w6 ca qP3 (.ref (qT3 0)) (.ref (qE3 0)) SP3) (w7 ca qT3 ST3) (w1 ca qE3 SE3) (w6 ca qP4 (.ref (qT4 0)) (.ref (qE4 0)) SP4) (w7 ca qT4 ST4) (w1 ca qE4 SE4)) hP
          have hD := tc_Dm (pm_35 (w11 ca qC (rC3) (rC4) (rC6) (rC7) (.ref (qP0 0)) (rC11) (.ref (qZ 0)) (rC14) (rC15) (rC17) (rC18) (rC19) (si SC 13 ((gi SC 13) - (1 : Int32)))) (w6 ca qP0 (.ref (qT0 0)) (.ref (qE0 0)) SP0) (w7 ca qT0 z6.1) (w1 ca qE0 z6.2) (wLS ca qZ (rf3 (qP2 0) (qP3 0) (qP4 0))) (w6 ca qP2 (.ref (qT2 0)) (.ref (qE2 0)) SP2) (w7 ca qT2 ST2) (w1 ca qE2 SE2) (w6 ca qP3 (.ref (qT3 0)) (.ref (qE3 0)) SP3) (w7 ca qT3 ST3) (w1 ca qE3 SE3) (w6 ca qP4 (.ref (qT4 0)) (.ref (qE4 0)) SP4) (w7 ca qT4 ST4) (w1 ca qE4 SE4)) hD
          refine lv_aload_n hx hb dX11_back_40 rfl (lv_at hl 0 rfl) ?_
          refine lv_aload_n hx hb dX11_back_41 rfl (lv_at hl 0 rfl) ?_
          refine va_get (D := (dC, dI)) (ci := 11) (v := .int (gi (si SC 13 ((gi SC 13) - (1 : Int32))) 13)) (C := RX11) (T := TX11) (N := 20) hx hb hts i_X11 hown hK hP 0 rfl rfl 13 (by decide) (hts _ wf_X11_413) (fun _ h9 => h9) rfl dX11_back_42 ?_
          obtain ⟨z7, hg, hf⟩ := tc_bi hf
          refine tc_iVp (As := [.int (gi (si SC 13 ((gi SC 13) - (1 : Int32))) 13)]) (rest := []) (b := qC 0) (wc := w11 ca qC (rC3) (rC4) (rC6) (rC7) (.ref (qP0 0)) (rC11) (.ref (qZ 0)) (rC14) (rC15) (rC17) (rC18) (rC19) (si SC 13 ((gi SC 13) - (1 : Int32)))) (wr := w6 ca qP0 (.ref (qT0 0)) (.ref (qE0 0)) SP0 ++ w7 ca qT0 z6.1 ++ w1 ca qE0 z6.2 ++ wLS ca qZ (rf3 (qP2 0) (qP3 0) (qP4 0)) ++ w6 ca qP2 (.ref (qT2 0)) (.ref (qE2 0)) SP2 ++ w7 ca qT2 ST2 ++ w1 ca qE2 SE2 ++ w6 ca qP3 (.ref (qT3 0)) (.ref (qE3 0)) SP3 ++ w7 ca qT3 ST3 ++ w1 ca qE3 SE3 ++ w6 ca qP4 (.ref (qT4 0)) (.ref (qE4 0)) SP4 ++ w7 ca qT4 ST4 ++ w1 ca qE4 SE4) X hP hD hS (mX11_answer hg) okX11_answer wl_X11_182 wi_X11_answer ws_X11_X11_answer_X11_answer ⟨rfl, rfl, Nat.le_of_ble_eq_true rfl, Nat.le_of_ble_eq_true rfl⟩ 11 0 rfl rfl (pm_24 (w11 ca qC (rC3) (rC4) (rC6) (rC7) (.ref (qP0 0)) (rC11) (.ref (qZ 0)) (rC14) (rC15) (rC17) (rC18) (rC19) (si SC 13 ((gi SC 13) - (1 : Int32)))) (w6 ca qP0 (.ref (qT0 0)) (.ref (qE0 0)) SP0) (w7 ca qT0 z6.1) (w1 ca qE0 z6.2) (wLS ca qZ (rf3 (qP2 0) (qP3 0) (qP4 0))) (w6 ca qP2 (.ref (qT2 0)) (.ref (qE2 0)) SP2) (w7 ca qT2 ST2) (w1 ca qE2 SE2) (w6 ca qP3 (.ref (qT3 0)) (.ref (qE3 0)) SP3) (w7 ca qT3 ST3) (w1 ca qE3 SE3) (w6 ca qP4 (.ref (qT4 0)) (.ref (qE4 0)) SP4) (w7 ca qT4 ST4) (w1 ca qE4 SE4)) rfl hl.1 (Nat.le_of_ble_eq_true rfl) dX11_back_45 (fun H locs hP hD hS => ?_)
          have hP := tc_Pm (pm_25 (w11 ca qC (rC3) (rC4) (rC6) (rC7) (.ref (qP0 0)) (rC11) (.ref (qZ 0)) (rC14) (rC15) (rC17) (rC18) (rC19) z7.2) (w6 ca qP0 (.ref (qT0 0)) (.ref (qE0 0)) SP0) (w7 ca qT0 z6.1) (w1 ca qE0 z6.2) (wLS ca qZ (rf3 (qP2 0) (qP3 0) (qP4 0))) (w6 ca qP2 (.ref (qT2 0)) (.ref (qE2 0)) SP2) (w7 ca qT2 ST2) (w1 ca qE2 SE2) (w6 ca qP3 (.ref (qT3 0)) (.ref (qE3 0)) SP3) (w7 ca qT3 ST3) (w1 ca qE3 SE3) (w6 ca qP4 (.ref (qT4 0)) (.ref (qE4 0)) SP4) (w7 ca qT4 ST4) (w1 ca qE4 SE4)) hP
          have hD := tc_Dm (pm_25 (w11 ca qC (rC3) (rC4) (rC6) (rC7) (.ref (qP0 0)) (rC11) (.ref (qZ 0)) (rC14) (rC15) (rC17) (rC18) (rC19) z7.2) (w6 ca qP0 (.ref (qT0 0)) (.ref (qE0 0)) SP0) (w7 ca qT0 z6.1) (w1 ca qE0 z6.2) (wLS ca qZ (rf3 (qP2 0) (qP3 0) (qP4 0))) (w6 ca qP2 (.ref (qT2 0)) (.ref (qE2 0)) SP2) (w7 ca qT2 ST2) (w1 ca qE2 SE2) (w6 ca qP3 (.ref (qT3 0)) (.ref (qE3 0)) SP3) (w7 ca qT3 ST3) (w1 ca qE3 SE3) (w6 ca qP4 (.ref (qT4 0)) (.ref (qE4 0)) SP4) (w7 ca qT4 ST4) (w1 ca qE4 SE4)) hD
          obtain rfl := Option.some.inj hf
          exact tc_ri X hP hD hS rfl dX11_back_48 rfl rfl
        · have hf := tc_neg hq1_2 hf
          cases hf
  · have hf := tc_pos hc hf
    refine lv_aload_n hx hb dX11_back_7 rfl (lv_at hl 0 rfl) ?_
    refine lv_bipush (v := (8 : Int32)) hx hb dX11_back_8 (by decide) ?_
    obtain ⟨z8, hg, hf⟩ := tc_bi hf
    refine tc_iVp (As := [.int ((8 : Int32))]) (rest := []) (b := qC 0) (wc := w11 ca qC (rC3) (rC4) (rC6) (rC7) (.ref (qP0 0)) (rC11) (.ref (qZ 0)) (rC14) (rC15) (rC17) (rC18) (rC19) SC) (wr := w6 ca qP0 (.ref (qT0 0)) (.ref (qE0 0)) SP0 ++ w7 ca qT0 ST0 ++ w1 ca qE0 SE0 ++ wLS ca qZ (rf3 (qP2 0) (qP3 0) (qP4 0)) ++ w6 ca qP2 (.ref (qT2 0)) (.ref (qE2 0)) SP2 ++ w7 ca qT2 ST2 ++ w1 ca qE2 SE2 ++ w6 ca qP3 (.ref (qT3 0)) (.ref (qE3 0)) SP3 ++ w7 ca qT3 ST3 ++ w1 ca qE3 SE3 ++ w6 ca qP4 (.ref (qT4 0)) (.ref (qE4 0)) SP4 ++ w7 ca qT4 ST4 ++ w1 ca qE4 SE4) X hP hD hS (mX11_refuse hg) okX11_refuse wl_X11_121 wi_X11_refuse ws_X11_X11_refuse_X11_refuse ⟨rfl, rfl, Nat.le_of_ble_eq_true rfl, Nat.le_of_ble_eq_true rfl⟩ 11 0 rfl rfl (pm_24 (w11 ca qC (rC3) (rC4) (rC6) (rC7) (.ref (qP0 0)) (rC11) (.ref (qZ 0)) (rC14) (rC15) (rC17) (rC18) (rC19) SC) (w6 ca qP0 (.ref (qT0 0)) (.ref (qE0 0)) SP0) (w7 ca qT0 ST0) (w1 ca qE0 SE0) (wLS ca qZ (rf3 (qP2 0) (qP3 0) (qP4 0))) (w6 ca qP2 (.ref (qT2 0)) (.ref (qE2 0)) SP2) (w7 ca qT2 ST2) (w1 ca qE2 SE2) (w6 ca qP3 (.ref (qT3 0)) (.ref (qE3 0)) SP3) (w7 ca qT3 ST3) (w1 ca qE3 SE3) (w6 ca qP4 (.ref (qT4 0)) (.ref (qE4 0)) SP4) (w7 ca qT4 ST4) (w1 ca qE4 SE4)) rfl hl.1 (Nat.le_of_ble_eq_true rfl) dX11_back_10 (fun H locs hP hD hS => ?_)
    have hP := tc_Pm (pm_25 (w11 ca qC (rC3) (rC4) (rC6) (rC7) (.ref (qP0 0)) (rC11) (.ref (qZ 0)) (rC14) (rC15) (rC17) (rC18) (rC19) z8.2) (w6 ca qP0 (.ref (qT0 0)) (.ref (qE0 0)) SP0) (w7 ca qT0 ST0) (w1 ca qE0 SE0) (wLS ca qZ (rf3 (qP2 0) (qP3 0) (qP4 0))) (w6 ca qP2 (.ref (qT2 0)) (.ref (qE2 0)) SP2) (w7 ca qT2 ST2) (w1 ca qE2 SE2) (w6 ca qP3 (.ref (qT3 0)) (.ref (qE3 0)) SP3) (w7 ca qT3 ST3) (w1 ca qE3 SE3) (w6 ca qP4 (.ref (qT4 0)) (.ref (qE4 0)) SP4) (w7 ca qT4 ST4) (w1 ca qE4 SE4)) hP
    have hD := tc_Dm (pm_25 (w11 ca qC (rC3) (rC4) (rC6) (rC7) (.ref (qP0 0)) (rC11) (.ref (qZ 0)) (rC14) (rC15) (rC17) (rC18) (rC19) z8.2) (w6 ca qP0 (.ref (qT0 0)) (.ref (qE0 0)) SP0) (w7 ca qT0 ST0) (w1 ca qE0 SE0) (wLS ca qZ (rf3 (qP2 0) (qP3 0) (qP4 0))) (w6 ca qP2 (.ref (qT2 0)) (.ref (qE2 0)) SP2) (w7 ca qT2 ST2) (w1 ca qE2 SE2) (w6 ca qP3 (.ref (qT3 0)) (.ref (qE3 0)) SP3) (w7 ca qT3 ST3) (w1 ca qE3 SE3) (w6 ca qP4 (.ref (qT4 0)) (.ref (qE4 0)) SP4) (w7 ca qT4 ST4) (w1 ca qE4 SE4)) hD
    obtain rfl := Option.some.inj hf
    exact tc_ri X hP hD hS rfl dX11_back_13 rfl rfl
end G
