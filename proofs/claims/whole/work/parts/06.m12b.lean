section G
variable {p : Program} {l : Launch} {e : Env} {s : State} {m : MethodId} {args : Array Value} {below : List Frame} {meth : Method} {c : Code} {dC : Nat → ClassId} {dI : Nat → Nat → Nat} {ca : Nat → ClassId} {A : Nat → Prop}
def fX12_readTopic  (S : ms_T)  : Option (ms_T) :=
  (fX12_readNew S (0 : Int32) (9 : Int32)).bind fun z1 =>
  (fX12_isWorth z1.2).bind fun z2 =>
  (fX12_behindWord z1.2 z2 (0 : Int32) (20 : Int32)).bind fun z3 =>
  (fX12_isDrift z3.2).bind fun z4 =>
  (fX12_behindWord z3.2 z4 (0 : Int32) (3 : Int32)).bind fun z5 =>
  if (gi z5.2 12) ≤ 0 then
    if inb ((1462 : Int32) + z1.1) 1820 = true then
      if inb ((1471 : Int32) + z1.1) 1820 = true then
        some (sa (sa (sa z5.2 5 ((1462 : Int32) + z1.1) z3.1) 5 ((1471 : Int32) + z1.1) z5.1) 5 (1456 : Int32) ((ia (sa (sa z5.2 5 ((1462 : Int32) + z1.1) z3.1) 5 ((1471 : Int32) + z1.1) z5.1) 5 (1456 : Int32)) + (1 : Int32)))
      else none
    else none
  else
    some (z5.2)
abbrev rmX12_readTopic : Room := { frames := 5, cells := 0, slots := 0, locals := 110 }
theorem okX12_readTopic : tc_ok yX12_readTopic cX12_readTopic 4 none 0 := ⟨wc_X12_readTopic, wn_X12, by decide, by decide, by decide +kernel⟩
set_option maxRecDepth 20000 in
theorem mX12_readTopic {q : Nat → Nat}  {S : ms_T}  {z : ms_T}  (hf : fX12_readTopic S = some z) : tc_MV l dC dI ca yX12_readTopic cX12_readTopic 4 none rmX12_readTopic [.ref (q 0)] (w12 ca q S) (w12 ca q z) := by
  refine tc_metV (own := RX12) (by decide) rfl ?_ (Nat.le_of_ble_eq_true rfl)
  intro p e s m below meth c A X hP hD hS ls hl
  obtain ⟨hx, hb, hr, hml, hown, hts, hlk, hK, hA, hG⟩ := id X
  unfold fX12_readTopic at hf
  have hl : lv_has ls 4 [(0, .ref (q 0))] := hl
  refine lv_aload_n hx hb dX12_readTopic_0 rfl (lv_at hl 0 rfl) ?_
  refine lv_iconst (v := (0 : Int32)) hx hb dX12_readTopic_1 (by decide) ?_
  refine lv_bipush (v := (9 : Int32)) hx hb dX12_readTopic_2 (by decide) ?_
  obtain ⟨z1, hg, hf⟩ := tc_bi hf
  refine tc_iVs (As := [.int ((0 : Int32)), .int ((9 : Int32))]) (rest := []) (b := q 0) X hP hD hS (mX12_readNew hg) okX12_readNew wl_X12_257 wi_X12_readNew ws_X12_X12_readNew_X12_readNew ⟨rfl, rfl, Nat.le_of_ble_eq_true rfl, Nat.le_of_ble_eq_true rfl⟩ 12 0 rfl rfl rfl hl.1 (Nat.le_of_ble_eq_true rfl) dX12_readTopic_4 (fun H locs hP hD hS => ?_)
  refine lv_istore_n (lv' := [(1, .int (z1.1)), (0, .ref (q 0))]) hx hb dX12_readTopic_7 rfl hl (by decide) rfl (fun ls hl => ?_)
  refine lv_aload_n hx hb dX12_readTopic_8 rfl (lv_at hl 1 rfl) ?_
  refine lv_aload_n hx hb dX12_readTopic_9 rfl (lv_at hl 1 rfl) ?_
  obtain ⟨z2, hg, hf⟩ := tc_bi hf
  refine tc_iVs (As := []) (rest := [.ref (q 0)]) (b := q 0) X hP hD hS (mX12_isWorth hg) okX12_isWorth wl_X12_160 wi_X12_isWorth ws_X12_X12_isWorth_X12_isWorth ⟨rfl, rfl, Nat.le_of_ble_eq_true rfl, Nat.le_of_ble_eq_true rfl⟩ 12 0 rfl rfl rfl hl.1 (Nat.le_of_ble_eq_true rfl) dX12_readTopic_10 (fun H locs hP hD hS => ?_)
  refine lv_iconst (v := (0 : Int32)) hx hb dX12_readTopic_13 (by decide) ?_
  refine lv_bipush (v := (20 : Int32)) hx hb dX12_readTopic_14 (by decide) ?_
  obtain ⟨z3, hg, hf⟩ := tc_bi hf
  refine tc_iVs (As := [.int (z2), .int ((0 : Int32)), .int ((20 : Int32))]) (rest := []) (b := q 0) X hP hD hS (mX12_behindWord hg) okX12_behindWord wl_X12_260 wi_X12_behindWord ws_X12_X12_behindWord_X12_behindWord ⟨rfl, rfl, Nat.le_of_ble_eq_true rfl, Nat.le_of_ble_eq_true rfl⟩ 12 0 rfl rfl rfl hl.1 (Nat.le_of_ble_eq_true rfl) dX12_readTopic_16 (fun H locs hP hD hS => ?_)
  refine lv_istore_n (lv' := [(2, .int (z3.1)), (1, .int (z1.1)), (0, .ref (q 0))]) hx hb dX12_readTopic_19 rfl hl (by decide) rfl (fun ls hl => ?_)
  refine lv_aload_n hx hb dX12_readTopic_20 rfl (lv_at hl 2 rfl) ?_
  refine lv_aload_n hx hb dX12_readTopic_21 rfl (lv_at hl 2 rfl) ?_
  obtain ⟨z4, hg, hf⟩ := tc_bi hf
  refine tc_iVs (As := []) (rest := [.ref (q 0)]) (b := q 0) X hP hD hS (mX12_isDrift hg) okX12_isDrift wl_X12_163 wi_X12_isDrift ws_X12_X12_isDrift_X12_isDrift ⟨rfl, rfl, Nat.le_of_ble_eq_true rfl, Nat.le_of_ble_eq_true rfl⟩ 12 0 rfl rfl rfl hl.1 (Nat.le_of_ble_eq_true rfl) dX12_readTopic_22 (fun H locs hP hD hS => ?_)
  refine lv_iconst (v := (0 : Int32)) hx hb dX12_readTopic_25 (by decide) ?_
  refine lv_iconst (v := (3 : Int32)) hx hb dX12_readTopic_26 (by decide) ?_
  obtain ⟨z5, hg, hf⟩ := tc_bi hf
  refine tc_iVs (As := [.int (z4), .int ((0 : Int32)), .int ((3 : Int32))]) (rest := []) (b := q 0) X hP hD hS (mX12_behindWord hg) okX12_behindWord wl_X12_260 wi_X12_behindWord ws_X12_X12_behindWord_X12_behindWord ⟨rfl, rfl, Nat.le_of_ble_eq_true rfl, Nat.le_of_ble_eq_true rfl⟩ 12 0 rfl rfl rfl hl.1 (Nat.le_of_ble_eq_true rfl) dX12_readTopic_27 (fun H locs hP hD hS => ?_)
  refine lv_istore_n (lv' := [(3, .int (z5.1)), (2, .int (z3.1)), (1, .int (z1.1)), (0, .ref (q 0))]) hx hb dX12_readTopic_30 rfl hl (by decide) rfl (fun ls hl => ?_)
  refine lv_aload_n hx hb dX12_readTopic_31 rfl (lv_at hl 3 rfl) ?_
  refine va_get (D := (dC, dI)) (ci := 12) (v := .int (gi z5.2 12)) (C := RX12) (T := TX12) (N := 49) hx hb hts i_X12 hown hK hP 0 rfl rfl 12 (by decide) (hts _ wf_X12_206) (fun _ h9 => h9) rfl dX12_readTopic_32 ?_
  refine lv_if_le (tgt := 39) hx hb dX12_readTopic_35 (by decide) (fun hc => ?_) (fun hc => ?_)
  · have hf := tc_pos hc hf
    refine lv_aload_n hx hb dX12_readTopic_39 rfl (lv_at hl 3 rfl) ?_
    refine va_get (D := (dC, dI)) (ci := 12) (v := .ref (q 5)) (C := RX12) (T := TX12) (N := 49) hx hb hts i_X12 hown hK hP 0 rfl rfl 20 (by decide) (hts _ wf_X12_35) (fun _ h9 => h9) rfl dX12_readTopic_40 ?_
    refine lv_sipush (v := (1462 : Int32)) hx hb dX12_readTopic_43 (by decide) ?_
    refine lv_iload_n hx hb dX12_readTopic_46 rfl (lv_at hl 2 rfl) ?_
    refine lv_iadd hx hb dX12_readTopic_47 ?_
    refine lv_iload_n hx hb dX12_readTopic_48 rfl (lv_at hl 1 rfl) ?_
    obtain ⟨hi6, hf⟩ := tc_in hf
    refine va_iast hx hb hK hP hD hS 5 1 rfl rfl hi6 dX12_readTopic_49 (fun H locs hP hD hS => ?_)
    have hP := tc_eP (aw12_0_5 ca q z5.2 ((1462 : Int32) + z1.1) z3.1) hP
    have hD := tc_eD (aw12_0_5 ca q z5.2 ((1462 : Int32) + z1.1) z3.1) hD
    refine lv_aload_n hx hb dX12_readTopic_50 rfl (lv_at hl 3 rfl) ?_
    refine va_get (D := (dC, dI)) (ci := 12) (v := .ref (q 5)) (C := RX12) (T := TX12) (N := 49) hx hb hts i_X12 hown hK hP 0 rfl rfl 20 (by decide) (hts _ wf_X12_35) (fun _ h9 => h9) rfl dX12_readTopic_51 ?_
    refine lv_sipush (v := (1471 : Int32)) hx hb dX12_readTopic_54 (by decide) ?_
    refine lv_iload_n hx hb dX12_readTopic_57 rfl (lv_at hl 2 rfl) ?_
    refine lv_iadd hx hb dX12_readTopic_58 ?_
    refine lv_iload_n hx hb dX12_readTopic_59 rfl (lv_at hl 0 rfl) ?_
    obtain ⟨hi7, hf⟩ := tc_in hf
    refine va_iast hx hb hK hP hD hS 5 1 rfl rfl hi7 dX12_readTopic_60 (fun H locs hP hD hS => ?_)
    have hP := tc_eP (aw12_0_5 ca q (sa z5.2 5 ((1462 : Int32) + z1.1) z3.1) ((1471 : Int32) + z1.1) z5.1) hP
    have hD := tc_eD (aw12_0_5 ca q (sa z5.2 5 ((1462 : Int32) + z1.1) z3.1) ((1471 : Int32) + z1.1) z5.1) hD
    refine lv_aload_n hx hb dX12_readTopic_61 rfl (lv_at hl 3 rfl) ?_
    refine va_get (D := (dC, dI)) (ci := 12) (v := .ref (q 5)) (C := RX12) (T := TX12) (N := 49) hx hb hts i_X12 hown hK hP 0 rfl rfl 20 (by decide) (hts _ wf_X12_35) (fun _ h9 => h9) rfl dX12_readTopic_62 ?_
    refine lv_sipush (v := (1456 : Int32)) hx hb dX12_readTopic_65 (by decide) ?_
    refine lv_dup2_11 hx hb dX12_readTopic_68 rfl rfl ?_
    refine va_iald hx hb hK hP 5 1 rfl rfl (inb_vp (by decide)) dX12_readTopic_69 ?_
    refine lv_iconst (v := (1 : Int32)) hx hb dX12_readTopic_70 (by decide) ?_
    refine lv_iadd hx hb dX12_readTopic_71 ?_
    refine va_iast hx hb hK hP hD hS 5 1 rfl rfl (inb_vp (by decide)) dX12_readTopic_72 (fun H locs hP hD hS => ?_)
    have hP := tc_eP (aw12_0_5 ca q (sa (sa z5.2 5 ((1462 : Int32) + z1.1) z3.1) 5 ((1471 : Int32) + z1.1) z5.1) (1456 : Int32) ((ia (sa (sa z5.2 5 ((1462 : Int32) + z1.1) z3.1) 5 ((1471 : Int32) + z1.1) z5.1) 5 (1456 : Int32)) + (1 : Int32))) hP
    have hD := tc_eD (aw12_0_5 ca q (sa (sa z5.2 5 ((1462 : Int32) + z1.1) z3.1) 5 ((1471 : Int32) + z1.1) z5.1) (1456 : Int32) ((ia (sa (sa z5.2 5 ((1462 : Int32) + z1.1) z3.1) 5 ((1471 : Int32) + z1.1) z5.1) 5 (1456 : Int32)) + (1 : Int32))) hD
    obtain rfl := Option.some.inj hf
    exact tc_rv X hP hD hS rfl dX12_readTopic_73 rfl
  · have hf := tc_neg hc hf
    obtain rfl := Option.some.inj hf
    exact tc_rv X hP hD hS rfl dX12_readTopic_38 rfl
def fX12_thinks  (S : ms_T) (a1 : Int32) (a2 : Int32) (a3 : Int32) (a4 : Int32) : Option (ms_T) :=
  if inb (((364 : Int32) * a1) + (1 : Int32)) 1820 = true then
    if inb ((((364 : Int32) * a1) + (24 : Int32)) + (ia S 5 (((364 : Int32) * a1) + (1 : Int32)))) 1820 = true then
      if inb ((((364 : Int32) * a1) + (32 : Int32)) + (ia S 5 (((364 : Int32) * a1) + (1 : Int32)))) 1820 = true then
        if inb ((((364 : Int32) * a1) + (40 : Int32)) + (ia S 5 (((364 : Int32) * a1) + (1 : Int32)))) 1820 = true then
          if inb (((364 : Int32) * a1) + (1 : Int32)) 1820 = true then
            if inb (((364 : Int32) * a1) + (1 : Int32)) 1820 = true then
              some (sa (sa (sa (sa S 5 ((((364 : Int32) * a1) + (24 : Int32)) + (ia S 5 (((364 : Int32) * a1) + (1 : Int32)))) a2) 5 ((((364 : Int32) * a1) + (32 : Int32)) + (ia S 5 (((364 : Int32) * a1) + (1 : Int32)))) a3) 5 ((((364 : Int32) * a1) + (40 : Int32)) + (ia S 5 (((364 : Int32) * a1) + (1 : Int32)))) a4) 5 (((364 : Int32) * a1) + (1 : Int32)) ((ia (sa (sa (sa S 5 ((((364 : Int32) * a1) + (24 : Int32)) + (ia S 5 (((364 : Int32) * a1) + (1 : Int32)))) a2) 5 ((((364 : Int32) * a1) + (32 : Int32)) + (ia S 5 (((364 : Int32) * a1) + (1 : Int32)))) a3) 5 ((((364 : Int32) * a1) + (40 : Int32)) + (ia S 5 (((364 : Int32) * a1) + (1 : Int32)))) a4) 5 (((364 : Int32) * a1) + (1 : Int32))) + (1 : Int32)))
            else none
          else none
        else none
      else none
    else none
  else none
abbrev rmX12_thinks : Room := { frames := 0, cells := 0, slots := 0, locals := 0 }
theorem okX12_thinks : tc_ok yX12_thinks cX12_thinks 7 none 4 := ⟨wc_X12_thinks, wn_X12, by decide, by decide, by decide +kernel⟩
set_option maxRecDepth 20000 in
theorem mX12_thinks {q : Nat → Nat}  {S : ms_T} {a1 : Int32} {a2 : Int32} {a3 : Int32} {a4 : Int32} {z : ms_T}  (hf : fX12_thinks S a1 a2 a3 a4 = some z) : tc_MV l dC dI ca yX12_thinks cX12_thinks 7 none rmX12_thinks [.ref (q 0), .int (a1), .int (a2), .int (a3), .int (a4)] (w12 ca q S) (w12 ca q z) := by
  refine tc_metV (own := RX12) (by decide) rfl ?_ (Nat.le_of_ble_eq_true rfl)
  intro p e s m below meth c A X hP hD hS ls hl
  obtain ⟨hx, hb, hr, hml, hown, hts, hlk, hK, hA, hG⟩ := id X
  unfold fX12_thinks at hf
  have hl : lv_has ls 7 [(0, .ref (q 0)), (1, .int (a1)), (2, .int (a2)), (3, .int (a3)), (4, .int (a4))] := hl
  refine lv_sipush (v := (364 : Int32)) hx hb dX12_thinks_0 (by decide) ?_
  refine lv_iload_n hx hb dX12_thinks_3 rfl (lv_at hl 1 rfl) ?_
  refine lv_imul hx hb dX12_thinks_4 ?_
  refine lv_istore (lv' := [(5, .int ((364 : Int32) * a1)), (0, .ref (q 0)), (1, .int (a1)), (2, .int (a2)), (3, .int (a3)), (4, .int (a4))]) hx hb dX12_thinks_5 hl (by decide) rfl (fun ls hl => ?_)
  refine lv_aload_n hx hb dX12_thinks_7 rfl (lv_at hl 1 rfl) ?_
  refine va_get (D := (dC, dI)) (ci := 12) (v := .ref (q 5)) (C := RX12) (T := TX12) (N := 49) hx hb hts i_X12 hown hK hP 0 rfl rfl 20 (by decide) (hts _ wf_X12_35) (fun _ h9 => h9) rfl dX12_thinks_8 ?_
  refine lv_iload hx hb dX12_thinks_11 (lv_at hl 0 rfl) ?_
  refine lv_iconst (v := (1 : Int32)) hx hb dX12_thinks_13 (by decide) ?_
  refine lv_iadd hx hb dX12_thinks_14 ?_
  obtain ⟨hi1, hf⟩ := tc_in hf
  refine va_iald hx hb hK hP 5 1 rfl rfl hi1 dX12_thinks_15 ?_
  refine lv_istore (lv' := [(6, .int (ia S 5 (((364 : Int32) * a1) + (1 : Int32)))), (5, .int ((364 : Int32) * a1)), (0, .ref (q 0)), (1, .int (a1)), (2, .int (a2)), (3, .int (a3)), (4, .int (a4))]) hx hb dX12_thinks_16 hl (by decide) rfl (fun ls hl => ?_)
  refine lv_aload_n hx hb dX12_thinks_18 rfl (lv_at hl 2 rfl) ?_
  refine va_get (D := (dC, dI)) (ci := 12) (v := .ref (q 5)) (C := RX12) (T := TX12) (N := 49) hx hb hts i_X12 hown hK hP 0 rfl rfl 20 (by decide) (hts _ wf_X12_35) (fun _ h9 => h9) rfl dX12_thinks_19 ?_
  refine lv_iload hx hb dX12_thinks_22 (lv_at hl 1 rfl) ?_
  refine lv_bipush (v := (24 : Int32)) hx hb dX12_thinks_24 (by decide) ?_
  refine lv_iadd hx hb dX12_thinks_26 ?_
  refine lv_iload hx hb dX12_thinks_27 (lv_at hl 0 rfl) ?_
  refine lv_iadd hx hb dX12_thinks_29 ?_
  refine lv_iload_n hx hb dX12_thinks_30 rfl (lv_at hl 4 rfl) ?_
  obtain ⟨hi2, hf⟩ := tc_in hf
  refine va_iast hx hb hK hP hD hS 5 1 rfl rfl hi2 dX12_thinks_31 (fun H locs hP hD hS => ?_)
  have hP := tc_eP (aw12_0_5 ca q S ((((364 : Int32) * a1) + (24 : Int32)) + (ia S 5 (((364 : Int32) * a1) + (1 : Int32)))) a2) hP
  have hD := tc_eD (aw12_0_5 ca q S ((((364 : Int32) * a1) + (24 : Int32)) + (ia S 5 (((364 : Int32) * a1) + (1 : Int32)))) a2) hD
  refine lv_aload_n hx hb dX12_thinks_32 rfl (lv_at hl 2 rfl) ?_
  refine va_get (D := (dC, dI)) (ci := 12) (v := .ref (q 5)) (C := RX12) (T := TX12) (N := 49) hx hb hts i_X12 hown hK hP 0 rfl rfl 20 (by decide) (hts _ wf_X12_35) (fun _ h9 => h9) rfl dX12_thinks_33 ?_
  refine lv_iload hx hb dX12_thinks_36 (lv_at hl 1 rfl) ?_
  refine lv_bipush (v := (32 : Int32)) hx hb dX12_thinks_38 (by decide) ?_
  refine lv_iadd hx hb dX12_thinks_40 ?_
  refine lv_iload hx hb dX12_thinks_41 (lv_at hl 0 rfl) ?_
  refine lv_iadd hx hb dX12_thinks_43 ?_
  refine lv_iload_n hx hb dX12_thinks_44 rfl (lv_at hl 5 rfl) ?_
  obtain ⟨hi3, hf⟩ := tc_in hf
  refine va_iast hx hb hK hP hD hS 5 1 rfl rfl hi3 dX12_thinks_45 (fun H locs hP hD hS => ?_)
  have hP := tc_eP (aw12_0_5 ca q (sa S 5 ((((364 : Int32) * a1) + (24 : Int32)) + (ia S 5 (((364 : Int32) * a1) + (1 : Int32)))) a2) ((((364 : Int32) * a1) + (32 : Int32)) + (ia S 5 (((364 : Int32) * a1) + (1 : Int32)))) a3) hP
  have hD := tc_eD (aw12_0_5 ca q (sa S 5 ((((364 : Int32) * a1) + (24 : Int32)) + (ia S 5 (((364 : Int32) * a1) + (1 : Int32)))) a2) ((((364 : Int32) * a1) + (32 : Int32)) + (ia S 5 (((364 : Int32) * a1) + (1 : Int32)))) a3) hD
  refine lv_aload_n hx hb dX12_thinks_46 rfl (lv_at hl 2 rfl) ?_
  refine va_get (D := (dC, dI)) (ci := 12) (v := .ref (q 5)) (C := RX12) (T := TX12) (N := 49) hx hb hts i_X12 hown hK hP 0 rfl rfl 20 (by decide) (hts _ wf_X12_35) (fun _ h9 => h9) rfl dX12_thinks_47 ?_
  refine lv_iload hx hb dX12_thinks_50 (lv_at hl 1 rfl) ?_
  refine lv_bipush (v := (40 : Int32)) hx hb dX12_thinks_52 (by decide) ?_
  refine lv_iadd hx hb dX12_thinks_54 ?_
  refine lv_iload hx hb dX12_thinks_55 (lv_at hl 0 rfl) ?_
  refine lv_iadd hx hb dX12_thinks_57 ?_
  refine lv_iload hx hb dX12_thinks_58 (lv_at hl 6 rfl) ?_
  obtain ⟨hi4, hf⟩ := tc_in hf
  refine va_iast hx hb hK hP hD hS 5 1 rfl rfl hi4 dX12_thinks_60 (fun H locs hP hD hS => ?_)
  have hP := tc_eP (aw12_0_5 ca q (sa (sa S 5 ((((364 : Int32) * a1) + (24 : Int32)) + (ia S 5 (((364 : Int32) * a1) + (1 : Int32)))) a2) 5 ((((364 : Int32) * a1) + (32 : Int32)) + (ia S 5 (((364 : Int32) * a1) + (1 : Int32)))) a3) ((((364 : Int32) * a1) + (40 : Int32)) + (ia S 5 (((364 : Int32) * a1) + (1 : Int32)))) a4) hP
  have hD := tc_eD (aw12_0_5 ca q (sa (sa S 5 ((((364 : Int32) * a1) + (24 : Int32)) + (ia S 5 (((364 : Int32) * a1) + (1 : Int32)))) a2) 5 ((((364 : Int32) * a1) + (32 : Int32)) + (ia S 5 (((364 : Int32) * a1) + (1 : Int32)))) a3) ((((364 : Int32) * a1) + (40 : Int32)) + (ia S 5 (((364 : Int32) * a1) + (1 : Int32)))) a4) hD
  refine lv_aload_n hx hb dX12_thinks_61 rfl (lv_at hl 2 rfl) ?_
  refine va_get (D := (dC, dI)) (ci := 12) (v := .ref (q 5)) (C := RX12) (T := TX12) (N := 49) hx hb hts i_X12 hown hK hP 0 rfl rfl 20 (by decide) (hts _ wf_X12_35) (fun _ h9 => h9) rfl dX12_thinks_62 ?_
  refine lv_iload hx hb dX12_thinks_65 (lv_at hl 1 rfl) ?_
  refine lv_iconst (v := (1 : Int32)) hx hb dX12_thinks_67 (by decide) ?_
  refine lv_iadd hx hb dX12_thinks_68 ?_
  refine lv_dup2_11 hx hb dX12_thinks_69 rfl rfl ?_
  obtain ⟨hi5, hf⟩ := tc_in hf
  refine va_iald hx hb hK hP 5 1 rfl rfl hi5 dX12_thinks_70 ?_
  refine lv_iconst (v := (1 : Int32)) hx hb dX12_thinks_71 (by decide) ?_
  refine lv_iadd hx hb dX12_thinks_72 ?_
  obtain ⟨hi6, hf⟩ := tc_in hf
  refine va_iast hx hb hK hP hD hS 5 1 rfl rfl hi6 dX12_thinks_73 (fun H locs hP hD hS => ?_)
  have hP := tc_eP (aw12_0_5 ca q (sa (sa (sa S 5 ((((364 : Int32) * a1) + (24 : Int32)) + (ia S 5 (((364 : Int32) * a1) + (1 : Int32)))) a2) 5 ((((364 : Int32) * a1) + (32 : Int32)) + (ia S 5 (((364 : Int32) * a1) + (1 : Int32)))) a3) 5 ((((364 : Int32) * a1) + (40 : Int32)) + (ia S 5 (((364 : Int32) * a1) + (1 : Int32)))) a4) (((364 : Int32) * a1) + (1 : Int32)) ((ia (sa (sa (sa S 5 ((((364 : Int32) * a1) + (24 : Int32)) + (ia S 5 (((364 : Int32) * a1) + (1 : Int32)))) a2) 5 ((((364 : Int32) * a1) + (32 : Int32)) + (ia S 5 (((364 : Int32) * a1) + (1 : Int32)))) a3) 5 ((((364 : Int32) * a1) + (40 : Int32)) + (ia S 5 (((364 : Int32) * a1) + (1 : Int32)))) a4) 5 (((364 : Int32) * a1) + (1 : Int32))) + (1 : Int32))) hP
  have hD := tc_eD (aw12_0_5 ca q (sa (sa (sa S 5 ((((364 : Int32) * a1) + (24 : Int32)) + (ia S 5 (((364 : Int32) * a1) + (1 : Int32)))) a2) 5 ((((364 : Int32) * a1) + (32 : Int32)) + (ia S 5 (((364 : Int32) * a1) + (1 : Int32)))) a3) 5 ((((364 : Int32) * a1) + (40 : Int32)) + (ia S 5 (((364 : Int32) * a1) + (1 : Int32)))) a4) (((364 : Int32) * a1) + (1 : Int32)) ((ia (sa (sa (sa S 5 ((((364 : Int32) * a1) + (24 : Int32)) + (ia S 5 (((364 : Int32) * a1) + (1 : Int32)))) a2) 5 ((((364 : Int32) * a1) + (32 : Int32)) + (ia S 5 (((364 : Int32) * a1) + (1 : Int32)))) a3) 5 ((((364 : Int32) * a1) + (40 : Int32)) + (ia S 5 (((364 : Int32) * a1) + (1 : Int32)))) a4) 5 (((364 : Int32) * a1) + (1 : Int32))) + (1 : Int32))) hD
  obtain rfl := Option.some.inj hf
  exact tc_rv X hP hD hS rfl dX12_thinks_74 rfl
def fX12_readClaim_116    (S : ms_T) (v1 : Int32) (v2 : Int32) (v3 : Int32) : Option (ms_T) :=
  if (gi S 12) = 0 then
    (fX12_thinks S (4 : Int32) v1 v3 v2).bind fun z9 =>
    some (z9)
  else
    some (S)
def fX12_readClaim_101   (k53 : ms_T → Int32 → Int32 → Int32 → Option (ms_T)) (S : ms_T) (v1 : Int32) (v2 : Int32) (v3 : Int32) (v4 : Int32) : Option (ms_T) :=
  (fX12_must S (1 : Int32)).bind fun z11 =>
  k53 z11 v1 v2 (v3 ||| ((1 : Int32) <<< (v4 &&& 31)))
def fX12_readClaim_53    : Nat → ms_T → Int32 → Int32 → Int32 → Option (ms_T)
  | 0, _, _, _, _ => none
  | n + 1, S, v1, v2, v3 =>
    if (gi S 12) = 0 then
      if (gi S 14) = (1 : Int32) then
        (fX12_told S (4 : Int32) (1 : Int32)).bind fun z10 =>
        if (gi z10.2 12) = 0 then
          (fX12_has v3 z10.1).bind fun z12 =>
          if z12 = 0 then
            fX12_readClaim_101 (fX12_readClaim_53 n) z10.2 v1 v2 v3 z10.1
          else
            (fX12_fail z10.2 (5 : Int32) (gi z10.2 15)).bind fun z13 =>
            fX12_readClaim_101 (fX12_readClaim_53 n) z13 v1 v2 v3 z10.1
        else
          fX12_readClaim_101 (fX12_readClaim_53 n) z10.2 v1 v2 v3 z10.1
      else
        fX12_readClaim_116 S v1 v2 v3
    else
      fX12_readClaim_116 S v1 v2 v3
def fX12_readClaim_39    (S : ms_T) (v1 : Int32) (t0 : Int32) : Option (ms_T) :=
  (fX12_isNeeds S).bind fun z7 =>
  (fX12_perhaps S z7).bind fun z8 =>
  if z8.1 = 0 then
    fX12_readClaim_116 z8.2 v1 t0 (0 : Int32)
  else
    fX12_readClaim_53 FU z8.2 v1 t0 (0 : Int32)
def fX12_readClaim  (S : ms_T)  : Option (ms_T) :=
  (fX12_readNew S (1 : Int32) (8 : Int32)).bind fun z1 =>
  (fX12_isAtWord z1.2).bind fun z2 =>
  (fX12_must z1.2 z2).bind fun z3 =>
  (fX12_readTold z3 (4 : Int32) (0 : Int32)).bind fun z4 =>
  (fX12_isProppedWord z4.2).bind fun z5 =>
  (fX12_perhaps z4.2 z5).bind fun z6 =>
  if z6.1 = 0 then
    fX12_readClaim_39 z6.2 z4.1 (0 : Int32)
  else
    fX12_readClaim_39 z6.2 z4.1 (1 : Int32)
abbrev rmX12_readClaim : Room := { frames := 6, cells := 0, slots := 0, locals := 133 }
theorem okX12_readClaim : tc_ok yX12_readClaim cX12_readClaim 5 none 0 := ⟨wc_X12_readClaim, wn_X12, by decide, by decide, by decide +kernel⟩
set_option maxRecDepth 20000 in
theorem tX12_readClaim_116 {q : Nat → Nat}  (X : tc_X dC dI ca A RX12 cX12_readClaim 5 none p s m args meth c) (z : ms_T)     : ∀ (S : ms_T) (v1 : Int32) (v2 : Int32) (v3 : Int32), fX12_readClaim_116 S v1 v2 v3 = some z → ∀ (H : Heap) (locs : List Loc) (ls : Array Slot), va_P (dC, dI) classes (w12 ca q S) H → va_D A (w12 ca q S) → va_S A s.heap H locs → lv_has ls 5 [(0, .ref (q 0)), (1, .int (v1)), (2, .int (v2)), (3, .int (v3))] → W p l e rmX12_readClaim s m args below meth c H locs 0 0 (MQ below (tc_QV dC dI ca A (w12 ca q z)) args s 0 0 A) (F0 m 116 ls []) := by
  obtain ⟨hx, hb, hr, hml, hown, hts, hlk, hK, hA, hG⟩ := id X
  intro S v1 v2 v3 hf H locs ls hP hD hS hl
  unfold fX12_readClaim_116 at hf
  refine lv_aload_n hx hb dX12_readClaim_116 rfl (lv_at hl 0 rfl) ?_
  refine va_get (D := (dC, dI)) (ci := 12) (v := .int (gi S 12)) (C := RX12) (T := TX12) (N := 49) hx hb hts i_X12 hown hK hP 0 rfl rfl 12 (by decide) (hts _ wf_X12_206) (fun _ h9 => h9) rfl dX12_readClaim_117 ?_
  refine lv_if_ne (tgt := 131) hx hb dX12_readClaim_120 (by decide) (fun hc => ?_) (fun hc => ?_)
  · have hf := tc_neg hc hf
    obtain rfl := Option.some.inj hf
    exact tc_rv X hP hD hS rfl dX12_readClaim_131 rfl
  · have hf := tc_pos hc hf
    refine lv_aload_n hx hb dX12_readClaim_123 rfl (lv_at hl 0 rfl) ?_
    refine lv_iconst (v := (4 : Int32)) hx hb dX12_readClaim_124 (by decide) ?_
    refine lv_iload_n hx hb dX12_readClaim_125 rfl (lv_at hl 1 rfl) ?_
    refine lv_iload_n hx hb dX12_readClaim_126 rfl (lv_at hl 3 rfl) ?_
    refine lv_iload_n hx hb dX12_readClaim_127 rfl (lv_at hl 2 rfl) ?_
    obtain ⟨z9, hg, hf⟩ := tc_bi hf
    refine tc_vVs (As := [.int ((4 : Int32)), .int (v1), .int (v3), .int (v2)]) (rest := []) (b := q 0) X hP hD hS (mX12_thinks hg) okX12_thinks wl_X12_271 wi_X12_thinks ws_X12_X12_thinks_X12_thinks ⟨rfl, rfl, Nat.le_of_ble_eq_true rfl, Nat.le_of_ble_eq_true rfl⟩ 12 0 rfl rfl rfl hl.1 (Nat.le_of_ble_eq_true rfl) dX12_readClaim_128 (fun H locs hP hD hS => ?_)
    obtain rfl := Option.some.inj hf
    exact tc_rv X hP hD hS rfl dX12_readClaim_131 rfl
set_option maxRecDepth 20000 in
theorem tX12_readClaim_101 {q : Nat → Nat}  (X : tc_X dC dI ca A RX12 cX12_readClaim 5 none p s m args meth c) (z : ms_T)   (k53 : ms_T → Int32 → Int32 → Int32 → Option (ms_T)) (hk53 : ∀ (S : ms_T) (v1 : Int32) (v2 : Int32) (v3 : Int32), k53 S v1 v2 v3 = some z → ∀ (H : Heap) (locs : List Loc) (ls : Array Slot), va_P (dC, dI) classes (w12 ca q S) H → va_D A (w12 ca q S) → va_S A s.heap H locs → lv_has ls 5 [(0, .ref (q 0)), (1, .int (v1)), (2, .int (v2)), (3, .int (v3))] → W p l e rmX12_readClaim s m args below meth c H locs 0 0 (MQ below (tc_QV dC dI ca A (w12 ca q z)) args s 0 0 A) (F0 m 53 ls [])) : ∀ (S : ms_T) (v1 : Int32) (v2 : Int32) (v3 : Int32) (v4 : Int32), fX12_readClaim_101 k53 S v1 v2 v3 v4 = some z → ∀ (H : Heap) (locs : List Loc) (ls : Array Slot), va_P (dC, dI) classes (w12 ca q S) H → va_D A (w12 ca q S) → va_S A s.heap H locs → lv_has ls 5 [(0, .ref (q 0)), (1, .int (v1)), (2, .int (v2)), (3, .int (v3)), (4, .int (v4))] → W p l e rmX12_readClaim s m args below meth c H locs 0 0 (MQ below (tc_QV dC dI ca A (w12 ca q z)) args s 0 0 A) (F0 m 101 ls []) := by
  obtain ⟨hx, hb, hr, hml, hown, hts, hlk, hK, hA, hG⟩ := id X
  intro S v1 v2 v3 v4 hf H locs ls hP hD hS hl
  unfold fX12_readClaim_101 at hf
  refine lv_iload_n hx hb dX12_readClaim_101 rfl (lv_at hl 3 rfl) ?_
  refine lv_iconst (v := (1 : Int32)) hx hb dX12_readClaim_102 (by decide) ?_
  refine lv_iload hx hb dX12_readClaim_103 (lv_at hl 4 rfl) ?_
  refine lv_ishl hx hb dX12_readClaim_105 ?_
  refine lv_ior hx hb dX12_readClaim_106 ?_
  refine lv_istore_n (lv' := [(3, .int (v3 ||| ((1 : Int32) <<< (v4 &&& 31)))), (0, .ref (q 0)), (1, .int (v1)), (2, .int (v2)), (4, .int (v4))]) hx hb dX12_readClaim_107 rfl hl (by decide) rfl (fun ls hl => ?_)
  refine lv_aload_n hx hb dX12_readClaim_108 rfl (lv_at hl 1 rfl) ?_
  refine lv_iconst (v := (1 : Int32)) hx hb dX12_readClaim_109 (by decide) ?_
  obtain ⟨z11, hg, hf⟩ := tc_bi hf
  refine tc_vVs (As := [.int ((1 : Int32))]) (rest := []) (b := q 0) X hP hD hS (mX12_must hg) okX12_must wl_X12_225 wi_X12_must ws_X12_X12_must_X12_must ⟨rfl, rfl, Nat.le_of_ble_eq_true rfl, Nat.le_of_ble_eq_true rfl⟩ 12 0 rfl rfl rfl hl.1 (Nat.le_of_ble_eq_true rfl) dX12_readClaim_110 (fun H locs hP hD hS => ?_)
  refine lv_goto (tgt := 53) hx hb dX12_readClaim_113 (by decide) ?_
  exact hk53 z11 v1 v2 (v3 ||| ((1 : Int32) <<< (v4 &&& 31))) hf _ _ _ hP hD hS (lv_sub hl [1, 2, 3, 0] rfl)
set_option maxRecDepth 20000 in
theorem tX12_readClaim_53 {q : Nat → Nat}  (X : tc_X dC dI ca A RX12 cX12_readClaim 5 none p s m args meth c) (z : ms_T)     : ∀ n : Nat, ∀ (S : ms_T) (v1 : Int32) (v2 : Int32) (v3 : Int32), fX12_readClaim_53 n S v1 v2 v3 = some z → ∀ (H : Heap) (locs : List Loc) (ls : Array Slot), va_P (dC, dI) classes (w12 ca q S) H → va_D A (w12 ca q S) → va_S A s.heap H locs → lv_has ls 5 [(0, .ref (q 0)), (1, .int (v1)), (2, .int (v2)), (3, .int (v3))] → W p l e rmX12_readClaim s m args below meth c H locs 0 0 (MQ below (tc_QV dC dI ca A (w12 ca q z)) args s 0 0 A) (F0 m 53 ls []) := by
  obtain ⟨hx, hb, hr, hml, hown, hts, hlk, hK, hA, hG⟩ := id X
  intro n
  induction n with
  | zero => intro S v1 v2 v3 hf; exact absurd (show none = some z from hf) (fun h => by cases h)
  | succ n ih =>
    intro S v1 v2 v3 hf H locs ls hP hD hS hl
    rw [fX12_readClaim_53] at hf
    refine lv_aload_n hx hb dX12_readClaim_53 rfl (lv_at hl 0 rfl) ?_
    refine va_get (D := (dC, dI)) (ci := 12) (v := .int (gi S 12)) (C := RX12) (T := TX12) (N := 49) hx hb hts i_X12 hown hK hP 0 rfl rfl 12 (by decide) (hts _ wf_X12_206) (fun _ h9 => h9) rfl dX12_readClaim_54 ?_
    refine lv_if_ne (tgt := 116) hx hb dX12_readClaim_57 (by decide) (fun hc => ?_) (fun hc => ?_)
    · have hf := tc_neg hc hf
      exact tX12_readClaim_116 X z S v1 v2 v3 hf _ _ _ hP hD hS (lv_sub hl [0, 1, 2, 3] rfl)
    · have hf := tc_pos hc hf
      refine lv_aload_n hx hb dX12_readClaim_60 rfl (lv_at hl 0 rfl) ?_
      refine va_get (D := (dC, dI)) (ci := 12) (v := .int (gi S 14)) (C := RX12) (T := TX12) (N := 49) hx hb hts i_X12 hown hK hP 0 rfl rfl 14 (by decide) (hts _ wf_X12_118) (fun _ h9 => h9) rfl dX12_readClaim_61 ?_
      refine lv_iconst (v := (1 : Int32)) hx hb dX12_readClaim_64 (by decide) ?_
      refine lv_icmp_ne (tgt := 116) hx hb dX12_readClaim_65 (by decide) (fun hc => ?_) (fun hc => ?_)
      · have hf := tc_neg hc hf
        exact tX12_readClaim_116 X z S v1 v2 v3 hf _ _ _ hP hD hS (lv_sub hl [0, 1, 2, 3] rfl)
      · have hf := tc_pos hc hf
        refine lv_aload_n hx hb dX12_readClaim_68 rfl (lv_at hl 0 rfl) ?_
        refine lv_iconst (v := (4 : Int32)) hx hb dX12_readClaim_69 (by decide) ?_
        refine lv_iconst (v := (1 : Int32)) hx hb dX12_readClaim_70 (by decide) ?_
        obtain ⟨z10, hg, hf⟩ := tc_bi hf
        refine tc_iVs (As := [.int ((4 : Int32)), .int ((1 : Int32))]) (rest := []) (b := q 0) X hP hD hS (mX12_told hg) okX12_told wl_X12_250 wi_X12_told ws_X12_X12_told_X12_told ⟨rfl, rfl, Nat.le_of_ble_eq_true rfl, Nat.le_of_ble_eq_true rfl⟩ 12 0 rfl rfl rfl hl.1 (Nat.le_of_ble_eq_true rfl) dX12_readClaim_71 (fun H locs hP hD hS => ?_)
        refine lv_istore (lv' := [(4, .int (z10.1)), (0, .ref (q 0)), (1, .int (v1)), (2, .int (v2)), (3, .int (v3))]) hx hb dX12_readClaim_74 hl (by decide) rfl (fun ls hl => ?_)
        refine lv_aload_n hx hb dX12_readClaim_76 rfl (lv_at hl 1 rfl) ?_
        refine va_get (D := (dC, dI)) (ci := 12) (v := .int (gi z10.2 12)) (C := RX12) (T := TX12) (N := 49) hx hb hts i_X12 hown hK hP 0 rfl rfl 12 (by decide) (hts _ wf_X12_206) (fun _ h9 => h9) rfl dX12_readClaim_77 ?_
        refine lv_if_ne (tgt := 101) hx hb dX12_readClaim_80 (by decide) (fun hc => ?_) (fun hc => ?_)
        · have hf := tc_neg hc hf
          exact tX12_readClaim_101 X z (fX12_readClaim_53 n) ih z10.2 v1 v2 v3 z10.1 hf _ _ _ hP hD hS (lv_sub hl [1, 2, 3, 4, 0] rfl)
        · have hf := tc_pos hc hf
          refine lv_iload_n hx hb dX12_readClaim_83 rfl (lv_at hl 4 rfl) ?_
          refine lv_iload hx hb dX12_readClaim_84 (lv_at hl 0 rfl) ?_
          obtain ⟨z12, hg, hf⟩ := tc_bi hf
          refine tc_iS0 (As := [.int (v3), .int (z10.1)]) (rest := []) X hP hD hS (mX12_has hg) okX12_has wl_X12_102 wt_X12_has ⟨rfl, rfl, Nat.le_of_ble_eq_true rfl, Nat.le_of_ble_eq_true rfl⟩ rfl hl.1 (Nat.le_of_ble_eq_true rfl) dX12_readClaim_86 (fun H locs hP hD hS => ?_)
          refine lv_if_eq (tgt := 101) hx hb dX12_readClaim_89 (by decide) (fun hc => ?_) (fun hc => ?_)
          · have hf := tc_pos hc hf
            exact tX12_readClaim_101 X z (fX12_readClaim_53 n) ih z10.2 v1 v2 v3 z10.1 hf _ _ _ hP hD hS (lv_sub hl [1, 2, 3, 4, 0] rfl)
          · have hf := tc_neg hc hf
            refine lv_aload_n hx hb dX12_readClaim_92 rfl (lv_at hl 1 rfl) ?_
            refine lv_iconst (v := (5 : Int32)) hx hb dX12_readClaim_93 (by decide) ?_
            refine lv_aload_n hx hb dX12_readClaim_94 rfl (lv_at hl 1 rfl) ?_
            refine va_get (D := (dC, dI)) (ci := 12) (v := .int (gi z10.2 15)) (C := RX12) (T := TX12) (N := 49) hx hb hts i_X12 hown hK hP 0 rfl rfl 15 (by decide) (hts _ wf_X12_112) (fun _ h9 => h9) rfl dX12_readClaim_95 ?_
            obtain ⟨z13, hg, hf⟩ := tc_bi hf
            refine tc_vVs (As := [.int ((5 : Int32)), .int (gi z10.2 15)]) (rest := []) (b := q 0) X hP hD hS (mX12_fail hg) okX12_fail wl_X12_212 wi_X12_fail ws_X12_X12_fail_X12_fail ⟨rfl, rfl, Nat.le_of_ble_eq_true rfl, Nat.le_of_ble_eq_true rfl⟩ 12 0 rfl rfl rfl hl.1 (Nat.le_of_ble_eq_true rfl) dX12_readClaim_98 (fun H locs hP hD hS => ?_)
            exact tX12_readClaim_101 X z (fX12_readClaim_53 n) ih z13 v1 v2 v3 z10.1 hf _ _ _ hP hD hS (lv_sub hl [1, 2, 3, 4, 0] rfl)
set_option maxRecDepth 20000 in
theorem tX12_readClaim_39 {q : Nat → Nat}  (X : tc_X dC dI ca A RX12 cX12_readClaim 5 none p s m args meth c) (z : ms_T)     : ∀ (S : ms_T) (v1 : Int32) (t0 : Int32), fX12_readClaim_39 S v1 t0 = some z → ∀ (H : Heap) (locs : List Loc) (ls : Array Slot), va_P (dC, dI) classes (w12 ca q S) H → va_D A (w12 ca q S) → va_S A s.heap H locs → lv_has ls 5 [(0, .ref (q 0)), (1, .int (v1))] → W p l e rmX12_readClaim s m args below meth c H locs 0 0 (MQ below (tc_QV dC dI ca A (w12 ca q z)) args s 0 0 A) (F0 m 39 ls [.int (t0)]) := by
  obtain ⟨hx, hb, hr, hml, hown, hts, hlk, hK, hA, hG⟩ := id X
  intro S v1 t0 hf H locs ls hP hD hS hl
  unfold fX12_readClaim_39 at hf
  refine lv_istore_n (lv' := [(2, .int (t0)), (0, .ref (q 0)), (1, .int (v1))]) hx hb dX12_readClaim_39 rfl hl (by decide) rfl (fun ls hl => ?_)
  refine lv_iconst (v := (0 : Int32)) hx hb dX12_readClaim_40 (by decide) ?_
  refine lv_istore_n (lv' := [(3, .int ((0 : Int32))), (2, .int (t0)), (0, .ref (q 0)), (1, .int (v1))]) hx hb dX12_readClaim_41 rfl hl (by decide) rfl (fun ls hl => ?_)
  refine lv_aload_n hx hb dX12_readClaim_42 rfl (lv_at hl 2 rfl) ?_
  refine lv_aload_n hx hb dX12_readClaim_43 rfl (lv_at hl 2 rfl) ?_
  obtain ⟨z7, hg, hf⟩ := tc_bi hf
  refine tc_iVs (As := []) (rest := [.ref (q 0)]) (b := q 0) X hP hD hS (mX12_isNeeds hg) okX12_isNeeds wl_X12_175 wi_X12_isNeeds ws_X12_X12_isNeeds_X12_isNeeds ⟨rfl, rfl, Nat.le_of_ble_eq_true rfl, Nat.le_of_ble_eq_true rfl⟩ 12 0 rfl rfl rfl hl.1 (Nat.le_of_ble_eq_true rfl) dX12_readClaim_44 (fun H locs hP hD hS => ?_)
  obtain ⟨z8, hg, hf⟩ := tc_bi hf
  refine tc_iVs (As := [.int (z7)]) (rest := []) (b := q 0) X hP hD hS (mX12_perhaps hg) okX12_perhaps wl_X12_267 wi_X12_perhaps ws_X12_X12_perhaps_X12_perhaps ⟨rfl, rfl, Nat.le_of_ble_eq_true rfl, Nat.le_of_ble_eq_true rfl⟩ 12 0 rfl rfl rfl hl.1 (Nat.le_of_ble_eq_true rfl) dX12_readClaim_47 (fun H locs hP hD hS => ?_)
  refine lv_if_eq (tgt := 116) hx hb dX12_readClaim_50 (by decide) (fun hc => ?_) (fun hc => ?_)
  · have hf := tc_pos hc hf
    exact tX12_readClaim_116 X z z8.2 v1 t0 (0 : Int32) hf _ _ _ hP hD hS (lv_sub hl [2, 3, 1, 0] rfl)
  · have hf := tc_neg hc hf
    exact tX12_readClaim_53 X z FU z8.2 v1 t0 (0 : Int32) hf _ _ _ hP hD hS (lv_sub hl [2, 3, 1, 0] rfl)
set_option maxRecDepth 20000 in
theorem mX12_readClaim {q : Nat → Nat}  {S : ms_T}  {z : ms_T}  (hf : fX12_readClaim S = some z) : tc_MV l dC dI ca yX12_readClaim cX12_readClaim 5 none rmX12_readClaim [.ref (q 0)] (w12 ca q S) (w12 ca q z) := by
  refine tc_metV (own := RX12) (by decide) rfl ?_ (Nat.le_of_ble_eq_true rfl)
  intro p e s m below meth c A X hP hD hS ls hl
  obtain ⟨hx, hb, hr, hml, hown, hts, hlk, hK, hA, hG⟩ := id X
  unfold fX12_readClaim at hf
  have hl : lv_has ls 5 [(0, .ref (q 0))] := hl
  refine lv_aload_n hx hb dX12_readClaim_0 rfl (lv_at hl 0 rfl) ?_
  refine lv_iconst (v := (1 : Int32)) hx hb dX12_readClaim_1 (by decide) ?_
  refine lv_bipush (v := (8 : Int32)) hx hb dX12_readClaim_2 (by decide) ?_
  obtain ⟨z1, hg, hf⟩ := tc_bi hf
  refine tc_iVs (As := [.int ((1 : Int32)), .int ((8 : Int32))]) (rest := []) (b := q 0) X hP hD hS (mX12_readNew hg) okX12_readNew wl_X12_257 wi_X12_readNew ws_X12_X12_readNew_X12_readNew ⟨rfl, rfl, Nat.le_of_ble_eq_true rfl, Nat.le_of_ble_eq_true rfl⟩ 12 0 rfl rfl rfl hl.1 (Nat.le_of_ble_eq_true rfl) dX12_readClaim_4 (fun H locs hP hD hS => ?_)
  refine lv_pop hx hb dX12_readClaim_7 rfl ?_
  refine lv_aload_n hx hb dX12_readClaim_8 rfl (lv_at hl 0 rfl) ?_
  refine lv_aload_n hx hb dX12_readClaim_9 rfl (lv_at hl 0 rfl) ?_
  obtain ⟨z2, hg, hf⟩ := tc_bi hf
  refine tc_iVs (As := []) (rest := [.ref (q 0)]) (b := q 0) X hP hD hS (mX12_isAtWord hg) okX12_isAtWord wl_X12_169 wi_X12_isAtWord ws_X12_X12_isAtWord_X12_isAtWord ⟨rfl, rfl, Nat.le_of_ble_eq_true rfl, Nat.le_of_ble_eq_true rfl⟩ 12 0 rfl rfl rfl hl.1 (Nat.le_of_ble_eq_true rfl) dX12_readClaim_10 (fun H locs hP hD hS => ?_)
  obtain ⟨z3, hg, hf⟩ := tc_bi hf
  refine tc_vVs (As := [.int (z2)]) (rest := []) (b := q 0) X hP hD hS (mX12_must hg) okX12_must wl_X12_225 wi_X12_must ws_X12_X12_must_X12_must ⟨rfl, rfl, Nat.le_of_ble_eq_true rfl, Nat.le_of_ble_eq_true rfl⟩ 12 0 rfl rfl rfl hl.1 (Nat.le_of_ble_eq_true rfl) dX12_readClaim_13 (fun H locs hP hD hS => ?_)
  refine lv_aload_n hx hb dX12_readClaim_16 rfl (lv_at hl 0 rfl) ?_
  refine lv_iconst (v := (4 : Int32)) hx hb dX12_readClaim_17 (by decide) ?_
  refine lv_iconst (v := (0 : Int32)) hx hb dX12_readClaim_18 (by decide) ?_
  obtain ⟨z4, hg, hf⟩ := tc_bi hf
  refine tc_iVs (As := [.int ((4 : Int32)), .int ((0 : Int32))]) (rest := []) (b := q 0) X hP hD hS (mX12_readTold hg) okX12_readTold wl_X12_264 wi_X12_readTold ws_X12_X12_readTold_X12_readTold ⟨rfl, rfl, Nat.le_of_ble_eq_true rfl, Nat.le_of_ble_eq_true rfl⟩ 12 0 rfl rfl rfl hl.1 (Nat.le_of_ble_eq_true rfl) dX12_readClaim_19 (fun H locs hP hD hS => ?_)
  refine lv_istore_n (lv' := [(1, .int (z4.1)), (0, .ref (q 0))]) hx hb dX12_readClaim_22 rfl hl (by decide) rfl (fun ls hl => ?_)
  refine lv_aload_n hx hb dX12_readClaim_23 rfl (lv_at hl 1 rfl) ?_
  refine lv_aload_n hx hb dX12_readClaim_24 rfl (lv_at hl 1 rfl) ?_
  obtain ⟨z5, hg, hf⟩ := tc_bi hf
  refine tc_iVs (As := []) (rest := [.ref (q 0)]) (b := q 0) X hP hD hS (mX12_isProppedWord hg) okX12_isProppedWord wl_X12_172 wi_X12_isProppedWord ws_X12_X12_isProppedWord_X12_isProppedWord ⟨rfl, rfl, Nat.le_of_ble_eq_true rfl, Nat.le_of_ble_eq_true rfl⟩ 12 0 rfl rfl rfl hl.1 (Nat.le_of_ble_eq_true rfl) dX12_readClaim_25 (fun H locs hP hD hS => ?_)
  obtain ⟨z6, hg, hf⟩ := tc_bi hf
  refine tc_iVs (As := [.int (z5)]) (rest := []) (b := q 0) X hP hD hS (mX12_perhaps hg) okX12_perhaps wl_X12_267 wi_X12_perhaps ws_X12_X12_perhaps_X12_perhaps ⟨rfl, rfl, Nat.le_of_ble_eq_true rfl, Nat.le_of_ble_eq_true rfl⟩ 12 0 rfl rfl rfl hl.1 (Nat.le_of_ble_eq_true rfl) dX12_readClaim_28 (fun H locs hP hD hS => ?_)
  refine lv_if_eq (tgt := 38) hx hb dX12_readClaim_31 (by decide) (fun hc => ?_) (fun hc => ?_)
  · have hf := tc_pos hc hf
    refine lv_iconst (v := (0 : Int32)) hx hb dX12_readClaim_38 (by decide) ?_
    exact tX12_readClaim_39 X z z6.2 z4.1 (0 : Int32) hf _ _ _ hP hD hS (lv_sub hl [1, 0] rfl)
  · have hf := tc_neg hc hf
    refine lv_iconst (v := (1 : Int32)) hx hb dX12_readClaim_34 (by decide) ?_
    refine lv_goto (tgt := 39) hx hb dX12_readClaim_35 (by decide) ?_
    exact tX12_readClaim_39 X z z6.2 z4.1 (1 : Int32) hf _ _ _ hP hD hS (lv_sub hl [1, 0] rfl)
def fX12_isTaken_2  (S : ms_T)  : Nat → Int32 → Int32 → Option (Int32)
  | 0, _, _ => none
  | n + 1, v1, v2 =>
    if (ia S 5 (1458 : Int32)) ≤ v2 then
      some ((0 : Int32))
    else
      if inb ((1504 : Int32) + v2) 1820 = true then
        if (ia S 5 ((1504 : Int32) + v2)) = v1 then
          some ((1 : Int32))
        else
          fX12_isTaken_2 S n v1 (v2 + (1 : Int32))
      else none
def fX12_isTaken  (S : ms_T) (a1 : Int32) : Option (Int32) :=
  fX12_isTaken_2 S FU a1 (0 : Int32)
abbrev rmX12_isTaken : Room := { frames := 0, cells := 0, slots := 0, locals := 0 }
theorem okX12_isTaken : tc_ok yX12_isTaken cX12_isTaken 3 (some .boolean) 1 := ⟨wc_X12_isTaken, wn_X12, by decide, by decide, by decide +kernel⟩
set_option maxRecDepth 20000 in
theorem tX12_isTaken_2 {q : Nat → Nat}  (X : tc_X dC dI ca A RX12 cX12_isTaken 3 (some .boolean) p s m args meth c) (z : Int32)  (S : ms_T)   : ∀ n : Nat, ∀ (v1 : Int32) (v2 : Int32), fX12_isTaken_2 S n v1 v2 = some z → ∀ (H : Heap) (locs : List Loc) (ls : Array Slot), va_P (dC, dI) classes (w12 ca q S) H → va_D A (w12 ca q S) → va_S A s.heap H locs → lv_has ls 3 [(0, .ref (q 0)), (1, .int (v1)), (2, .int (v2))] → W p l e rmX12_isTaken s m args below meth c H locs 0 0 (MQ below (tc_QI dC dI ca A (w12 ca q S) (z)) args s 0 0 A) (F0 m 2 ls []) := by
  obtain ⟨hx, hb, hr, hml, hown, hts, hlk, hK, hA, hG⟩ := id X
  intro n
  induction n with
  | zero => intro v1 v2 hf; exact absurd (show none = some z from hf) (fun h => by cases h)
  | succ n ih =>
    intro v1 v2 hf H locs ls hP hD hS hl
    rw [fX12_isTaken_2] at hf
    refine lv_iload_n hx hb dX12_isTaken_2 rfl (lv_at hl 2 rfl) ?_
    refine lv_aload_n hx hb dX12_isTaken_3 rfl (lv_at hl 0 rfl) ?_
    refine va_get (D := (dC, dI)) (ci := 12) (v := .ref (q 5)) (C := RX12) (T := TX12) (N := 49) hx hb hts i_X12 hown hK hP 0 rfl rfl 20 (by decide) (hts _ wf_X12_35) (fun _ h9 => h9) rfl dX12_isTaken_4 ?_
    refine lv_sipush (v := (1458 : Int32)) hx hb dX12_isTaken_7 (by decide) ?_
    refine va_iald hx hb hK hP 5 1 rfl rfl (inb_vp (by decide)) dX12_isTaken_10 ?_
    refine lv_icmp_ge (tgt := 36) hx hb dX12_isTaken_11 (by decide) (fun hc => ?_) (fun hc => ?_)
    · have hf := tc_pos hc hf
      refine lv_iconst (v := (0 : Int32)) hx hb dX12_isTaken_36 (by decide) ?_
      obtain rfl := Option.some.inj hf
      exact tc_rz X hP hD hS rfl dX12_isTaken_37 (by decide) rfl rfl
    · have hf := tc_neg hc hf
      refine lv_aload_n hx hb dX12_isTaken_14 rfl (lv_at hl 0 rfl) ?_
      refine va_get (D := (dC, dI)) (ci := 12) (v := .ref (q 5)) (C := RX12) (T := TX12) (N := 49) hx hb hts i_X12 hown hK hP 0 rfl rfl 20 (by decide) (hts _ wf_X12_35) (fun _ h9 => h9) rfl dX12_isTaken_15 ?_
      refine lv_sipush (v := (1504 : Int32)) hx hb dX12_isTaken_18 (by decide) ?_
      refine lv_iload_n hx hb dX12_isTaken_21 rfl (lv_at hl 2 rfl) ?_
      refine lv_iadd hx hb dX12_isTaken_22 ?_
      obtain ⟨hi1, hf⟩ := tc_in hf
      refine va_iald hx hb hK hP 5 1 rfl rfl hi1 dX12_isTaken_23 ?_
      refine lv_iload_n hx hb dX12_isTaken_24 rfl (lv_at hl 1 rfl) ?_
      refine lv_icmp_ne (tgt := 30) hx hb dX12_isTaken_25 (by decide) (fun hc => ?_) (fun hc => ?_)
      · have hf := tc_neg hc hf
        refine lv_iinc (v := v2 + (1 : Int32)) (lv' := [(2, .int (v2 + (1 : Int32))), (0, .ref (q 0)), (1, .int (v1))]) hx hb dX12_isTaken_30 hl (k := 2) rfl rfl (by decide) rfl (fun ls hl => ?_)
        refine lv_goto (tgt := 2) hx hb dX12_isTaken_33 (by decide) ?_
        exact ih v1 (v2 + (1 : Int32)) hf _ _ _ hP hD hS (lv_sub hl [1, 2, 0] rfl)
      · have hf := tc_pos hc hf
        refine lv_iconst (v := (1 : Int32)) hx hb dX12_isTaken_28 (by decide) ?_
        obtain rfl := Option.some.inj hf
        exact tc_rz X hP hD hS rfl dX12_isTaken_29 (by decide) rfl rfl
set_option maxRecDepth 20000 in
theorem mX12_isTaken {q : Nat → Nat}  {S : ms_T} {a1 : Int32} {z : Int32}  (hf : fX12_isTaken S a1 = some z) : tc_MI l dC dI ca yX12_isTaken cX12_isTaken 3 (some .boolean) rmX12_isTaken [.ref (q 0), .int (a1)] (w12 ca q S) (w12 ca q S) (z) := by
  refine tc_metI (own := RX12) (by decide) rfl ?_ (Nat.le_of_ble_eq_true rfl)
  intro p e s m below meth c A X hP hD hS ls hl
  obtain ⟨hx, hb, hr, hml, hown, hts, hlk, hK, hA, hG⟩ := id X
  unfold fX12_isTaken at hf
  have hl : lv_has ls 3 [(0, .ref (q 0)), (1, .int (a1))] := hl
  refine lv_iconst (v := (0 : Int32)) hx hb dX12_isTaken_0 (by decide) ?_
  refine lv_istore_n (lv' := [(2, .int ((0 : Int32))), (0, .ref (q 0)), (1, .int (a1))]) hx hb dX12_isTaken_1 rfl hl (by decide) rfl (fun ls hl => ?_)
  exact tX12_isTaken_2 X z S FU a1 (0 : Int32) hf _ _ _ hP hD hS (lv_sub hl [1, 2, 0] rfl)
def fX12_readTalker_95    (S : ms_T) (v1 : Int32) (v2 : Int32) (v3 : Int32) (t0 : Int32) : Option (ms_T) :=
  if (gi S 12) ≤ 0 then
    if inb ((1504 : Int32) + v1) 1820 = true then
      if inb ((1510 : Int32) + v1) 1820 = true then
        if inb ((1522 : Int32) + v1) 1820 = true then
          some (sa (sa (sa (sa S 5 ((1504 : Int32) + v1) v2) 5 ((1510 : Int32) + v1) (v3 + (1 : Int32))) 5 ((1522 : Int32) + v1) t0) 5 (1458 : Int32) ((ia (sa (sa (sa S 5 ((1504 : Int32) + v1) v2) 5 ((1510 : Int32) + v1) (v3 + (1 : Int32))) 5 ((1522 : Int32) + v1) t0) 5 (1458 : Int32)) + (1 : Int32)))
        else none
      else none
    else none
  else
    some (S)
def fX12_readTalker_50    (S : ms_T) (v1 : Int32) : Option (ms_T) :=
  (fX12_count S (0 : Int32) (9 : Int32)).bind fun z5 =>
  (fX12_isOn z5.2).bind fun z6 =>
  (fX12_must z5.2 z6).bind fun z7 =>
  (fX12_readTold z7 (4 : Int32) (0 : Int32)).bind fun z8 =>
  (fX12_isFails z8.2).bind fun z9 =>
  (fX12_perhaps z8.2 z9).bind fun z10 =>
  if z10.1 = 0 then
    fX12_readTalker_95 z10.2 v1 z5.1 z8.1 (0 : Int32)
  else
    (fX12_count z10.2 (0 : Int32) (16 : Int32)).bind fun z14 =>
    fX12_readTalker_95 z14.2 v1 z5.1 z8.1 z14.1
def fX12_readTalker  (S : ms_T)  : Option (ms_T) :=
  (fX12_readNew S (2 : Int32) (6 : Int32)).bind fun z1 =>
  (fX12_isSeat z1.2).bind fun z2 =>
  (fX12_must z1.2 z2).bind fun z3 =>
  (fX12_stands z3 (0 : Int32) (9 : Int32)).bind fun z4 =>
  if (gi z4 12) = 0 then
    (fX12_isTaken z4 (gi z4 17)).bind fun z15 =>
    if z15 = 0 then
      fX12_readTalker_50 z4 z1.1
    else
      (fX12_fail z4 (5 : Int32) (gi z4 15)).bind fun z16 =>
      fX12_readTalker_50 z16 z1.1
  else
    fX12_readTalker_50 z4 z1.1
abbrev rmX12_readTalker : Room := { frames := 6, cells := 0, slots := 0, locals := 133 }
theorem okX12_readTalker : tc_ok yX12_readTalker cX12_readTalker 5 none 0 := ⟨wc_X12_readTalker, wn_X12, by decide, by decide, by decide +kernel⟩
set_option maxRecDepth 20000 in
theorem tX12_readTalker_95 {q : Nat → Nat}  (X : tc_X dC dI ca A RX12 cX12_readTalker 5 none p s m args meth c) (z : ms_T)     : ∀ (S : ms_T) (v1 : Int32) (v2 : Int32) (v3 : Int32) (t0 : Int32), fX12_readTalker_95 S v1 v2 v3 t0 = some z → ∀ (H : Heap) (locs : List Loc) (ls : Array Slot), va_P (dC, dI) classes (w12 ca q S) H → va_D A (w12 ca q S) → va_S A s.heap H locs → lv_has ls 5 [(0, .ref (q 0)), (1, .int (v1)), (2, .int (v2)), (3, .int (v3))] → W p l e rmX12_readTalker s m args below meth c H locs 0 0 (MQ below (tc_QV dC dI ca A (w12 ca q z)) args s 0 0 A) (F0 m 95 ls [.int (t0)]) := by
  obtain ⟨hx, hb, hr, hml, hown, hts, hlk, hK, hA, hG⟩ := id X
  intro S v1 v2 v3 t0 hf H locs ls hP hD hS hl
  unfold fX12_readTalker_95 at hf
  refine lv_istore (lv' := [(4, .int (t0)), (0, .ref (q 0)), (1, .int (v1)), (2, .int (v2)), (3, .int (v3))]) hx hb dX12_readTalker_95 hl (by decide) rfl (fun ls hl => ?_)
  refine lv_aload_n hx hb dX12_readTalker_97 rfl (lv_at hl 1 rfl) ?_
  refine va_get (D := (dC, dI)) (ci := 12) (v := .int (gi S 12)) (C := RX12) (T := TX12) (N := 49) hx hb hts i_X12 hown hK hP 0 rfl rfl 12 (by decide) (hts _ wf_X12_206) (fun _ h9 => h9) rfl dX12_readTalker_98 ?_
  refine lv_if_le (tgt := 105) hx hb dX12_readTalker_101 (by decide) (fun hc => ?_) (fun hc => ?_)
  · have hf := tc_pos hc hf
    refine lv_aload_n hx hb dX12_readTalker_105 rfl (lv_at hl 1 rfl) ?_
    refine va_get (D := (dC, dI)) (ci := 12) (v := .ref (q 5)) (C := RX12) (T := TX12) (N := 49) hx hb hts i_X12 hown hK hP 0 rfl rfl 20 (by decide) (hts _ wf_X12_35) (fun _ h9 => h9) rfl dX12_readTalker_106 ?_
    refine lv_sipush (v := (1504 : Int32)) hx hb dX12_readTalker_109 (by decide) ?_
    refine lv_iload_n hx hb dX12_readTalker_112 rfl (lv_at hl 2 rfl) ?_
    refine lv_iadd hx hb dX12_readTalker_113 ?_
    refine lv_iload_n hx hb dX12_readTalker_114 rfl (lv_at hl 3 rfl) ?_
    obtain ⟨hi11, hf⟩ := tc_in hf
    refine va_iast hx hb hK hP hD hS 5 1 rfl rfl hi11 dX12_readTalker_115 (fun H locs hP hD hS => ?_)
    have hP := tc_eP (aw12_0_5 ca q S ((1504 : Int32) + v1) v2) hP
    have hD := tc_eD (aw12_0_5 ca q S ((1504 : Int32) + v1) v2) hD
    refine lv_aload_n hx hb dX12_readTalker_116 rfl (lv_at hl 1 rfl) ?_
    refine va_get (D := (dC, dI)) (ci := 12) (v := .ref (q 5)) (C := RX12) (T := TX12) (N := 49) hx hb hts i_X12 hown hK hP 0 rfl rfl 20 (by decide) (hts _ wf_X12_35) (fun _ h9 => h9) rfl dX12_readTalker_117 ?_
    refine lv_sipush (v := (1510 : Int32)) hx hb dX12_readTalker_120 (by decide) ?_
    refine lv_iload_n hx hb dX12_readTalker_123 rfl (lv_at hl 2 rfl) ?_
    refine lv_iadd hx hb dX12_readTalker_124 ?_
    refine lv_iload_n hx hb dX12_readTalker_125 rfl (lv_at hl 4 rfl) ?_
    refine lv_iconst (v := (1 : Int32)) hx hb dX12_readTalker_126 (by decide) ?_
    refine lv_iadd hx hb dX12_readTalker_127 ?_
    obtain ⟨hi12, hf⟩ := tc_in hf
    refine va_iast hx hb hK hP hD hS 5 1 rfl rfl hi12 dX12_readTalker_128 (fun H locs hP hD hS => ?_)
    have hP := tc_eP (aw12_0_5 ca q (sa S 5 ((1504 : Int32) + v1) v2) ((1510 : Int32) + v1) (v3 + (1 : Int32))) hP
    have hD := tc_eD (aw12_0_5 ca q (sa S 5 ((1504 : Int32) + v1) v2) ((1510 : Int32) + v1) (v3 + (1 : Int32))) hD
    refine lv_aload_n hx hb dX12_readTalker_129 rfl (lv_at hl 1 rfl) ?_
    refine va_get (D := (dC, dI)) (ci := 12) (v := .ref (q 5)) (C := RX12) (T := TX12) (N := 49) hx hb hts i_X12 hown hK hP 0 rfl rfl 20 (by decide) (hts _ wf_X12_35) (fun _ h9 => h9) rfl dX12_readTalker_130 ?_
    refine lv_sipush (v := (1522 : Int32)) hx hb dX12_readTalker_133 (by decide) ?_
    refine lv_iload_n hx hb dX12_readTalker_136 rfl (lv_at hl 2 rfl) ?_
    refine lv_iadd hx hb dX12_readTalker_137 ?_
    refine lv_iload hx hb dX12_readTalker_138 (lv_at hl 0 rfl) ?_
    obtain ⟨hi13, hf⟩ := tc_in hf
    refine va_iast hx hb hK hP hD hS 5 1 rfl rfl hi13 dX12_readTalker_140 (fun H locs hP hD hS => ?_)
    have hP := tc_eP (aw12_0_5 ca q (sa (sa S 5 ((1504 : Int32) + v1) v2) 5 ((1510 : Int32) + v1) (v3 + (1 : Int32))) ((1522 : Int32) + v1) t0) hP
    have hD := tc_eD (aw12_0_5 ca q (sa (sa S 5 ((1504 : Int32) + v1) v2) 5 ((1510 : Int32) + v1) (v3 + (1 : Int32))) ((1522 : Int32) + v1) t0) hD
    refine lv_aload_n hx hb dX12_readTalker_141 rfl (lv_at hl 1 rfl) ?_
    refine va_get (D := (dC, dI)) (ci := 12) (v := .ref (q 5)) (C := RX12) (T := TX12) (N := 49) hx hb hts i_X12 hown hK hP 0 rfl rfl 20 (by decide) (hts _ wf_X12_35) (fun _ h9 => h9) rfl dX12_readTalker_142 ?_
    refine lv_sipush (v := (1458 : Int32)) hx hb dX12_readTalker_145 (by decide) ?_
    refine lv_dup2_11 hx hb dX12_readTalker_148 rfl rfl ?_
    refine va_iald hx hb hK hP 5 1 rfl rfl (inb_vp (by decide)) dX12_readTalker_149 ?_
    refine lv_iconst (v := (1 : Int32)) hx hb dX12_readTalker_150 (by decide) ?_
    refine lv_iadd hx hb dX12_readTalker_151 ?_
    refine va_iast hx hb hK hP hD hS 5 1 rfl rfl (inb_vp (by decide)) dX12_readTalker_152 (fun H locs hP hD hS => ?_)
    have hP := tc_eP (aw12_0_5 ca q (sa (sa (sa S 5 ((1504 : Int32) + v1) v2) 5 ((1510 : Int32) + v1) (v3 + (1 : Int32))) 5 ((1522 : Int32) + v1) t0) (1458 : Int32) ((ia (sa (sa (sa S 5 ((1504 : Int32) + v1) v2) 5 ((1510 : Int32) + v1) (v3 + (1 : Int32))) 5 ((1522 : Int32) + v1) t0) 5 (1458 : Int32)) + (1 : Int32))) hP
    have hD := tc_eD (aw12_0_5 ca q (sa (sa (sa S 5 ((1504 : Int32) + v1) v2) 5 ((1510 : Int32) + v1) (v3 + (1 : Int32))) 5 ((1522 : Int32) + v1) t0) (1458 : Int32) ((ia (sa (sa (sa S 5 ((1504 : Int32) + v1) v2) 5 ((1510 : Int32) + v1) (v3 + (1 : Int32))) 5 ((1522 : Int32) + v1) t0) 5 (1458 : Int32)) + (1 : Int32))) hD
    obtain rfl := Option.some.inj hf
    exact tc_rv X hP hD hS rfl dX12_readTalker_153 rfl
  · have hf := tc_neg hc hf
    obtain rfl := Option.some.inj hf
    exact tc_rv X hP hD hS rfl dX12_readTalker_104 rfl
set_option maxRecDepth 20000 in
theorem tX12_readTalker_50 {q : Nat → Nat}  (X : tc_X dC dI ca A RX12 cX12_readTalker 5 none p s m args meth c) (z : ms_T)     : ∀ (S : ms_T) (v1 : Int32), fX12_readTalker_50 S v1 = some z → ∀ (H : Heap) (locs : List Loc) (ls : Array Slot), va_P (dC, dI) classes (w12 ca q S) H → va_D A (w12 ca q S) → va_S A s.heap H locs → lv_has ls 5 [(0, .ref (q 0)), (1, .int (v1))] → W p l e rmX12_readTalker s m args below meth c H locs 0 0 (MQ below (tc_QV dC dI ca A (w12 ca q z)) args s 0 0 A) (F0 m 50 ls []) := by
  obtain ⟨hx, hb, hr, hml, hown, hts, hlk, hK, hA, hG⟩ := id X
  intro S v1 hf H locs ls hP hD hS hl
  unfold fX12_readTalker_50 at hf
  refine lv_aload_n hx hb dX12_readTalker_50 rfl (lv_at hl 0 rfl) ?_
  refine lv_iconst (v := (0 : Int32)) hx hb dX12_readTalker_51 (by decide) ?_
  refine lv_bipush (v := (9 : Int32)) hx hb dX12_readTalker_52 (by decide) ?_
  obtain ⟨z5, hg, hf⟩ := tc_bi hf
  refine tc_iVs (As := [.int ((0 : Int32)), .int ((9 : Int32))]) (rest := []) (b := q 0) X hP hD hS (mX12_count hg) okX12_count wl_X12_229 wi_X12_count ws_X12_X12_count_X12_count ⟨rfl, rfl, Nat.le_of_ble_eq_true rfl, Nat.le_of_ble_eq_true rfl⟩ 12 0 rfl rfl rfl hl.1 (Nat.le_of_ble_eq_true rfl) dX12_readTalker_54 (fun H locs hP hD hS => ?_)
  refine lv_istore_n (lv' := [(2, .int (z5.1)), (0, .ref (q 0)), (1, .int (v1))]) hx hb dX12_readTalker_57 rfl hl (by decide) rfl (fun ls hl => ?_)
  refine lv_aload_n hx hb dX12_readTalker_58 rfl (lv_at hl 1 rfl) ?_
  refine lv_aload_n hx hb dX12_readTalker_59 rfl (lv_at hl 1 rfl) ?_
  obtain ⟨z6, hg, hf⟩ := tc_bi hf
  refine tc_iVs (As := []) (rest := [.ref (q 0)]) (b := q 0) X hP hD hS (mX12_isOn hg) okX12_isOn wl_X12_184 wi_X12_isOn ws_X12_X12_isOn_X12_isOn ⟨rfl, rfl, Nat.le_of_ble_eq_true rfl, Nat.le_of_ble_eq_true rfl⟩ 12 0 rfl rfl rfl hl.1 (Nat.le_of_ble_eq_true rfl) dX12_readTalker_60 (fun H locs hP hD hS => ?_)
  obtain ⟨z7, hg, hf⟩ := tc_bi hf
  refine tc_vVs (As := [.int (z6)]) (rest := []) (b := q 0) X hP hD hS (mX12_must hg) okX12_must wl_X12_225 wi_X12_must ws_X12_X12_must_X12_must ⟨rfl, rfl, Nat.le_of_ble_eq_true rfl, Nat.le_of_ble_eq_true rfl⟩ 12 0 rfl rfl rfl hl.1 (Nat.le_of_ble_eq_true rfl) dX12_readTalker_63 (fun H locs hP hD hS => ?_)
  refine lv_aload_n hx hb dX12_readTalker_66 rfl (lv_at hl 1 rfl) ?_
  refine lv_iconst (v := (4 : Int32)) hx hb dX12_readTalker_67 (by decide) ?_
  refine lv_iconst (v := (0 : Int32)) hx hb dX12_readTalker_68 (by decide) ?_
  obtain ⟨z8, hg, hf⟩ := tc_bi hf
  refine tc_iVs (As := [.int ((4 : Int32)), .int ((0 : Int32))]) (rest := []) (b := q 0) X hP hD hS (mX12_readTold hg) okX12_readTold wl_X12_264 wi_X12_readTold ws_X12_X12_readTold_X12_readTold ⟨rfl, rfl, Nat.le_of_ble_eq_true rfl, Nat.le_of_ble_eq_true rfl⟩ 12 0 rfl rfl rfl hl.1 (Nat.le_of_ble_eq_true rfl) dX12_readTalker_69 (fun H locs hP hD hS => ?_)
  refine lv_istore_n (lv' := [(3, .int (z8.1)), (2, .int (z5.1)), (0, .ref (q 0)), (1, .int (v1))]) hx hb dX12_readTalker_72 rfl hl (by decide) rfl (fun ls hl => ?_)
  refine lv_aload_n hx hb dX12_readTalker_73 rfl (lv_at hl 2 rfl) ?_
  refine lv_aload_n hx hb dX12_readTalker_74 rfl (lv_at hl 2 rfl) ?_
  obtain ⟨z9, hg, hf⟩ := tc_bi hf
  refine tc_iVs (As := []) (rest := [.ref (q 0)]) (b := q 0) X hP hD hS (mX12_isFails hg) okX12_isFails wl_X12_187 wi_X12_isFails ws_X12_X12_isFails_X12_isFails ⟨rfl, rfl, Nat.le_of_ble_eq_true rfl, Nat.le_of_ble_eq_true rfl⟩ 12 0 rfl rfl rfl hl.1 (Nat.le_of_ble_eq_true rfl) dX12_readTalker_75 (fun H locs hP hD hS => ?_)
  obtain ⟨z10, hg, hf⟩ := tc_bi hf
  refine tc_iVs (As := [.int (z9)]) (rest := []) (b := q 0) X hP hD hS (mX12_perhaps hg) okX12_perhaps wl_X12_267 wi_X12_perhaps ws_X12_X12_perhaps_X12_perhaps ⟨rfl, rfl, Nat.le_of_ble_eq_true rfl, Nat.le_of_ble_eq_true rfl⟩ 12 0 rfl rfl rfl hl.1 (Nat.le_of_ble_eq_true rfl) dX12_readTalker_78 (fun H locs hP hD hS => ?_)
  refine lv_if_eq (tgt := 94) hx hb dX12_readTalker_81 (by decide) (fun hc => ?_) (fun hc => ?_)
  · have hf := tc_pos hc hf
    refine lv_iconst (v := (0 : Int32)) hx hb dX12_readTalker_94 (by decide) ?_
    exact tX12_readTalker_95 X z z10.2 v1 z5.1 z8.1 (0 : Int32) hf _ _ _ hP hD hS (lv_sub hl [2, 3, 1, 0] rfl)
  · have hf := tc_neg hc hf
    refine lv_aload_n hx hb dX12_readTalker_84 rfl (lv_at hl 2 rfl) ?_
    refine lv_iconst (v := (0 : Int32)) hx hb dX12_readTalker_85 (by decide) ?_
    refine lv_bipush (v := (16 : Int32)) hx hb dX12_readTalker_86 (by decide) ?_
    obtain ⟨z14, hg, hf⟩ := tc_bi hf
    refine tc_iVs (As := [.int ((0 : Int32)), .int ((16 : Int32))]) (rest := []) (b := q 0) X hP hD hS (mX12_count hg) okX12_count wl_X12_229 wi_X12_count ws_X12_X12_count_X12_count ⟨rfl, rfl, Nat.le_of_ble_eq_true rfl, Nat.le_of_ble_eq_true rfl⟩ 12 0 rfl rfl rfl hl.1 (Nat.le_of_ble_eq_true rfl) dX12_readTalker_88 (fun H locs hP hD hS => ?_)
    refine lv_goto (tgt := 95) hx hb dX12_readTalker_91 (by decide) ?_
    exact tX12_readTalker_95 X z z14.2 v1 z5.1 z8.1 z14.1 hf _ _ _ hP hD hS (lv_sub hl [2, 3, 1, 0] rfl)
set_option maxRecDepth 20000 in
theorem mX12_readTalker {q : Nat → Nat}  {S : ms_T}  {z : ms_T}  (hf : fX12_readTalker S = some z) : tc_MV l dC dI ca yX12_readTalker cX12_readTalker 5 none rmX12_readTalker [.ref (q 0)] (w12 ca q S) (w12 ca q z) := by
  refine tc_metV (own := RX12) (by decide) rfl ?_ (Nat.le_of_ble_eq_true rfl)
  intro p e s m below meth c A X hP hD hS ls hl
  obtain ⟨hx, hb, hr, hml, hown, hts, hlk, hK, hA, hG⟩ := id X
  unfold fX12_readTalker at hf
  have hl : lv_has ls 5 [(0, .ref (q 0))] := hl
  refine lv_aload_n hx hb dX12_readTalker_0 rfl (lv_at hl 0 rfl) ?_
  refine lv_iconst (v := (2 : Int32)) hx hb dX12_readTalker_1 (by decide) ?_
  refine lv_bipush (v := (6 : Int32)) hx hb dX12_readTalker_2 (by decide) ?_
  obtain ⟨z1, hg, hf⟩ := tc_bi hf
  refine tc_iVs (As := [.int ((2 : Int32)), .int ((6 : Int32))]) (rest := []) (b := q 0) X hP hD hS (mX12_readNew hg) okX12_readNew wl_X12_257 wi_X12_readNew ws_X12_X12_readNew_X12_readNew ⟨rfl, rfl, Nat.le_of_ble_eq_true rfl, Nat.le_of_ble_eq_true rfl⟩ 12 0 rfl rfl rfl hl.1 (Nat.le_of_ble_eq_true rfl) dX12_readTalker_4 (fun H locs hP hD hS => ?_)
  refine lv_istore_n (lv' := [(1, .int (z1.1)), (0, .ref (q 0))]) hx hb dX12_readTalker_7 rfl hl (by decide) rfl (fun ls hl => ?_)
  refine lv_aload_n hx hb dX12_readTalker_8 rfl (lv_at hl 1 rfl) ?_
  refine lv_aload_n hx hb dX12_readTalker_9 rfl (lv_at hl 1 rfl) ?_
  obtain ⟨z2, hg, hf⟩ := tc_bi hf
  refine tc_iVs (As := []) (rest := [.ref (q 0)]) (b := q 0) X hP hD hS (mX12_isSeat hg) okX12_isSeat wl_X12_181 wi_X12_isSeat ws_X12_X12_isSeat_X12_isSeat ⟨rfl, rfl, Nat.le_of_ble_eq_true rfl, Nat.le_of_ble_eq_true rfl⟩ 12 0 rfl rfl rfl hl.1 (Nat.le_of_ble_eq_true rfl) dX12_readTalker_10 (fun H locs hP hD hS => ?_)
  obtain ⟨z3, hg, hf⟩ := tc_bi hf
  refine tc_vVs (As := [.int (z2)]) (rest := []) (b := q 0) X hP hD hS (mX12_must hg) okX12_must wl_X12_225 wi_X12_must ws_X12_X12_must_X12_must ⟨rfl, rfl, Nat.le_of_ble_eq_true rfl, Nat.le_of_ble_eq_true rfl⟩ 12 0 rfl rfl rfl hl.1 (Nat.le_of_ble_eq_true rfl) dX12_readTalker_13 (fun H locs hP hD hS => ?_)
  refine lv_aload_n hx hb dX12_readTalker_16 rfl (lv_at hl 1 rfl) ?_
  refine lv_iconst (v := (0 : Int32)) hx hb dX12_readTalker_17 (by decide) ?_
  refine lv_bipush (v := (9 : Int32)) hx hb dX12_readTalker_18 (by decide) ?_
  obtain ⟨z4, hg, hf⟩ := tc_bi hf
  refine tc_vVs (As := [.int ((0 : Int32)), .int ((9 : Int32))]) (rest := []) (b := q 0) X hP hD hS (mX12_stands hg) okX12_stands wl_X12_222 wi_X12_stands ws_X12_X12_stands_X12_stands ⟨rfl, rfl, Nat.le_of_ble_eq_true rfl, Nat.le_of_ble_eq_true rfl⟩ 12 0 rfl rfl rfl hl.1 (Nat.le_of_ble_eq_true rfl) dX12_readTalker_20 (fun H locs hP hD hS => ?_)
  refine lv_aload_n hx hb dX12_readTalker_23 rfl (lv_at hl 1 rfl) ?_
  refine va_get (D := (dC, dI)) (ci := 12) (v := .int (gi z4 12)) (C := RX12) (T := TX12) (N := 49) hx hb hts i_X12 hown hK hP 0 rfl rfl 12 (by decide) (hts _ wf_X12_206) (fun _ h9 => h9) rfl dX12_readTalker_24 ?_
  refine lv_if_ne (tgt := 50) hx hb dX12_readTalker_27 (by decide) (fun hc => ?_) (fun hc => ?_)
  · have hf := tc_neg hc hf
    exact tX12_readTalker_50 X z z4 z1.1 hf _ _ _ hP hD hS (lv_sub hl [1, 0] rfl)
  · have hf := tc_pos hc hf
    refine lv_aload_n hx hb dX12_readTalker_30 rfl (lv_at hl 1 rfl) ?_
    refine lv_aload_n hx hb dX12_readTalker_31 rfl (lv_at hl 1 rfl) ?_
    refine va_get (D := (dC, dI)) (ci := 12) (v := .int (gi z4 17)) (C := RX12) (T := TX12) (N := 49) hx hb hts i_X12 hown hK hP 0 rfl rfl 17 (by decide) (hts _ wf_X12_137) (fun _ h9 => h9) rfl dX12_readTalker_32 ?_
    obtain ⟨z15, hg, hf⟩ := tc_bi hf
    refine tc_iVs (As := [.int (gi z4 17)]) (rest := []) (b := q 0) X hP hD hS (mX12_isTaken hg) okX12_isTaken wl_X12_275 wi_X12_isTaken ws_X12_X12_isTaken_X12_isTaken ⟨rfl, rfl, Nat.le_of_ble_eq_true rfl, Nat.le_of_ble_eq_true rfl⟩ 12 0 rfl rfl rfl hl.1 (Nat.le_of_ble_eq_true rfl) dX12_readTalker_35 (fun H locs hP hD hS => ?_)
    refine lv_if_eq (tgt := 50) hx hb dX12_readTalker_38 (by decide) (fun hc => ?_) (fun hc => ?_)
    · have hf := tc_pos hc hf
      exact tX12_readTalker_50 X z z4 z1.1 hf _ _ _ hP hD hS (lv_sub hl [1, 0] rfl)
    · have hf := tc_neg hc hf
      refine lv_aload_n hx hb dX12_readTalker_41 rfl (lv_at hl 1 rfl) ?_
      refine lv_iconst (v := (5 : Int32)) hx hb dX12_readTalker_42 (by decide) ?_
      refine lv_aload_n hx hb dX12_readTalker_43 rfl (lv_at hl 1 rfl) ?_
      refine va_get (D := (dC, dI)) (ci := 12) (v := .int (gi z4 15)) (C := RX12) (T := TX12) (N := 49) hx hb hts i_X12 hown hK hP 0 rfl rfl 15 (by decide) (hts _ wf_X12_112) (fun _ h9 => h9) rfl dX12_readTalker_44 ?_
      obtain ⟨z16, hg, hf⟩ := tc_bi hf
      refine tc_vVs (As := [.int ((5 : Int32)), .int (gi z4 15)]) (rest := []) (b := q 0) X hP hD hS (mX12_fail hg) okX12_fail wl_X12_212 wi_X12_fail ws_X12_X12_fail_X12_fail ⟨rfl, rfl, Nat.le_of_ble_eq_true rfl, Nat.le_of_ble_eq_true rfl⟩ 12 0 rfl rfl rfl hl.1 (Nat.le_of_ble_eq_true rfl) dX12_readTalker_47 (fun H locs hP hD hS => ?_)
      exact tX12_readTalker_50 X z z16 z1.1 hf _ _ _ hP hD hS (lv_sub hl [1, 0] rfl)
def fX12_isFeudOf_66  (S : ms_T) (k10 : Int32 → Int32 → Int32 → Int32 → Option (Int32)) (v2 : Int32) (v3 : Int32) (v4 : Int32) (v5 : Int32) (v6 : Int32) (v7 : Int32) : Option (Int32) :=
  if v6 = v3 then
    if v7 = v2 then
      some ((1 : Int32))
    else
      k10 v2 v3 v4 (v5 + (1 : Int32))
  else
    k10 v2 v3 v4 (v5 + (1 : Int32))
def fX12_isFeudOf_10  (S : ms_T)  : Nat → Int32 → Int32 → Int32 → Int32 → Option (Int32)
  | 0, _, _, _, _ => none
  | n + 1, v2, v3, v4, v5 =>
    if inb (v4 + (3 : Int32)) 1820 = true then
      if (ia S 5 (v4 + (3 : Int32))) ≤ v5 then
        some ((0 : Int32))
      else
        if inb ((v4 + (72 : Int32)) + v5) 1820 = true then
          if inb ((v4 + (82 : Int32)) + v5) 1820 = true then
            if (ia S 5 ((v4 + (72 : Int32)) + v5)) = v2 then
              if (ia S 5 ((v4 + (82 : Int32)) + v5)) = v3 then
                some ((1 : Int32))
              else
                fX12_isFeudOf_66 S (fX12_isFeudOf_10 S n) v2 v3 v4 v5 (ia S 5 ((v4 + (72 : Int32)) + v5)) (ia S 5 ((v4 + (82 : Int32)) + v5))
            else
              fX12_isFeudOf_66 S (fX12_isFeudOf_10 S n) v2 v3 v4 v5 (ia S 5 ((v4 + (72 : Int32)) + v5)) (ia S 5 ((v4 + (82 : Int32)) + v5))
          else none
        else none
    else none
def fX12_isFeudOf  (S : ms_T) (a1 : Int32) (a2 : Int32) (a3 : Int32) : Option (Int32) :=
  fX12_isFeudOf_10 S FU a2 a3 ((364 : Int32) * a1) (0 : Int32)
abbrev rmX12_isFeudOf : Room := { frames := 0, cells := 0, slots := 0, locals := 0 }
theorem okX12_isFeudOf : tc_ok yX12_isFeudOf cX12_isFeudOf 8 (some .boolean) 3 := ⟨wc_X12_isFeudOf, wn_X12, by decide, by decide, by decide +kernel⟩
set_option maxRecDepth 20000 in
theorem tX12_isFeudOf_66 {q : Nat → Nat}  (X : tc_X dC dI ca A RX12 cX12_isFeudOf 8 (some .boolean) p s m args meth c) (z : Int32)  (S : ms_T) (k10 : Int32 → Int32 → Int32 → Int32 → Option (Int32)) (hk10 : ∀ (v2 : Int32) (v3 : Int32) (v4 : Int32) (v5 : Int32), k10 v2 v3 v4 v5 = some z → ∀ (H : Heap) (locs : List Loc) (ls : Array Slot), va_P (dC, dI) classes (w12 ca q S) H → va_D A (w12 ca q S) → va_S A s.heap H locs → lv_has ls 8 [(0, .ref (q 0)), (2, .int (v2)), (3, .int (v3)), (4, .int (v4)), (5, .int (v5))] → W p l e rmX12_isFeudOf s m args below meth c H locs 0 0 (MQ below (tc_QI dC dI ca A (w12 ca q S) (z)) args s 0 0 A) (F0 m 10 ls [])) : ∀ (v2 : Int32) (v3 : Int32) (v4 : Int32) (v5 : Int32) (v6 : Int32) (v7 : Int32), fX12_isFeudOf_66 S k10 v2 v3 v4 v5 v6 v7 = some z → ∀ (H : Heap) (locs : List Loc) (ls : Array Slot), va_P (dC, dI) classes (w12 ca q S) H → va_D A (w12 ca q S) → va_S A s.heap H locs → lv_has ls 8 [(0, .ref (q 0)), (2, .int (v2)), (3, .int (v3)), (4, .int (v4)), (5, .int (v5)), (6, .int (v6)), (7, .int (v7))] → W p l e rmX12_isFeudOf s m args below meth c H locs 0 0 (MQ below (tc_QI dC dI ca A (w12 ca q S) (z)) args s 0 0 A) (F0 m 66 ls []) := by
  obtain ⟨hx, hb, hr, hml, hown, hts, hlk, hK, hA, hG⟩ := id X
  intro v2 v3 v4 v5 v6 v7 hf H locs ls hP hD hS hl
  unfold fX12_isFeudOf_66 at hf
  refine lv_iload hx hb dX12_isFeudOf_66 (lv_at hl 5 rfl) ?_
  refine lv_iload_n hx hb dX12_isFeudOf_68 rfl (lv_at hl 2 rfl) ?_
  refine lv_icmp_ne (tgt := 80) hx hb dX12_isFeudOf_69 (by decide) (fun hc => ?_) (fun hc => ?_)
  · have hf := tc_neg hc hf
    refine lv_iinc (v := v5 + (1 : Int32)) (lv' := [(5, .int (v5 + (1 : Int32))), (0, .ref (q 0)), (2, .int (v2)), (3, .int (v3)), (4, .int (v4)), (6, .int (v6)), (7, .int (v7))]) hx hb dX12_isFeudOf_80 hl (k := 4) rfl rfl (by decide) rfl (fun ls hl => ?_)
    refine lv_goto (tgt := 10) hx hb dX12_isFeudOf_83 (by decide) ?_
    exact hk10 v2 v3 v4 (v5 + (1 : Int32)) hf _ _ _ hP hD hS (lv_sub hl [1, 2, 3, 4, 0] rfl)
  · have hf := tc_pos hc hf
    refine lv_iload hx hb dX12_isFeudOf_72 (lv_at hl 6 rfl) ?_
    refine lv_iload_n hx hb dX12_isFeudOf_74 rfl (lv_at hl 1 rfl) ?_
    refine lv_icmp_ne (tgt := 80) hx hb dX12_isFeudOf_75 (by decide) (fun hc => ?_) (fun hc => ?_)
    · have hf := tc_neg hc hf
      refine lv_iinc (v := v5 + (1 : Int32)) (lv' := [(5, .int (v5 + (1 : Int32))), (0, .ref (q 0)), (2, .int (v2)), (3, .int (v3)), (4, .int (v4)), (6, .int (v6)), (7, .int (v7))]) hx hb dX12_isFeudOf_80 hl (k := 4) rfl rfl (by decide) rfl (fun ls hl => ?_)
      refine lv_goto (tgt := 10) hx hb dX12_isFeudOf_83 (by decide) ?_
      exact hk10 v2 v3 v4 (v5 + (1 : Int32)) hf _ _ _ hP hD hS (lv_sub hl [1, 2, 3, 4, 0] rfl)
    · have hf := tc_pos hc hf
      refine lv_iconst (v := (1 : Int32)) hx hb dX12_isFeudOf_78 (by decide) ?_
      obtain rfl := Option.some.inj hf
      exact tc_rz X hP hD hS rfl dX12_isFeudOf_79 (by decide) rfl rfl
set_option maxRecDepth 20000 in
theorem tX12_isFeudOf_10 {q : Nat → Nat}  (X : tc_X dC dI ca A RX12 cX12_isFeudOf 8 (some .boolean) p s m args meth c) (z : Int32)  (S : ms_T)   : ∀ n : Nat, ∀ (v2 : Int32) (v3 : Int32) (v4 : Int32) (v5 : Int32), fX12_isFeudOf_10 S n v2 v3 v4 v5 = some z → ∀ (H : Heap) (locs : List Loc) (ls : Array Slot), va_P (dC, dI) classes (w12 ca q S) H → va_D A (w12 ca q S) → va_S A s.heap H locs → lv_has ls 8 [(0, .ref (q 0)), (2, .int (v2)), (3, .int (v3)), (4, .int (v4)), (5, .int (v5))] → W p l e rmX12_isFeudOf s m args below meth c H locs 0 0 (MQ below (tc_QI dC dI ca A (w12 ca q S) (z)) args s 0 0 A) (F0 m 10 ls []) := by
  obtain ⟨hx, hb, hr, hml, hown, hts, hlk, hK, hA, hG⟩ := id X
  intro n
  induction n with
  | zero => intro v2 v3 v4 v5 hf; exact absurd (show none = some z from hf) (fun h => by cases h)
  | succ n ih =>
    intro v2 v3 v4 v5 hf H locs ls hP hD hS hl
    rw [fX12_isFeudOf_10] at hf
    refine lv_iload hx hb dX12_isFeudOf_10 (lv_at hl 4 rfl) ?_
    refine lv_aload_n hx hb dX12_isFeudOf_12 rfl (lv_at hl 0 rfl) ?_
    refine va_get (D := (dC, dI)) (ci := 12) (v := .ref (q 5)) (C := RX12) (T := TX12) (N := 49) hx hb hts i_X12 hown hK hP 0 rfl rfl 20 (by decide) (hts _ wf_X12_35) (fun _ h9 => h9) rfl dX12_isFeudOf_13 ?_
    refine lv_iload hx hb dX12_isFeudOf_16 (lv_at hl 3 rfl) ?_
    refine lv_iconst (v := (3 : Int32)) hx hb dX12_isFeudOf_18 (by decide) ?_
    refine lv_iadd hx hb dX12_isFeudOf_19 ?_
    obtain ⟨hi1, hf⟩ := tc_in hf
    refine va_iald hx hb hK hP 5 1 rfl rfl hi1 dX12_isFeudOf_20 ?_
    refine lv_icmp_ge (tgt := 86) hx hb dX12_isFeudOf_21 (by decide) (fun hc => ?_) (fun hc => ?_)
    · have hf := tc_pos hc hf
      refine lv_iconst (v := (0 : Int32)) hx hb dX12_isFeudOf_86 (by decide) ?_
      obtain rfl := Option.some.inj hf
      exact tc_rz X hP hD hS rfl dX12_isFeudOf_87 (by decide) rfl rfl
    · have hf := tc_neg hc hf
      refine lv_aload_n hx hb dX12_isFeudOf_24 rfl (lv_at hl 0 rfl) ?_
      refine va_get (D := (dC, dI)) (ci := 12) (v := .ref (q 5)) (C := RX12) (T := TX12) (N := 49) hx hb hts i_X12 hown hK hP 0 rfl rfl 20 (by decide) (hts _ wf_X12_35) (fun _ h9 => h9) rfl dX12_isFeudOf_25 ?_
      refine lv_iload hx hb dX12_isFeudOf_28 (lv_at hl 3 rfl) ?_
      refine lv_bipush (v := (72 : Int32)) hx hb dX12_isFeudOf_30 (by decide) ?_
      refine lv_iadd hx hb dX12_isFeudOf_32 ?_
      refine lv_iload hx hb dX12_isFeudOf_33 (lv_at hl 4 rfl) ?_
      refine lv_iadd hx hb dX12_isFeudOf_35 ?_
      obtain ⟨hi2, hf⟩ := tc_in hf
      refine va_iald hx hb hK hP 5 1 rfl rfl hi2 dX12_isFeudOf_36 ?_
      refine lv_istore (lv' := [(6, .int (ia S 5 ((v4 + (72 : Int32)) + v5))), (0, .ref (q 0)), (2, .int (v2)), (3, .int (v3)), (4, .int (v4)), (5, .int (v5))]) hx hb dX12_isFeudOf_37 hl (by decide) rfl (fun ls hl => ?_)
      refine lv_aload_n hx hb dX12_isFeudOf_39 rfl (lv_at hl 1 rfl) ?_
      refine va_get (D := (dC, dI)) (ci := 12) (v := .ref (q 5)) (C := RX12) (T := TX12) (N := 49) hx hb hts i_X12 hown hK hP 0 rfl rfl 20 (by decide) (hts _ wf_X12_35) (fun _ h9 => h9) rfl dX12_isFeudOf_40 ?_
      refine lv_iload hx hb dX12_isFeudOf_43 (lv_at hl 4 rfl) ?_
      refine lv_bipush (v := (82 : Int32)) hx hb dX12_isFeudOf_45 (by decide) ?_
      refine lv_iadd hx hb dX12_isFeudOf_47 ?_
      refine lv_iload hx hb dX12_isFeudOf_48 (lv_at hl 5 rfl) ?_
      refine lv_iadd hx hb dX12_isFeudOf_50 ?_
      obtain ⟨hi3, hf⟩ := tc_in hf
      refine va_iald hx hb hK hP 5 1 rfl rfl hi3 dX12_isFeudOf_51 ?_
      refine lv_istore (lv' := [(7, .int (ia S 5 ((v4 + (82 : Int32)) + v5))), (6, .int (ia S 5 ((v4 + (72 : Int32)) + v5))), (0, .ref (q 0)), (2, .int (v2)), (3, .int (v3)), (4, .int (v4)), (5, .int (v5))]) hx hb dX12_isFeudOf_52 hl (by decide) rfl (fun ls hl => ?_)
      refine lv_iload hx hb dX12_isFeudOf_54 (lv_at hl 1 rfl) ?_
      refine lv_iload_n hx hb dX12_isFeudOf_56 rfl (lv_at hl 3 rfl) ?_
      refine lv_icmp_ne (tgt := 66) hx hb dX12_isFeudOf_57 (by decide) (fun hc => ?_) (fun hc => ?_)
      · have hf := tc_neg hc hf
        exact tX12_isFeudOf_66 X z S (fX12_isFeudOf_10 S n) ih v2 v3 v4 v5 (ia S 5 ((v4 + (72 : Int32)) + v5)) (ia S 5 ((v4 + (82 : Int32)) + v5)) hf _ _ _ hP hD hS (lv_sub hl [2, 3, 4, 5, 6, 1, 0] rfl)
      · have hf := tc_pos hc hf
        refine lv_iload hx hb dX12_isFeudOf_60 (lv_at hl 0 rfl) ?_
        refine lv_iload_n hx hb dX12_isFeudOf_62 rfl (lv_at hl 4 rfl) ?_
        refine lv_icmp_eq (tgt := 78) hx hb dX12_isFeudOf_63 (by decide) (fun hc => ?_) (fun hc => ?_)
        · have hf := tc_pos hc hf
          refine lv_iconst (v := (1 : Int32)) hx hb dX12_isFeudOf_78 (by decide) ?_
          obtain rfl := Option.some.inj hf
          exact tc_rz X hP hD hS rfl dX12_isFeudOf_79 (by decide) rfl rfl
        · have hf := tc_neg hc hf
          exact tX12_isFeudOf_66 X z S (fX12_isFeudOf_10 S n) ih v2 v3 v4 v5 (ia S 5 ((v4 + (72 : Int32)) + v5)) (ia S 5 ((v4 + (82 : Int32)) + v5)) hf _ _ _ hP hD hS (lv_sub hl [2, 3, 4, 5, 6, 1, 0] rfl)
set_option maxRecDepth 20000 in
theorem mX12_isFeudOf {q : Nat → Nat}  {S : ms_T} {a1 : Int32} {a2 : Int32} {a3 : Int32} {z : Int32}  (hf : fX12_isFeudOf S a1 a2 a3 = some z) : tc_MI l dC dI ca yX12_isFeudOf cX12_isFeudOf 8 (some .boolean) rmX12_isFeudOf [.ref (q 0), .int (a1), .int (a2), .int (a3)] (w12 ca q S) (w12 ca q S) (z) := by
  refine tc_metI (own := RX12) (by decide) rfl ?_ (Nat.le_of_ble_eq_true rfl)
  intro p e s m below meth c A X hP hD hS ls hl
  obtain ⟨hx, hb, hr, hml, hown, hts, hlk, hK, hA, hG⟩ := id X
  unfold fX12_isFeudOf at hf
  have hl : lv_has ls 8 [(0, .ref (q 0)), (1, .int (a1)), (2, .int (a2)), (3, .int (a3))] := hl
  refine lv_sipush (v := (364 : Int32)) hx hb dX12_isFeudOf_0 (by decide) ?_
  refine lv_iload_n hx hb dX12_isFeudOf_3 rfl (lv_at hl 1 rfl) ?_
  refine lv_imul hx hb dX12_isFeudOf_4 ?_
  refine lv_istore (lv' := [(4, .int ((364 : Int32) * a1)), (0, .ref (q 0)), (1, .int (a1)), (2, .int (a2)), (3, .int (a3))]) hx hb dX12_isFeudOf_5 hl (by decide) rfl (fun ls hl => ?_)
  refine lv_iconst (v := (0 : Int32)) hx hb dX12_isFeudOf_7 (by decide) ?_
  refine lv_istore (lv' := [(5, .int ((0 : Int32))), (4, .int ((364 : Int32) * a1)), (0, .ref (q 0)), (1, .int (a1)), (2, .int (a2)), (3, .int (a3))]) hx hb dX12_isFeudOf_8 hl (by decide) rfl (fun ls hl => ?_)
  exact tX12_isFeudOf_10 X z S FU a2 a3 ((364 : Int32) * a1) (0 : Int32) hf _ _ _ hP hD hS (lv_sub hl [2, 4, 5, 1, 0] rfl)
def fX12_angers  (S : ms_T) (a1 : Int32) (a2 : Int32) (a3 : Int32) : Option (ms_T) :=
  if inb (((364 : Int32) * a1) + (3 : Int32)) 1820 = true then
    if inb ((((364 : Int32) * a1) + (72 : Int32)) + (ia S 5 (((364 : Int32) * a1) + (3 : Int32)))) 1820 = true then
      if inb ((((364 : Int32) * a1) + (82 : Int32)) + (ia S 5 (((364 : Int32) * a1) + (3 : Int32)))) 1820 = true then
        if inb (((364 : Int32) * a1) + (3 : Int32)) 1820 = true then
          if inb (((364 : Int32) * a1) + (3 : Int32)) 1820 = true then
            some (sa (sa (sa S 5 ((((364 : Int32) * a1) + (72 : Int32)) + (ia S 5 (((364 : Int32) * a1) + (3 : Int32)))) a2) 5 ((((364 : Int32) * a1) + (82 : Int32)) + (ia S 5 (((364 : Int32) * a1) + (3 : Int32)))) a3) 5 (((364 : Int32) * a1) + (3 : Int32)) ((ia (sa (sa S 5 ((((364 : Int32) * a1) + (72 : Int32)) + (ia S 5 (((364 : Int32) * a1) + (3 : Int32)))) a2) 5 ((((364 : Int32) * a1) + (82 : Int32)) + (ia S 5 (((364 : Int32) * a1) + (3 : Int32)))) a3) 5 (((364 : Int32) * a1) + (3 : Int32))) + (1 : Int32)))
          else none
        else none
      else none
    else none
  else none
abbrev rmX12_angers : Room := { frames := 0, cells := 0, slots := 0, locals := 0 }
theorem okX12_angers : tc_ok yX12_angers cX12_angers 6 none 3 := ⟨wc_X12_angers, wn_X12, by decide, by decide, by decide +kernel⟩
set_option maxRecDepth 20000 in
theorem mX12_angers {q : Nat → Nat}  {S : ms_T} {a1 : Int32} {a2 : Int32} {a3 : Int32} {z : ms_T}  (hf : fX12_angers S a1 a2 a3 = some z) : tc_MV l dC dI ca yX12_angers cX12_angers 6 none rmX12_angers [.ref (q 0), .int (a1), .int (a2), .int (a3)] (w12 ca q S) (w12 ca q z) := by
  refine tc_metV (own := RX12) (by decide) rfl ?_ (Nat.le_of_ble_eq_true rfl)
  intro p e s m below meth c A X hP hD hS ls hl
  obtain ⟨hx, hb, hr, hml, hown, hts, hlk, hK, hA, hG⟩ := id X
  unfold fX12_angers at hf
  have hl : lv_has ls 6 [(0, .ref (q 0)), (1, .int (a1)), (2, .int (a2)), (3, .int (a3))] := hl
  refine lv_sipush (v := (364 : Int32)) hx hb dX12_angers_0 (by decide) ?_
  refine lv_iload_n hx hb dX12_angers_3 rfl (lv_at hl 1 rfl) ?_
  refine lv_imul hx hb dX12_angers_4 ?_
  refine lv_istore (lv' := [(4, .int ((364 : Int32) * a1)), (0, .ref (q 0)), (1, .int (a1)), (2, .int (a2)), (3, .int (a3))]) hx hb dX12_angers_5 hl (by decide) rfl (fun ls hl => ?_)
  refine lv_aload_n hx hb dX12_angers_7 rfl (lv_at hl 1 rfl) ?_
  refine va_get (D := (dC, dI)) (ci := 12) (v := .ref (q 5)) (C := RX12) (T := TX12) (N := 49) hx hb hts i_X12 hown hK hP 0 rfl rfl 20 (by decide) (hts _ wf_X12_35) (fun _ h9 => h9) rfl dX12_angers_8 ?_
  refine lv_iload hx hb dX12_angers_11 (lv_at hl 0 rfl) ?_
  refine lv_iconst (v := (3 : Int32)) hx hb dX12_angers_13 (by decide) ?_
  refine lv_iadd hx hb dX12_angers_14 ?_
  obtain ⟨hi1, hf⟩ := tc_in hf
  refine va_iald hx hb hK hP 5 1 rfl rfl hi1 dX12_angers_15 ?_
  refine lv_istore (lv' := [(5, .int (ia S 5 (((364 : Int32) * a1) + (3 : Int32)))), (4, .int ((364 : Int32) * a1)), (0, .ref (q 0)), (1, .int (a1)), (2, .int (a2)), (3, .int (a3))]) hx hb dX12_angers_16 hl (by decide) rfl (fun ls hl => ?_)
  refine lv_aload_n hx hb dX12_angers_18 rfl (lv_at hl 2 rfl) ?_
  refine va_get (D := (dC, dI)) (ci := 12) (v := .ref (q 5)) (C := RX12) (T := TX12) (N := 49) hx hb hts i_X12 hown hK hP 0 rfl rfl 20 (by decide) (hts _ wf_X12_35) (fun _ h9 => h9) rfl dX12_angers_19 ?_
  refine lv_iload hx hb dX12_angers_22 (lv_at hl 1 rfl) ?_
  refine lv_bipush (v := (72 : Int32)) hx hb dX12_angers_24 (by decide) ?_
  refine lv_iadd hx hb dX12_angers_26 ?_
  refine lv_iload hx hb dX12_angers_27 (lv_at hl 0 rfl) ?_
  refine lv_iadd hx hb dX12_angers_29 ?_
  refine lv_iload_n hx hb dX12_angers_30 rfl (lv_at hl 4 rfl) ?_
  obtain ⟨hi2, hf⟩ := tc_in hf
  refine va_iast hx hb hK hP hD hS 5 1 rfl rfl hi2 dX12_angers_31 (fun H locs hP hD hS => ?_)
  have hP := tc_eP (aw12_0_5 ca q S ((((364 : Int32) * a1) + (72 : Int32)) + (ia S 5 (((364 : Int32) * a1) + (3 : Int32)))) a2) hP
  have hD := tc_eD (aw12_0_5 ca q S ((((364 : Int32) * a1) + (72 : Int32)) + (ia S 5 (((364 : Int32) * a1) + (3 : Int32)))) a2) hD
  refine lv_aload_n hx hb dX12_angers_32 rfl (lv_at hl 2 rfl) ?_
  refine va_get (D := (dC, dI)) (ci := 12) (v := .ref (q 5)) (C := RX12) (T := TX12) (N := 49) hx hb hts i_X12 hown hK hP 0 rfl rfl 20 (by decide) (hts _ wf_X12_35) (fun _ h9 => h9) rfl dX12_angers_33 ?_
  refine lv_iload hx hb dX12_angers_36 (lv_at hl 1 rfl) ?_
  refine lv_bipush (v := (82 : Int32)) hx hb dX12_angers_38 (by decide) ?_
  refine lv_iadd hx hb dX12_angers_40 ?_
  refine lv_iload hx hb dX12_angers_41 (lv_at hl 0 rfl) ?_
  refine lv_iadd hx hb dX12_angers_43 ?_
  refine lv_iload_n hx hb dX12_angers_44 rfl (lv_at hl 5 rfl) ?_
  obtain ⟨hi3, hf⟩ := tc_in hf
  refine va_iast hx hb hK hP hD hS 5 1 rfl rfl hi3 dX12_angers_45 (fun H locs hP hD hS => ?_)
  have hP := tc_eP (aw12_0_5 ca q (sa S 5 ((((364 : Int32) * a1) + (72 : Int32)) + (ia S 5 (((364 : Int32) * a1) + (3 : Int32)))) a2) ((((364 : Int32) * a1) + (82 : Int32)) + (ia S 5 (((364 : Int32) * a1) + (3 : Int32)))) a3) hP
  have hD := tc_eD (aw12_0_5 ca q (sa S 5 ((((364 : Int32) * a1) + (72 : Int32)) + (ia S 5 (((364 : Int32) * a1) + (3 : Int32)))) a2) ((((364 : Int32) * a1) + (82 : Int32)) + (ia S 5 (((364 : Int32) * a1) + (3 : Int32)))) a3) hD
  refine lv_aload_n hx hb dX12_angers_46 rfl (lv_at hl 2 rfl) ?_
  refine va_get (D := (dC, dI)) (ci := 12) (v := .ref (q 5)) (C := RX12) (T := TX12) (N := 49) hx hb hts i_X12 hown hK hP 0 rfl rfl 20 (by decide) (hts _ wf_X12_35) (fun _ h9 => h9) rfl dX12_angers_47 ?_
  refine lv_iload hx hb dX12_angers_50 (lv_at hl 1 rfl) ?_
  refine lv_iconst (v := (3 : Int32)) hx hb dX12_angers_52 (by decide) ?_
  refine lv_iadd hx hb dX12_angers_53 ?_
  refine lv_dup2_11 hx hb dX12_angers_54 rfl rfl ?_
  obtain ⟨hi4, hf⟩ := tc_in hf
  refine va_iald hx hb hK hP 5 1 rfl rfl hi4 dX12_angers_55 ?_
  refine lv_iconst (v := (1 : Int32)) hx hb dX12_angers_56 (by decide) ?_
  refine lv_iadd hx hb dX12_angers_57 ?_
  obtain ⟨hi5, hf⟩ := tc_in hf
  refine va_iast hx hb hK hP hD hS 5 1 rfl rfl hi5 dX12_angers_58 (fun H locs hP hD hS => ?_)
  have hP := tc_eP (aw12_0_5 ca q (sa (sa S 5 ((((364 : Int32) * a1) + (72 : Int32)) + (ia S 5 (((364 : Int32) * a1) + (3 : Int32)))) a2) 5 ((((364 : Int32) * a1) + (82 : Int32)) + (ia S 5 (((364 : Int32) * a1) + (3 : Int32)))) a3) (((364 : Int32) * a1) + (3 : Int32)) ((ia (sa (sa S 5 ((((364 : Int32) * a1) + (72 : Int32)) + (ia S 5 (((364 : Int32) * a1) + (3 : Int32)))) a2) 5 ((((364 : Int32) * a1) + (82 : Int32)) + (ia S 5 (((364 : Int32) * a1) + (3 : Int32)))) a3) 5 (((364 : Int32) * a1) + (3 : Int32))) + (1 : Int32))) hP
  have hD := tc_eD (aw12_0_5 ca q (sa (sa S 5 ((((364 : Int32) * a1) + (72 : Int32)) + (ia S 5 (((364 : Int32) * a1) + (3 : Int32)))) a2) 5 ((((364 : Int32) * a1) + (82 : Int32)) + (ia S 5 (((364 : Int32) * a1) + (3 : Int32)))) a3) (((364 : Int32) * a1) + (3 : Int32)) ((ia (sa (sa S 5 ((((364 : Int32) * a1) + (72 : Int32)) + (ia S 5 (((364 : Int32) * a1) + (3 : Int32)))) a2) 5 ((((364 : Int32) * a1) + (82 : Int32)) + (ia S 5 (((364 : Int32) * a1) + (3 : Int32)))) a3) 5 (((364 : Int32) * a1) + (3 : Int32))) + (1 : Int32))) hD
  obtain rfl := Option.some.inj hf
  exact tc_rv X hP hD hS rfl dX12_angers_59 rfl
def fX12_readFeud_73    (S : ms_T) (v1 : Int32) (v2 : Int32) : Option (ms_T) :=
  (fX12_must S (1 : Int32)).bind fun z4 =>
  if (gi z4 12) = 0 then
    (fX12_angers z4 (4 : Int32) v1 v2).bind fun z5 =>
    some (z5)
  else
    some (z4)
def fX12_readFeud_64    (S : ms_T) (v1 : Int32) (v2 : Int32) : Option (ms_T) :=
  (fX12_fail S (5 : Int32) (gi S 15)).bind fun z6 =>
  fX12_readFeud_73 z6 v1 v2
def fX12_readFeud_23    (S : ms_T) : Option (ms_T) :=
  (fX12_must S (1 : Int32)).bind fun z1 =>
  (fX12_readTold z1 (4 : Int32) (2 : Int32)).bind fun z2 =>
  (fX12_told z2.2 (4 : Int32) (2 : Int32)).bind fun z3 =>
  if (gi z3.2 12) = 0 then
    if z2.1 = z3.1 then
      fX12_readFeud_64 z3.2 z2.1 z3.1
    else
      (fX12_isFeudOf z3.2 (4 : Int32) z2.1 z3.1).bind fun z7 =>
      if z7 = 0 then
        fX12_readFeud_73 z3.2 z2.1 z3.1
      else
        fX12_readFeud_64 z3.2 z2.1 z3.1
  else
    fX12_readFeud_73 z3.2 z2.1 z3.1
def fX12_readFeud  (S : ms_T)  : Option (ms_T) :=
  if (ia S 5 (1459 : Int32)) = (10 : Int32) then
    (fX12_fail S (6 : Int32) (gi S 15)).bind fun z8 =>
    fX12_readFeud_23 z8
  else
    fX12_readFeud_23 S
abbrev rmX12_readFeud : Room := { frames := 6, cells := 0, slots := 0, locals := 133 }
theorem okX12_readFeud : tc_ok yX12_readFeud cX12_readFeud 3 none 0 := ⟨wc_X12_readFeud, wn_X12, by decide, by decide, by decide +kernel⟩
set_option maxRecDepth 20000 in
theorem tX12_readFeud_73 {q : Nat → Nat}  (X : tc_X dC dI ca A RX12 cX12_readFeud 3 none p s m args meth c) (z : ms_T)     : ∀ (S : ms_T) (v1 : Int32) (v2 : Int32), fX12_readFeud_73 S v1 v2 = some z → ∀ (H : Heap) (locs : List Loc) (ls : Array Slot), va_P (dC, dI) classes (w12 ca q S) H → va_D A (w12 ca q S) → va_S A s.heap H locs → lv_has ls 3 [(0, .ref (q 0)), (1, .int (v1)), (2, .int (v2))] → W p l e rmX12_readFeud s m args below meth c H locs 0 0 (MQ below (tc_QV dC dI ca A (w12 ca q z)) args s 0 0 A) (F0 m 73 ls []) := by
  obtain ⟨hx, hb, hr, hml, hown, hts, hlk, hK, hA, hG⟩ := id X
  intro S v1 v2 hf H locs ls hP hD hS hl
  unfold fX12_readFeud_73 at hf
  refine lv_aload_n hx hb dX12_readFeud_73 rfl (lv_at hl 0 rfl) ?_
  refine lv_iconst (v := (1 : Int32)) hx hb dX12_readFeud_74 (by decide) ?_
  obtain ⟨z4, hg, hf⟩ := tc_bi hf
  refine tc_vVs (As := [.int ((1 : Int32))]) (rest := []) (b := q 0) X hP hD hS (mX12_must hg) okX12_must wl_X12_225 wi_X12_must ws_X12_X12_must_X12_must ⟨rfl, rfl, Nat.le_of_ble_eq_true rfl, Nat.le_of_ble_eq_true rfl⟩ 12 0 rfl rfl rfl hl.1 (Nat.le_of_ble_eq_true rfl) dX12_readFeud_75 (fun H locs hP hD hS => ?_)
  refine lv_aload_n hx hb dX12_readFeud_78 rfl (lv_at hl 0 rfl) ?_
  refine va_get (D := (dC, dI)) (ci := 12) (v := .int (gi z4 12)) (C := RX12) (T := TX12) (N := 49) hx hb hts i_X12 hown hK hP 0 rfl rfl 12 (by decide) (hts _ wf_X12_206) (fun _ h9 => h9) rfl dX12_readFeud_79 ?_
  refine lv_if_ne (tgt := 92) hx hb dX12_readFeud_82 (by decide) (fun hc => ?_) (fun hc => ?_)
  · have hf := tc_neg hc hf
    obtain rfl := Option.some.inj hf
    exact tc_rv X hP hD hS rfl dX12_readFeud_92 rfl
  · have hf := tc_pos hc hf
    refine lv_aload_n hx hb dX12_readFeud_85 rfl (lv_at hl 0 rfl) ?_
    refine lv_iconst (v := (4 : Int32)) hx hb dX12_readFeud_86 (by decide) ?_
    refine lv_iload_n hx hb dX12_readFeud_87 rfl (lv_at hl 1 rfl) ?_
    refine lv_iload_n hx hb dX12_readFeud_88 rfl (lv_at hl 2 rfl) ?_
    obtain ⟨z5, hg, hf⟩ := tc_bi hf
    refine tc_vVs (As := [.int ((4 : Int32)), .int (v1), .int (v2)]) (rest := []) (b := q 0) X hP hD hS (mX12_angers hg) okX12_angers wl_X12_282 wi_X12_angers ws_X12_X12_angers_X12_angers ⟨rfl, rfl, Nat.le_of_ble_eq_true rfl, Nat.le_of_ble_eq_true rfl⟩ 12 0 rfl rfl rfl hl.1 (Nat.le_of_ble_eq_true rfl) dX12_readFeud_89 (fun H locs hP hD hS => ?_)
    obtain rfl := Option.some.inj hf
    exact tc_rv X hP hD hS rfl dX12_readFeud_92 rfl
set_option maxRecDepth 20000 in
theorem tX12_readFeud_64 {q : Nat → Nat}  (X : tc_X dC dI ca A RX12 cX12_readFeud 3 none p s m args meth c) (z : ms_T)     : ∀ (S : ms_T) (v1 : Int32) (v2 : Int32), fX12_readFeud_64 S v1 v2 = some z → ∀ (H : Heap) (locs : List Loc) (ls : Array Slot), va_P (dC, dI) classes (w12 ca q S) H → va_D A (w12 ca q S) → va_S A s.heap H locs → lv_has ls 3 [(0, .ref (q 0)), (1, .int (v1)), (2, .int (v2))] → W p l e rmX12_readFeud s m args below meth c H locs 0 0 (MQ below (tc_QV dC dI ca A (w12 ca q z)) args s 0 0 A) (F0 m 64 ls []) := by
  obtain ⟨hx, hb, hr, hml, hown, hts, hlk, hK, hA, hG⟩ := id X
  intro S v1 v2 hf H locs ls hP hD hS hl
  unfold fX12_readFeud_64 at hf
  refine lv_aload_n hx hb dX12_readFeud_64 rfl (lv_at hl 0 rfl) ?_
  refine lv_iconst (v := (5 : Int32)) hx hb dX12_readFeud_65 (by decide) ?_
  refine lv_aload_n hx hb dX12_readFeud_66 rfl (lv_at hl 0 rfl) ?_
  refine va_get (D := (dC, dI)) (ci := 12) (v := .int (gi S 15)) (C := RX12) (T := TX12) (N := 49) hx hb hts i_X12 hown hK hP 0 rfl rfl 15 (by decide) (hts _ wf_X12_112) (fun _ h9 => h9) rfl dX12_readFeud_67 ?_
  obtain ⟨z6, hg, hf⟩ := tc_bi hf
  refine tc_vVs (As := [.int ((5 : Int32)), .int (gi S 15)]) (rest := []) (b := q 0) X hP hD hS (mX12_fail hg) okX12_fail wl_X12_212 wi_X12_fail ws_X12_X12_fail_X12_fail ⟨rfl, rfl, Nat.le_of_ble_eq_true rfl, Nat.le_of_ble_eq_true rfl⟩ 12 0 rfl rfl rfl hl.1 (Nat.le_of_ble_eq_true rfl) dX12_readFeud_70 (fun H locs hP hD hS => ?_)
  exact tX12_readFeud_73 X z z6 v1 v2 hf _ _ _ hP hD hS (lv_sub hl [0, 1, 2] rfl)
set_option maxRecDepth 20000 in
theorem tX12_readFeud_23 {q : Nat → Nat}  (X : tc_X dC dI ca A RX12 cX12_readFeud 3 none p s m args meth c) (z : ms_T)     : ∀ (S : ms_T), fX12_readFeud_23 S = some z → ∀ (H : Heap) (locs : List Loc) (ls : Array Slot), va_P (dC, dI) classes (w12 ca q S) H → va_D A (w12 ca q S) → va_S A s.heap H locs → lv_has ls 3 [(0, .ref (q 0))] → W p l e rmX12_readFeud s m args below meth c H locs 0 0 (MQ below (tc_QV dC dI ca A (w12 ca q z)) args s 0 0 A) (F0 m 23 ls []) := by
  obtain ⟨hx, hb, hr, hml, hown, hts, hlk, hK, hA, hG⟩ := id X
  intro S hf H locs ls hP hD hS hl
  unfold fX12_readFeud_23 at hf
  refine lv_aload_n hx hb dX12_readFeud_23 rfl (lv_at hl 0 rfl) ?_
  refine lv_iconst (v := (1 : Int32)) hx hb dX12_readFeud_24 (by decide) ?_
  obtain ⟨z1, hg, hf⟩ := tc_bi hf
  refine tc_vVs (As := [.int ((1 : Int32))]) (rest := []) (b := q 0) X hP hD hS (mX12_must hg) okX12_must wl_X12_225 wi_X12_must ws_X12_X12_must_X12_must ⟨rfl, rfl, Nat.le_of_ble_eq_true rfl, Nat.le_of_ble_eq_true rfl⟩ 12 0 rfl rfl rfl hl.1 (Nat.le_of_ble_eq_true rfl) dX12_readFeud_25 (fun H locs hP hD hS => ?_)
  refine lv_aload_n hx hb dX12_readFeud_28 rfl (lv_at hl 0 rfl) ?_
  refine lv_iconst (v := (4 : Int32)) hx hb dX12_readFeud_29 (by decide) ?_
  refine lv_iconst (v := (2 : Int32)) hx hb dX12_readFeud_30 (by decide) ?_
  obtain ⟨z2, hg, hf⟩ := tc_bi hf
  refine tc_iVs (As := [.int ((4 : Int32)), .int ((2 : Int32))]) (rest := []) (b := q 0) X hP hD hS (mX12_readTold hg) okX12_readTold wl_X12_264 wi_X12_readTold ws_X12_X12_readTold_X12_readTold ⟨rfl, rfl, Nat.le_of_ble_eq_true rfl, Nat.le_of_ble_eq_true rfl⟩ 12 0 rfl rfl rfl hl.1 (Nat.le_of_ble_eq_true rfl) dX12_readFeud_31 (fun H locs hP hD hS => ?_)
  refine lv_istore_n (lv' := [(1, .int (z2.1)), (0, .ref (q 0))]) hx hb dX12_readFeud_34 rfl hl (by decide) rfl (fun ls hl => ?_)
  refine lv_aload_n hx hb dX12_readFeud_35 rfl (lv_at hl 1 rfl) ?_
  refine lv_iconst (v := (4 : Int32)) hx hb dX12_readFeud_36 (by decide) ?_
  refine lv_iconst (v := (2 : Int32)) hx hb dX12_readFeud_37 (by decide) ?_
  obtain ⟨z3, hg, hf⟩ := tc_bi hf
  refine tc_iVs (As := [.int ((4 : Int32)), .int ((2 : Int32))]) (rest := []) (b := q 0) X hP hD hS (mX12_told hg) okX12_told wl_X12_250 wi_X12_told ws_X12_X12_told_X12_told ⟨rfl, rfl, Nat.le_of_ble_eq_true rfl, Nat.le_of_ble_eq_true rfl⟩ 12 0 rfl rfl rfl hl.1 (Nat.le_of_ble_eq_true rfl) dX12_readFeud_38 (fun H locs hP hD hS => ?_)
  refine lv_istore_n (lv' := [(2, .int (z3.1)), (1, .int (z2.1)), (0, .ref (q 0))]) hx hb dX12_readFeud_41 rfl hl (by decide) rfl (fun ls hl => ?_)
  refine lv_aload_n hx hb dX12_readFeud_42 rfl (lv_at hl 2 rfl) ?_
  refine va_get (D := (dC, dI)) (ci := 12) (v := .int (gi z3.2 12)) (C := RX12) (T := TX12) (N := 49) hx hb hts i_X12 hown hK hP 0 rfl rfl 12 (by decide) (hts _ wf_X12_206) (fun _ h9 => h9) rfl dX12_readFeud_43 ?_
  refine lv_if_ne (tgt := 73) hx hb dX12_readFeud_46 (by decide) (fun hc => ?_) (fun hc => ?_)
  · have hf := tc_neg hc hf
    exact tX12_readFeud_73 X z z3.2 z2.1 z3.1 hf _ _ _ hP hD hS (lv_sub hl [2, 1, 0] rfl)
  · have hf := tc_pos hc hf
    refine lv_iload_n hx hb dX12_readFeud_49 rfl (lv_at hl 1 rfl) ?_
    refine lv_iload_n hx hb dX12_readFeud_50 rfl (lv_at hl 0 rfl) ?_
    refine lv_icmp_eq (tgt := 64) hx hb dX12_readFeud_51 (by decide) (fun hc => ?_) (fun hc => ?_)
    · have hf := tc_pos hc hf
      exact tX12_readFeud_64 X z z3.2 z2.1 z3.1 hf _ _ _ hP hD hS (lv_sub hl [2, 1, 0] rfl)
    · have hf := tc_neg hc hf
      refine lv_aload_n hx hb dX12_readFeud_54 rfl (lv_at hl 2 rfl) ?_
      refine lv_iconst (v := (4 : Int32)) hx hb dX12_readFeud_55 (by decide) ?_
      refine lv_iload_n hx hb dX12_readFeud_56 rfl (lv_at hl 1 rfl) ?_
      refine lv_iload_n hx hb dX12_readFeud_57 rfl (lv_at hl 0 rfl) ?_
      obtain ⟨z7, hg, hf⟩ := tc_bi hf
      refine tc_iVs (As := [.int ((4 : Int32)), .int (z2.1), .int (z3.1)]) (rest := []) (b := q 0) X hP hD hS (mX12_isFeudOf hg) okX12_isFeudOf wl_X12_278 wi_X12_isFeudOf ws_X12_X12_isFeudOf_X12_isFeudOf ⟨rfl, rfl, Nat.le_of_ble_eq_true rfl, Nat.le_of_ble_eq_true rfl⟩ 12 0 rfl rfl rfl hl.1 (Nat.le_of_ble_eq_true rfl) dX12_readFeud_58 (fun H locs hP hD hS => ?_)
      refine lv_if_eq (tgt := 73) hx hb dX12_readFeud_61 (by decide) (fun hc => ?_) (fun hc => ?_)
      · have hf := tc_pos hc hf
        exact tX12_readFeud_73 X z z3.2 z2.1 z3.1 hf _ _ _ hP hD hS (lv_sub hl [2, 1, 0] rfl)
      · have hf := tc_neg hc hf
        exact tX12_readFeud_64 X z z3.2 z2.1 z3.1 hf _ _ _ hP hD hS (lv_sub hl [2, 1, 0] rfl)
set_option maxRecDepth 20000 in
theorem mX12_readFeud {q : Nat → Nat}  {S : ms_T}  {z : ms_T}  (hf : fX12_readFeud S = some z) : tc_MV l dC dI ca yX12_readFeud cX12_readFeud 3 none rmX12_readFeud [.ref (q 0)] (w12 ca q S) (w12 ca q z) := by
  refine tc_metV (own := RX12) (by decide) rfl ?_ (Nat.le_of_ble_eq_true rfl)
  intro p e s m below meth c A X hP hD hS ls hl
  obtain ⟨hx, hb, hr, hml, hown, hts, hlk, hK, hA, hG⟩ := id X
  unfold fX12_readFeud at hf
  have hl : lv_has ls 3 [(0, .ref (q 0))] := hl
  refine lv_aload_n hx hb dX12_readFeud_0 rfl (lv_at hl 0 rfl) ?_
  refine va_get (D := (dC, dI)) (ci := 12) (v := .ref (q 5)) (C := RX12) (T := TX12) (N := 49) hx hb hts i_X12 hown hK hP 0 rfl rfl 20 (by decide) (hts _ wf_X12_35) (fun _ h9 => h9) rfl dX12_readFeud_1 ?_
  refine lv_sipush (v := (1459 : Int32)) hx hb dX12_readFeud_4 (by decide) ?_
  refine va_iald hx hb hK hP 5 1 rfl rfl (inb_vp (by decide)) dX12_readFeud_7 ?_
  refine lv_bipush (v := (10 : Int32)) hx hb dX12_readFeud_8 (by decide) ?_
  refine lv_icmp_ne (tgt := 23) hx hb dX12_readFeud_10 (by decide) (fun hc => ?_) (fun hc => ?_)
  · have hf := tc_neg hc hf
    exact tX12_readFeud_23 X z S hf _ _ _ hP hD hS (lv_sub hl [0] rfl)
  · have hf := tc_pos hc hf
    refine lv_aload_n hx hb dX12_readFeud_13 rfl (lv_at hl 0 rfl) ?_
    refine lv_bipush (v := (6 : Int32)) hx hb dX12_readFeud_14 (by decide) ?_
    refine lv_aload_n hx hb dX12_readFeud_16 rfl (lv_at hl 0 rfl) ?_
    refine va_get (D := (dC, dI)) (ci := 12) (v := .int (gi S 15)) (C := RX12) (T := TX12) (N := 49) hx hb hts i_X12 hown hK hP 0 rfl rfl 15 (by decide) (hts _ wf_X12_112) (fun _ h9 => h9) rfl dX12_readFeud_17 ?_
    obtain ⟨z8, hg, hf⟩ := tc_bi hf
    refine tc_vVs (As := [.int ((6 : Int32)), .int (gi S 15)]) (rest := []) (b := q 0) X hP hD hS (mX12_fail hg) okX12_fail wl_X12_212 wi_X12_fail ws_X12_X12_fail_X12_fail ⟨rfl, rfl, Nat.le_of_ble_eq_true rfl, Nat.le_of_ble_eq_true rfl⟩ 12 0 rfl rfl rfl hl.1 (Nat.le_of_ble_eq_true rfl) dX12_readFeud_20 (fun H locs hP hD hS => ?_)
    exact tX12_readFeud_23 X z z8 hf _ _ _ hP hD hS (lv_sub hl [0] rfl)
def fX12_readPart  (S : ms_T)  : Option (ms_T) :=
  (fX12_isOdds S).bind fun z1 =>
  if z1 = 0 then
    (fX12_isTopic S).bind fun z2 =>
    if z2 = 0 then
      (fX12_isClaim S).bind fun z3 =>
      if z3 = 0 then
        (fX12_isTalker S).bind fun z4 =>
        if z4 = 0 then
          (fX12_isFeud S).bind fun z5 =>
          if z5 = 0 then
            (fX12_amiss S).bind fun z6 =>
            some (z6)
          else
            (fX12_readFeud S).bind fun z7 =>
            some (z7)
        else
          (fX12_readTalker S).bind fun z8 =>
          some (z8)
      else
        (fX12_readClaim S).bind fun z9 =>
        some (z9)
    else
      (fX12_readTopic S).bind fun z10 =>
      some (z10)
  else
    (fX12_readOdds S).bind fun z11 =>
    some (z11)
abbrev rmX12_readPart : Room := { frames := 7, cells := 0, slots := 0, locals := 157 }
theorem okX12_readPart : tc_ok yX12_readPart cX12_readPart 1 none 0 := ⟨wc_X12_readPart, wn_X12, by decide, by decide, by decide +kernel⟩
set_option maxRecDepth 20000 in
theorem mX12_readPart {q : Nat → Nat}  {S : ms_T}  {z : ms_T}  (hf : fX12_readPart S = some z) : tc_MV l dC dI ca yX12_readPart cX12_readPart 1 none rmX12_readPart [.ref (q 0)] (w12 ca q S) (w12 ca q z) := by
  refine tc_metV (own := RX12) (by decide) rfl ?_ (Nat.le_of_ble_eq_true rfl)
  intro p e s m below meth c A X hP hD hS ls hl
  obtain ⟨hx, hb, hr, hml, hown, hts, hlk, hK, hA, hG⟩ := id X
  unfold fX12_readPart at hf
  have hl : lv_has ls 1 [(0, .ref (q 0))] := hl
  refine lv_aload_n hx hb dX12_readPart_0 rfl (lv_at hl 0 rfl) ?_
  obtain ⟨z1, hg, hf⟩ := tc_bi hf
  refine tc_iVs (As := []) (rest := []) (b := q 0) X hP hD hS (mX12_isOdds hg) okX12_isOdds wl_X12_153 wi_X12_isOdds ws_X12_X12_isOdds_X12_isOdds ⟨rfl, rfl, Nat.le_of_ble_eq_true rfl, Nat.le_of_ble_eq_true rfl⟩ 12 0 rfl rfl rfl hl.1 (Nat.le_of_ble_eq_true rfl) dX12_readPart_1 (fun H locs hP hD hS => ?_)
  refine lv_if_eq (tgt := 14) hx hb dX12_readPart_4 (by decide) (fun hc => ?_) (fun hc => ?_)
  · have hf := tc_pos hc hf
    refine lv_aload_n hx hb dX12_readPart_14 rfl (lv_at hl 0 rfl) ?_
    obtain ⟨z2, hg, hf⟩ := tc_bi hf
    refine tc_iVs (As := []) (rest := []) (b := q 0) X hP hD hS (mX12_isTopic hg) okX12_isTopic wl_X12_157 wi_X12_isTopic ws_X12_X12_isTopic_X12_isTopic ⟨rfl, rfl, Nat.le_of_ble_eq_true rfl, Nat.le_of_ble_eq_true rfl⟩ 12 0 rfl rfl rfl hl.1 (Nat.le_of_ble_eq_true rfl) dX12_readPart_15 (fun H locs hP hD hS => ?_)
    refine lv_if_eq (tgt := 28) hx hb dX12_readPart_18 (by decide) (fun hc => ?_) (fun hc => ?_)
    · have hf := tc_pos hc hf
      refine lv_aload_n hx hb dX12_readPart_28 rfl (lv_at hl 0 rfl) ?_
      obtain ⟨z3, hg, hf⟩ := tc_bi hf
      refine tc_iVs (As := []) (rest := []) (b := q 0) X hP hD hS (mX12_isClaim hg) okX12_isClaim wl_X12_166 wi_X12_isClaim ws_X12_X12_isClaim_X12_isClaim ⟨rfl, rfl, Nat.le_of_ble_eq_true rfl, Nat.le_of_ble_eq_true rfl⟩ 12 0 rfl rfl rfl hl.1 (Nat.le_of_ble_eq_true rfl) dX12_readPart_29 (fun H locs hP hD hS => ?_)
      refine lv_if_eq (tgt := 42) hx hb dX12_readPart_32 (by decide) (fun hc => ?_) (fun hc => ?_)
      · have hf := tc_pos hc hf
        refine lv_aload_n hx hb dX12_readPart_42 rfl (lv_at hl 0 rfl) ?_
        obtain ⟨z4, hg, hf⟩ := tc_bi hf
        refine tc_iVs (As := []) (rest := []) (b := q 0) X hP hD hS (mX12_isTalker hg) okX12_isTalker wl_X12_178 wi_X12_isTalker ws_X12_X12_isTalker_X12_isTalker ⟨rfl, rfl, Nat.le_of_ble_eq_true rfl, Nat.le_of_ble_eq_true rfl⟩ 12 0 rfl rfl rfl hl.1 (Nat.le_of_ble_eq_true rfl) dX12_readPart_43 (fun H locs hP hD hS => ?_)
        refine lv_if_eq (tgt := 56) hx hb dX12_readPart_46 (by decide) (fun hc => ?_) (fun hc => ?_)
        · have hf := tc_pos hc hf
          refine lv_aload_n hx hb dX12_readPart_56 rfl (lv_at hl 0 rfl) ?_
          obtain ⟨z5, hg, hf⟩ := tc_bi hf
          refine tc_iVs (As := []) (rest := []) (b := q 0) X hP hD hS (mX12_isFeud hg) okX12_isFeud wl_X12_190 wi_X12_isFeud ws_X12_X12_isFeud_X12_isFeud ⟨rfl, rfl, Nat.le_of_ble_eq_true rfl, Nat.le_of_ble_eq_true rfl⟩ 12 0 rfl rfl rfl hl.1 (Nat.le_of_ble_eq_true rfl) dX12_readPart_57 (fun H locs hP hD hS => ?_)
          refine lv_if_eq (tgt := 70) hx hb dX12_readPart_60 (by decide) (fun hc => ?_) (fun hc => ?_)
          · have hf := tc_pos hc hf
            refine lv_aload_n hx hb dX12_readPart_70 rfl (lv_at hl 0 rfl) ?_
            obtain ⟨z6, hg, hf⟩ := tc_bi hf
            refine tc_vVs (As := []) (rest := []) (b := q 0) X hP hD hS (mX12_amiss hg) okX12_amiss wl_X12_219 wi_X12_amiss ws_X12_X12_amiss_X12_amiss ⟨rfl, rfl, Nat.le_of_ble_eq_true rfl, Nat.le_of_ble_eq_true rfl⟩ 12 0 rfl rfl rfl hl.1 (Nat.le_of_ble_eq_true rfl) dX12_readPart_71 (fun H locs hP hD hS => ?_)
            obtain rfl := Option.some.inj hf
            exact tc_rv X hP hD hS rfl dX12_readPart_74 rfl
          · have hf := tc_neg hc hf
            refine lv_aload_n hx hb dX12_readPart_63 rfl (lv_at hl 0 rfl) ?_
            obtain ⟨z7, hg, hf⟩ := tc_bi hf
            refine tc_vVs (As := []) (rest := []) (b := q 0) X hP hD hS (mX12_readFeud hg) okX12_readFeud wl_X12_298 wi_X12_readFeud ws_X12_X12_readFeud_X12_readFeud ⟨rfl, rfl, Nat.le_of_ble_eq_true rfl, Nat.le_of_ble_eq_true rfl⟩ 12 0 rfl rfl rfl hl.1 (Nat.le_of_ble_eq_true rfl) dX12_readPart_64 (fun H locs hP hD hS => ?_)
            refine lv_goto (tgt := 74) hx hb dX12_readPart_67 (by decide) ?_
            obtain rfl := Option.some.inj hf
            exact tc_rv X hP hD hS rfl dX12_readPart_74 rfl
        · have hf := tc_neg hc hf
          refine lv_aload_n hx hb dX12_readPart_49 rfl (lv_at hl 0 rfl) ?_
          obtain ⟨z8, hg, hf⟩ := tc_bi hf
          refine tc_vVs (As := []) (rest := []) (b := q 0) X hP hD hS (mX12_readTalker hg) okX12_readTalker wl_X12_295 wi_X12_readTalker ws_X12_X12_readTalker_X12_readTalker ⟨rfl, rfl, Nat.le_of_ble_eq_true rfl, Nat.le_of_ble_eq_true rfl⟩ 12 0 rfl rfl rfl hl.1 (Nat.le_of_ble_eq_true rfl) dX12_readPart_50 (fun H locs hP hD hS => ?_)
          refine lv_goto (tgt := 74) hx hb dX12_readPart_53 (by decide) ?_
          obtain rfl := Option.some.inj hf
          exact tc_rv X hP hD hS rfl dX12_readPart_74 rfl
      · have hf := tc_neg hc hf
        refine lv_aload_n hx hb dX12_readPart_35 rfl (lv_at hl 0 rfl) ?_
        obtain ⟨z9, hg, hf⟩ := tc_bi hf
        refine tc_vVs (As := []) (rest := []) (b := q 0) X hP hD hS (mX12_readClaim hg) okX12_readClaim wl_X12_292 wi_X12_readClaim ws_X12_X12_readClaim_X12_readClaim ⟨rfl, rfl, Nat.le_of_ble_eq_true rfl, Nat.le_of_ble_eq_true rfl⟩ 12 0 rfl rfl rfl hl.1 (Nat.le_of_ble_eq_true rfl) dX12_readPart_36 (fun H locs hP hD hS => ?_)
        refine lv_goto (tgt := 74) hx hb dX12_readPart_39 (by decide) ?_
        obtain rfl := Option.some.inj hf
        exact tc_rv X hP hD hS rfl dX12_readPart_74 rfl
    · have hf := tc_neg hc hf
      refine lv_aload_n hx hb dX12_readPart_21 rfl (lv_at hl 0 rfl) ?_
      obtain ⟨z10, hg, hf⟩ := tc_bi hf
      refine tc_vVs (As := []) (rest := []) (b := q 0) X hP hD hS (mX12_readTopic hg) okX12_readTopic wl_X12_289 wi_X12_readTopic ws_X12_X12_readTopic_X12_readTopic ⟨rfl, rfl, Nat.le_of_ble_eq_true rfl, Nat.le_of_ble_eq_true rfl⟩ 12 0 rfl rfl rfl hl.1 (Nat.le_of_ble_eq_true rfl) dX12_readPart_22 (fun H locs hP hD hS => ?_)
      refine lv_goto (tgt := 74) hx hb dX12_readPart_25 (by decide) ?_
      obtain rfl := Option.some.inj hf
      exact tc_rv X hP hD hS rfl dX12_readPart_74 rfl
  · have hf := tc_neg hc hf
    refine lv_aload_n hx hb dX12_readPart_7 rfl (lv_at hl 0 rfl) ?_
    obtain ⟨z11, hg, hf⟩ := tc_bi hf
    refine tc_vVs (As := []) (rest := []) (b := q 0) X hP hD hS (mX12_readOdds hg) okX12_readOdds wl_X12_286 wi_X12_readOdds ws_X12_X12_readOdds_X12_readOdds ⟨rfl, rfl, Nat.le_of_ble_eq_true rfl, Nat.le_of_ble_eq_true rfl⟩ 12 0 rfl rfl rfl hl.1 (Nat.le_of_ble_eq_true rfl) dX12_readPart_8 (fun H locs hP hD hS => ?_)
    refine lv_goto (tgt := 74) hx hb dX12_readPart_11 (by decide) ?_
    obtain rfl := Option.some.inj hf
    exact tc_rv X hP hD hS rfl dX12_readPart_74 rfl
def fX12_copy_41    : Nat → ms_T → Int32 → Int32 → Int32 → Option (ms_T)
  | 0, _, _, _, _ => none
  | n + 1, S, v1, v2, v3 =>
    if (23 : Int32) ≤ v3 then
      some (S)
    else
      if inb (((23 : Int32) * v1) + v3) 115 = true then
        if inb (((23 : Int32) * v2) + v3) 115 = true then
          fX12_copy_41 n (sA S 7 (((23 : Int32) * v2) + v3) (la S 7 (((23 : Int32) * v1) + v3))) v1 v2 (v3 + (1 : Int32))
        else none
      else none
def fX12_copy_2    : Nat → ms_T → Int32 → Int32 → Int32 → Option (ms_T)
  | 0, _, _, _, _ => none
  | n + 1, S, v1, v2, v3 =>
    if (364 : Int32) ≤ v3 then
      fX12_copy_41 FU S v1 v2 (0 : Int32)
    else
      if inb (((364 : Int32) * v1) + v3) 1820 = true then
        if inb (((364 : Int32) * v2) + v3) 1820 = true then
          fX12_copy_2 n (sa S 5 (((364 : Int32) * v2) + v3) (ia S 5 (((364 : Int32) * v1) + v3))) v1 v2 (v3 + (1 : Int32))
        else none
      else none
def fX12_copy  (S : ms_T) (a1 : Int32) (a2 : Int32) : Option (ms_T) :=
  fX12_copy_2 FU S a1 a2 (0 : Int32)
abbrev rmX12_copy : Room := { frames := 0, cells := 0, slots := 0, locals := 0 }
theorem okX12_copy : tc_ok yX12_copy cX12_copy 4 none 2 := ⟨wc_X12_copy, wn_X12, by decide, by decide, by decide +kernel⟩
set_option maxRecDepth 20000 in
theorem tX12_copy_41 {q : Nat → Nat}  (X : tc_X dC dI ca A RX12 cX12_copy 4 none p s m args meth c) (z : ms_T)     : ∀ n : Nat, ∀ (S : ms_T) (v1 : Int32) (v2 : Int32) (v3 : Int32), fX12_copy_41 n S v1 v2 v3 = some z → ∀ (H : Heap) (locs : List Loc) (ls : Array Slot), va_P (dC, dI) classes (w12 ca q S) H → va_D A (w12 ca q S) → va_S A s.heap H locs → lv_has ls 4 [(0, .ref (q 0)), (1, .int (v1)), (2, .int (v2)), (3, .int (v3))] → W p l e rmX12_copy s m args below meth c H locs 0 0 (MQ below (tc_QV dC dI ca A (w12 ca q z)) args s 0 0 A) (F0 m 41 ls []) := by
  obtain ⟨hx, hb, hr, hml, hown, hts, hlk, hK, hA, hG⟩ := id X
  intro n
  induction n with
  | zero => intro S v1 v2 v3 hf; exact absurd (show none = some z from hf) (fun h => by cases h)
  | succ n ih =>
    intro S v1 v2 v3 hf H locs ls hP hD hS hl
    rw [fX12_copy_41] at hf
    refine lv_iload_n hx hb dX12_copy_41 rfl (lv_at hl 3 rfl) ?_
    refine lv_bipush (v := (23 : Int32)) hx hb dX12_copy_42 (by decide) ?_
    refine lv_icmp_ge (tgt := 75) hx hb dX12_copy_44 (by decide) (fun hc => ?_) (fun hc => ?_)
    · have hf := tc_pos hc hf
      obtain rfl := Option.some.inj hf
      exact tc_rv X hP hD hS rfl dX12_copy_75 rfl
    · have hf := tc_neg hc hf
      refine lv_aload_n hx hb dX12_copy_47 rfl (lv_at hl 0 rfl) ?_
      refine va_get (D := (dC, dI)) (ci := 12) (v := .ref (q 7)) (C := RX12) (T := TX12) (N := 49) hx hb hts i_X12 hown hK hP 0 rfl rfl 22 (by decide) (hts _ wf_X12_41) (fun _ h9 => h9) rfl dX12_copy_48 ?_
      refine lv_bipush (v := (23 : Int32)) hx hb dX12_copy_51 (by decide) ?_
      refine lv_iload_n hx hb dX12_copy_53 rfl (lv_at hl 2 rfl) ?_
      refine lv_imul hx hb dX12_copy_54 ?_
      refine lv_iload_n hx hb dX12_copy_55 rfl (lv_at hl 3 rfl) ?_
      refine lv_iadd hx hb dX12_copy_56 ?_
      refine lv_aload_n hx hb dX12_copy_57 rfl (lv_at hl 0 rfl) ?_
      refine va_get (D := (dC, dI)) (ci := 12) (v := .ref (q 7)) (C := RX12) (T := TX12) (N := 49) hx hb hts i_X12 hown hK hP 0 rfl rfl 22 (by decide) (hts _ wf_X12_41) (fun _ h9 => h9) rfl dX12_copy_58 ?_
      refine lv_bipush (v := (23 : Int32)) hx hb dX12_copy_61 (by decide) ?_
      refine lv_iload_n hx hb dX12_copy_63 rfl (lv_at hl 1 rfl) ?_
      refine lv_imul hx hb dX12_copy_64 ?_
      refine lv_iload_n hx hb dX12_copy_65 rfl (lv_at hl 3 rfl) ?_
      refine lv_iadd hx hb dX12_copy_66 ?_
      obtain ⟨hi1, hf⟩ := tc_in hf
      refine va_lald hx hb hK hP 7 2 rfl rfl hi1 dX12_copy_67 ?_
      obtain ⟨hi2, hf⟩ := tc_in hf
      refine va_last hx hb hK hP hD hS 7 2 rfl rfl hi2 dX12_copy_68 (fun H locs hP hD hS => ?_)
      have hP := tc_eP (aw12_0_7 ca q S (((23 : Int32) * v2) + v3) (la S 7 (((23 : Int32) * v1) + v3))) hP
      have hD := tc_eD (aw12_0_7 ca q S (((23 : Int32) * v2) + v3) (la S 7 (((23 : Int32) * v1) + v3))) hD
      refine lv_iinc (v := v3 + (1 : Int32)) (lv' := [(3, .int (v3 + (1 : Int32))), (0, .ref (q 0)), (1, .int (v1)), (2, .int (v2))]) hx hb dX12_copy_69 hl (k := 3) rfl rfl (by decide) rfl (fun ls hl => ?_)
      refine lv_goto (tgt := 41) hx hb dX12_copy_72 (by decide) ?_
      exact ih (sA S 7 (((23 : Int32) * v2) + v3) (la S 7 (((23 : Int32) * v1) + v3))) v1 v2 (v3 + (1 : Int32)) hf _ _ _ hP hD hS (lv_sub hl [1, 2, 3, 0] rfl)
set_option maxRecDepth 20000 in
theorem tX12_copy_2 {q : Nat → Nat}  (X : tc_X dC dI ca A RX12 cX12_copy 4 none p s m args meth c) (z : ms_T)     : ∀ n : Nat, ∀ (S : ms_T) (v1 : Int32) (v2 : Int32) (v3 : Int32), fX12_copy_2 n S v1 v2 v3 = some z → ∀ (H : Heap) (locs : List Loc) (ls : Array Slot), va_P (dC, dI) classes (w12 ca q S) H → va_D A (w12 ca q S) → va_S A s.heap H locs → lv_has ls 4 [(0, .ref (q 0)), (1, .int (v1)), (2, .int (v2)), (3, .int (v3))] → W p l e rmX12_copy s m args below meth c H locs 0 0 (MQ below (tc_QV dC dI ca A (w12 ca q z)) args s 0 0 A) (F0 m 2 ls []) := by
  obtain ⟨hx, hb, hr, hml, hown, hts, hlk, hK, hA, hG⟩ := id X
  intro n
  induction n with
  | zero => intro S v1 v2 v3 hf; exact absurd (show none = some z from hf) (fun h => by cases h)
  | succ n ih =>
    intro S v1 v2 v3 hf H locs ls hP hD hS hl
    rw [fX12_copy_2] at hf
    refine lv_iload_n hx hb dX12_copy_2 rfl (lv_at hl 3 rfl) ?_
    refine lv_sipush (v := (364 : Int32)) hx hb dX12_copy_3 (by decide) ?_
    refine lv_icmp_ge (tgt := 39) hx hb dX12_copy_6 (by decide) (fun hc => ?_) (fun hc => ?_)
    · have hf := tc_pos hc hf
      refine lv_iconst (v := (0 : Int32)) hx hb dX12_copy_39 (by decide) ?_
      refine lv_istore_n (lv' := [(3, .int ((0 : Int32))), (0, .ref (q 0)), (1, .int (v1)), (2, .int (v2))]) hx hb dX12_copy_40 rfl hl (by decide) rfl (fun ls hl => ?_)
      exact tX12_copy_41 X z FU S v1 v2 (0 : Int32) hf _ _ _ hP hD hS (lv_sub hl [1, 2, 3, 0] rfl)
    · have hf := tc_neg hc hf
      refine lv_aload_n hx hb dX12_copy_9 rfl (lv_at hl 0 rfl) ?_
      refine va_get (D := (dC, dI)) (ci := 12) (v := .ref (q 5)) (C := RX12) (T := TX12) (N := 49) hx hb hts i_X12 hown hK hP 0 rfl rfl 20 (by decide) (hts _ wf_X12_35) (fun _ h9 => h9) rfl dX12_copy_10 ?_
      refine lv_sipush (v := (364 : Int32)) hx hb dX12_copy_13 (by decide) ?_
      refine lv_iload_n hx hb dX12_copy_16 rfl (lv_at hl 2 rfl) ?_
      refine lv_imul hx hb dX12_copy_17 ?_
      refine lv_iload_n hx hb dX12_copy_18 rfl (lv_at hl 3 rfl) ?_
      refine lv_iadd hx hb dX12_copy_19 ?_
      refine lv_aload_n hx hb dX12_copy_20 rfl (lv_at hl 0 rfl) ?_
      refine va_get (D := (dC, dI)) (ci := 12) (v := .ref (q 5)) (C := RX12) (T := TX12) (N := 49) hx hb hts i_X12 hown hK hP 0 rfl rfl 20 (by decide) (hts _ wf_X12_35) (fun _ h9 => h9) rfl dX12_copy_21 ?_
      refine lv_sipush (v := (364 : Int32)) hx hb dX12_copy_24 (by decide) ?_
      refine lv_iload_n hx hb dX12_copy_27 rfl (lv_at hl 1 rfl) ?_
      refine lv_imul hx hb dX12_copy_28 ?_
      refine lv_iload_n hx hb dX12_copy_29 rfl (lv_at hl 3 rfl) ?_
      refine lv_iadd hx hb dX12_copy_30 ?_
      obtain ⟨hi3, hf⟩ := tc_in hf
      refine va_iald hx hb hK hP 5 1 rfl rfl hi3 dX12_copy_31 ?_
      obtain ⟨hi4, hf⟩ := tc_in hf
      refine va_iast hx hb hK hP hD hS 5 1 rfl rfl hi4 dX12_copy_32 (fun H locs hP hD hS => ?_)
      have hP := tc_eP (aw12_0_5 ca q S (((364 : Int32) * v2) + v3) (ia S 5 (((364 : Int32) * v1) + v3))) hP
      have hD := tc_eD (aw12_0_5 ca q S (((364 : Int32) * v2) + v3) (ia S 5 (((364 : Int32) * v1) + v3))) hD
      refine lv_iinc (v := v3 + (1 : Int32)) (lv' := [(3, .int (v3 + (1 : Int32))), (0, .ref (q 0)), (1, .int (v1)), (2, .int (v2))]) hx hb dX12_copy_33 hl (k := 3) rfl rfl (by decide) rfl (fun ls hl => ?_)
      refine lv_goto (tgt := 2) hx hb dX12_copy_36 (by decide) ?_
      exact ih (sa S 5 (((364 : Int32) * v2) + v3) (ia S 5 (((364 : Int32) * v1) + v3))) v1 v2 (v3 + (1 : Int32)) hf _ _ _ hP hD hS (lv_sub hl [1, 2, 3, 0] rfl)
set_option maxRecDepth 20000 in
theorem mX12_copy {q : Nat → Nat}  {S : ms_T} {a1 : Int32} {a2 : Int32} {z : ms_T}  (hf : fX12_copy S a1 a2 = some z) : tc_MV l dC dI ca yX12_copy cX12_copy 4 none rmX12_copy [.ref (q 0), .int (a1), .int (a2)] (w12 ca q S) (w12 ca q z) := by
  refine tc_metV (own := RX12) (by decide) rfl ?_ (Nat.le_of_ble_eq_true rfl)
  intro p e s m below meth c A X hP hD hS ls hl
  obtain ⟨hx, hb, hr, hml, hown, hts, hlk, hK, hA, hG⟩ := id X
  unfold fX12_copy at hf
  have hl : lv_has ls 4 [(0, .ref (q 0)), (1, .int (a1)), (2, .int (a2))] := hl
  refine lv_iconst (v := (0 : Int32)) hx hb dX12_copy_0 (by decide) ?_
  refine lv_istore_n (lv' := [(3, .int ((0 : Int32))), (0, .ref (q 0)), (1, .int (a1)), (2, .int (a2))]) hx hb dX12_copy_1 rfl hl (by decide) rfl (fun ls hl => ?_)
  exact tX12_copy_2 X z FU S a1 a2 (0 : Int32) hf _ _ _ hP hD hS (lv_sub hl [1, 2, 3, 0] rfl)
def fX12_table_64    (S : ms_T) : Option (Int32 × ms_T) :=
  (fX12_isWell S).bind fun z3 =>
  if z3.1 = 0 then
    some ((-1 : Int32), z3.2)
  else
    (fX12_copy z3.2 (4 : Int32) (0 : Int32)).bind fun z4 =>
    some (ia z4 5 (2 : Int32), z4)
def fX12_table_33    : Nat → ms_T → Option (Int32 × ms_T)
  | 0, _ => none
  | n + 1, S =>
    if (gi S 12) = 0 then
      if (gi S 14) = 0 then
        fX12_table_64 S
      else
        (fX12_readPart S).bind fun z5 =>
        (fX12_isSign z5 (59 : Int32)).bind fun z6 =>
        (fX12_must z5 z6).bind fun z7 =>
        fX12_table_33 n z7
    else
      fX12_table_64 S
def fX12_table  (S : ms_T) (a1 : Int32) : Option (Int32 × ms_T) :=
  (fX12_starts (si (si S 1 (0 : Int32)) 0 (0 : Int32)) a1 (900 : Int32)).bind fun z1 =>
  if z1.1 = 0 then
    some ((-1 : Int32), z1.2)
  else
    (fX12_empties z1.2 (4 : Int32)).bind fun z2 =>
    fX12_table_33 FU (si z2 24 (0 : Int32))
abbrev rmX12_table : Room := { frames := 8, cells := 0, slots := 0, locals := 177 }
theorem okX12_table : tc_ok yX12_table cX12_table 2 (some .int) 1 := ⟨wc_X12_table, wn_X12, by decide, by decide, by decide +kernel⟩
set_option maxRecDepth 20000 in
theorem tX12_table_64 {q : Nat → Nat}  (X : tc_X dC dI ca A RX12 cX12_table 2 (some .int) p s m args meth c) (z : Int32 × ms_T)     : ∀ (S : ms_T), fX12_table_64 S = some z → ∀ (H : Heap) (locs : List Loc) (ls : Array Slot), va_P (dC, dI) classes (w12 ca q S) H → va_D A (w12 ca q S) → va_S A s.heap H locs → lv_has ls 2 [(0, .ref (q 0))] → W p l e rmX12_table s m args below meth c H locs 0 0 (MQ below (tc_QI dC dI ca A (w12 ca q z.2) (z.1)) args s 0 0 A) (F0 m 64 ls []) := by
  obtain ⟨hx, hb, hr, hml, hown, hts, hlk, hK, hA, hG⟩ := id X
  intro S hf H locs ls hP hD hS hl
  unfold fX12_table_64 at hf
  refine lv_aload_n hx hb dX12_table_64 rfl (lv_at hl 0 rfl) ?_
  obtain ⟨z3, hg, hf⟩ := tc_bi hf
  refine tc_iVs (As := []) (rest := []) (b := q 0) X hP hD hS (mX12_isWell hg) okX12_isWell wl_X12_310 wi_X12_isWell ws_X12_X12_isWell_X12_isWell ⟨rfl, rfl, Nat.le_of_ble_eq_true rfl, Nat.le_of_ble_eq_true rfl⟩ 12 0 rfl rfl rfl hl.1 (Nat.le_of_ble_eq_true rfl) dX12_table_65 (fun H locs hP hD hS => ?_)
  refine lv_if_ne (tgt := 73) hx hb dX12_table_68 (by decide) (fun hc => ?_) (fun hc => ?_)
  · have hf := tc_neg hc hf
    refine lv_aload_n hx hb dX12_table_73 rfl (lv_at hl 0 rfl) ?_
    refine lv_iconst (v := (4 : Int32)) hx hb dX12_table_74 (by decide) ?_
    refine lv_iconst (v := (0 : Int32)) hx hb dX12_table_75 (by decide) ?_
    obtain ⟨z4, hg, hf⟩ := tc_bi hf
    refine tc_vVs (As := [.int ((4 : Int32)), .int ((0 : Int32))]) (rest := []) (b := q 0) X hP hD hS (mX12_copy hg) okX12_copy wl_X12_313 wi_X12_copy ws_X12_X12_copy_X12_copy ⟨rfl, rfl, Nat.le_of_ble_eq_true rfl, Nat.le_of_ble_eq_true rfl⟩ 12 0 rfl rfl rfl hl.1 (Nat.le_of_ble_eq_true rfl) dX12_table_76 (fun H locs hP hD hS => ?_)
    refine lv_aload_n hx hb dX12_table_79 rfl (lv_at hl 0 rfl) ?_
    refine va_get (D := (dC, dI)) (ci := 12) (v := .ref (q 5)) (C := RX12) (T := TX12) (N := 49) hx hb hts i_X12 hown hK hP 0 rfl rfl 20 (by decide) (hts _ wf_X12_35) (fun _ h9 => h9) rfl dX12_table_80 ?_
    refine lv_iconst (v := (2 : Int32)) hx hb dX12_table_83 (by decide) ?_
    refine va_iald hx hb hK hP 5 1 rfl rfl (inb_vp (by decide)) dX12_table_84 ?_
    obtain rfl := Option.some.inj hf
    exact tc_ri X hP hD hS rfl dX12_table_85 rfl rfl
  · have hf := tc_pos hc hf
    refine lv_iconst (v := (-1 : Int32)) hx hb dX12_table_71 (by decide) ?_
    obtain rfl := Option.some.inj hf
    exact tc_ri X hP hD hS rfl dX12_table_72 rfl rfl
set_option maxRecDepth 20000 in
theorem tX12_table_33 {q : Nat → Nat}  (X : tc_X dC dI ca A RX12 cX12_table 2 (some .int) p s m args meth c) (z : Int32 × ms_T)     : ∀ n : Nat, ∀ (S : ms_T), fX12_table_33 n S = some z → ∀ (H : Heap) (locs : List Loc) (ls : Array Slot), va_P (dC, dI) classes (w12 ca q S) H → va_D A (w12 ca q S) → va_S A s.heap H locs → lv_has ls 2 [(0, .ref (q 0))] → W p l e rmX12_table s m args below meth c H locs 0 0 (MQ below (tc_QI dC dI ca A (w12 ca q z.2) (z.1)) args s 0 0 A) (F0 m 33 ls []) := by
  obtain ⟨hx, hb, hr, hml, hown, hts, hlk, hK, hA, hG⟩ := id X
  intro n
  induction n with
  | zero => intro S hf; exact absurd (show none = some z from hf) (fun h => by cases h)
  | succ n ih =>
    intro S hf H locs ls hP hD hS hl
    rw [fX12_table_33] at hf
    refine lv_aload_n hx hb dX12_table_33 rfl (lv_at hl 0 rfl) ?_
    refine va_get (D := (dC, dI)) (ci := 12) (v := .int (gi S 12)) (C := RX12) (T := TX12) (N := 49) hx hb hts i_X12 hown hK hP 0 rfl rfl 12 (by decide) (hts _ wf_X12_206) (fun _ h9 => h9) rfl dX12_table_34 ?_
    refine lv_if_ne (tgt := 64) hx hb dX12_table_37 (by decide) (fun hc => ?_) (fun hc => ?_)
    · have hf := tc_neg hc hf
      exact tX12_table_64 X z S hf _ _ _ hP hD hS (lv_sub hl [0] rfl)
    · have hf := tc_pos hc hf
      refine lv_aload_n hx hb dX12_table_40 rfl (lv_at hl 0 rfl) ?_
      refine va_get (D := (dC, dI)) (ci := 12) (v := .int (gi S 14)) (C := RX12) (T := TX12) (N := 49) hx hb hts i_X12 hown hK hP 0 rfl rfl 14 (by decide) (hts _ wf_X12_118) (fun _ h9 => h9) rfl dX12_table_41 ?_
      refine lv_if_eq (tgt := 64) hx hb dX12_table_44 (by decide) (fun hc => ?_) (fun hc => ?_)
      · have hf := tc_pos hc hf
        exact tX12_table_64 X z S hf _ _ _ hP hD hS (lv_sub hl [0] rfl)
      · have hf := tc_neg hc hf
        refine lv_aload_n hx hb dX12_table_47 rfl (lv_at hl 0 rfl) ?_
        obtain ⟨z5, hg, hf⟩ := tc_bi hf
        refine tc_vVs (As := []) (rest := []) (b := q 0) X hP hD hS (mX12_readPart hg) okX12_readPart wl_X12_304 wi_X12_readPart ws_X12_X12_readPart_X12_readPart ⟨rfl, rfl, Nat.le_of_ble_eq_true rfl, Nat.le_of_ble_eq_true rfl⟩ 12 0 rfl rfl rfl hl.1 (Nat.le_of_ble_eq_true rfl) dX12_table_48 (fun H locs hP hD hS => ?_)
        refine lv_aload_n hx hb dX12_table_51 rfl (lv_at hl 0 rfl) ?_
        refine lv_aload_n hx hb dX12_table_52 rfl (lv_at hl 0 rfl) ?_
        refine lv_bipush (v := (59 : Int32)) hx hb dX12_table_53 (by decide) ?_
        obtain ⟨z6, hg, hf⟩ := tc_bi hf
        refine tc_iVs (As := [.int ((59 : Int32))]) (rest := [.ref (q 0)]) (b := q 0) X hP hD hS (mX12_isSign hg) okX12_isSign wl_X12_307 wi_X12_isSign ws_X12_X12_isSign_X12_isSign ⟨rfl, rfl, Nat.le_of_ble_eq_true rfl, Nat.le_of_ble_eq_true rfl⟩ 12 0 rfl rfl rfl hl.1 (Nat.le_of_ble_eq_true rfl) dX12_table_55 (fun H locs hP hD hS => ?_)
        obtain ⟨z7, hg, hf⟩ := tc_bi hf
        refine tc_vVs (As := [.int (z6)]) (rest := []) (b := q 0) X hP hD hS (mX12_must hg) okX12_must wl_X12_225 wi_X12_must ws_X12_X12_must_X12_must ⟨rfl, rfl, Nat.le_of_ble_eq_true rfl, Nat.le_of_ble_eq_true rfl⟩ 12 0 rfl rfl rfl hl.1 (Nat.le_of_ble_eq_true rfl) dX12_table_58 (fun H locs hP hD hS => ?_)
        refine lv_goto (tgt := 33) hx hb dX12_table_61 (by decide) ?_
        exact ih z7 hf _ _ _ hP hD hS (lv_sub hl [0] rfl)
set_option maxRecDepth 20000 in
theorem mX12_table {q : Nat → Nat}  {S : ms_T} {a1 : Int32} {z : Int32 × ms_T}  (hf : fX12_table S a1 = some z) : tc_MI l dC dI ca yX12_table cX12_table 2 (some .int) rmX12_table [.ref (q 0), .int (a1)] (w12 ca q S) (w12 ca q z.2) (z.1) := by
  refine tc_metI (own := RX12) (by decide) rfl ?_ (Nat.le_of_ble_eq_true rfl)
  intro p e s m below meth c A X hP hD hS ls hl
  obtain ⟨hx, hb, hr, hml, hown, hts, hlk, hK, hA, hG⟩ := id X
  unfold fX12_table at hf
  have hl : lv_has ls 2 [(0, .ref (q 0)), (1, .int (a1))] := hl
  refine lv_aload_n hx hb dX12_table_0 rfl (lv_at hl 0 rfl) ?_
  refine lv_iconst (v := (0 : Int32)) hx hb dX12_table_1 (by decide) ?_
  refine va_put (D := (dC, dI)) (ci := 12) (v := .int ((0 : Int32))) (ty := .int) (C := RX12) (T := TX12) (N := 49) hx hb hts i_X12 tyX12 tyX12_ok nmX12 hown hK hP hD hS 0 rfl rfl 1 (by decide) (hts _ wf_X12_63) (fun _ h9 => h9) rfl (tyX12_ok 1 (by decide)) rfl rfl (Nat.le_of_ble_eq_true rfl) dX12_table_2 (fun H locs hP hD hS => ?_)
  have hP := tc_eP (pw12_0_1 ca q S (0 : Int32)) hP
  have hD := tc_eD (pw12_0_1 ca q S (0 : Int32)) hD
  refine lv_aload_n hx hb dX12_table_5 rfl (lv_at hl 0 rfl) ?_
  refine lv_iconst (v := (0 : Int32)) hx hb dX12_table_6 (by decide) ?_
  refine va_put (D := (dC, dI)) (ci := 12) (v := .int ((0 : Int32))) (ty := .int) (C := RX12) (T := TX12) (N := 49) hx hb hts i_X12 tyX12 tyX12_ok nmX12 hown hK hP hD hS 0 rfl rfl 0 (by decide) (hts _ wf_X12_66) (fun _ h9 => h9) rfl (tyX12_ok 0 (by decide)) rfl rfl (Nat.le_of_ble_eq_true rfl) dX12_table_7 (fun H locs hP hD hS => ?_)
  have hP := tc_eP (pw12_0_0 ca q (si S 1 (0 : Int32)) (0 : Int32)) hP
  have hD := tc_eD (pw12_0_0 ca q (si S 1 (0 : Int32)) (0 : Int32)) hD
  refine lv_aload_n hx hb dX12_table_10 rfl (lv_at hl 0 rfl) ?_
  refine lv_iload_n hx hb dX12_table_11 rfl (lv_at hl 1 rfl) ?_
  refine lv_sipush (v := (900 : Int32)) hx hb dX12_table_12 (by decide) ?_
  obtain ⟨z1, hg, hf⟩ := tc_bi hf
  refine tc_iVs (As := [.int (a1), .int ((900 : Int32))]) (rest := []) (b := q 0) X hP hD hS (mX12_starts hg) okX12_starts wl_X12_301 wi_X12_starts ws_X12_X12_starts_X12_starts ⟨rfl, rfl, Nat.le_of_ble_eq_true rfl, Nat.le_of_ble_eq_true rfl⟩ 12 0 rfl rfl rfl hl.1 (Nat.le_of_ble_eq_true rfl) dX12_table_15 (fun H locs hP hD hS => ?_)
  refine lv_if_ne (tgt := 23) hx hb dX12_table_18 (by decide) (fun hc => ?_) (fun hc => ?_)
  · have hf := tc_neg hc hf
    refine lv_aload_n hx hb dX12_table_23 rfl (lv_at hl 0 rfl) ?_
    refine lv_iconst (v := (4 : Int32)) hx hb dX12_table_24 (by decide) ?_
    obtain ⟨z2, hg, hf⟩ := tc_bi hf
    refine tc_vVs (As := [.int ((4 : Int32))]) (rest := []) (b := q 0) X hP hD hS (mX12_empties hg) okX12_empties wl_X12_59 wi_X12_empties ws_X12_X12_empties_X12_empties ⟨rfl, rfl, Nat.le_of_ble_eq_true rfl, Nat.le_of_ble_eq_true rfl⟩ 12 0 rfl rfl rfl hl.1 (Nat.le_of_ble_eq_true rfl) dX12_table_25 (fun H locs hP hD hS => ?_)
    refine lv_aload_n hx hb dX12_table_28 rfl (lv_at hl 0 rfl) ?_
    refine lv_iconst (v := (0 : Int32)) hx hb dX12_table_29 (by decide) ?_
    refine va_put (D := (dC, dI)) (ci := 12) (v := .int ((0 : Int32))) (ty := .boolean) (C := RX12) (T := TX12) (N := 49) hx hb hts i_X12 tyX12 tyX12_ok nmX12 hown hK hP hD hS 0 rfl rfl 24 (by decide) (hts _ wf_X12_253) (fun _ h9 => h9) rfl (tyX12_ok 24 (by decide)) (tc_nb (by decide)) (tc_fb (by decide)) (Nat.le_of_ble_eq_true rfl) dX12_table_30 (fun H locs hP hD hS => ?_)
    have hP := tc_eP (pw12_0_24 ca q z2 (0 : Int32)) hP
    have hD := tc_eD (pw12_0_24 ca q z2 (0 : Int32)) hD
    exact tX12_table_33 X z FU (si z2 24 (0 : Int32)) hf _ _ _ hP hD hS (lv_sub hl [0] rfl)
  · have hf := tc_pos hc hf
    refine lv_iconst (v := (-1 : Int32)) hx hb dX12_table_21 (by decide) ?_
    obtain rfl := Option.some.inj hf
    exact tc_ri X hP hD hS rfl dX12_table_22 rfl rfl
def fX12_readTest_120    (S : ms_T) (v1 : Int32) (t0 : Int32) : Option (ms_T) :=
  (fX12_must S t0).bind fun z8 =>
  (fX12_count z8 (0 : Int32) (9 : Int32)).bind fun z9 =>
  if inb (v1 + (6 : Int32)) 1820 = true then
    some (sa z9.2 5 (v1 + (6 : Int32)) z9.1)
  else none
def fX12_readTest_86    (S : ms_T) (v1 : Int32) (t0 : Int32) (t1 : Int32) : Option (ms_T) :=
  if inb t1 1820 = true then
    (fX12_isSign (sa S 5 t1 t0) (60 : Int32)).bind fun z7 =>
    if z7 = 0 then
      (fX12_isSign (sa S 5 t1 t0) (62 : Int32)).bind fun z11 =>
      if z11 = 0 then
        (fX12_isSign (sa S 5 t1 t0) (61 : Int32)).bind fun z12 =>
        if z12 = 0 then
          fX12_readTest_120 (sa S 5 t1 t0) v1 (0 : Int32)
        else
          fX12_readTest_120 (sa S 5 t1 t0) v1 (1 : Int32)
      else
        fX12_readTest_120 (sa S 5 t1 t0) v1 (1 : Int32)
    else
      fX12_readTest_120 (sa S 5 t1 t0) v1 (1 : Int32)
  else none
def fX12_readTest_45    (S : ms_T) (v1 : Int32) (v2 : Int32) (t0 : Int32) (t1 : Int32) (t3 : Int32) : Option (ms_T) :=
  (fX12_readTold S t1 t0).bind fun z4 =>
  if inb t3 1820 = true then
    if 0 < (gi (sa z4.2 5 t3 z4.1) 12) then
      some (sa z4.2 5 t3 z4.1)
    else
      if (2 : Int32) ≤ v2 then
        if (gi (sa z4.2 5 t3 z4.1) 14) = (3 : Int32) then
          fX12_readTest_86 (sa z4.2 5 t3 z4.1) v1 (gi (sa z4.2 5 t3 z4.1) 17) (v1 + (7 : Int32))
        else
          fX12_readTest_86 (sa z4.2 5 t3 z4.1) v1 (0 : Int32) (v1 + (7 : Int32))
      else
        some (sa z4.2 5 t3 z4.1)
  else none
def fX12_readTest_15    (S : ms_T) (v1 : Int32) (v2 : Int32) (t0 : Int32) : Option (ms_T) :=
  (fX12_must S t0).bind fun z2 =>
  if inb (v1 + (5 : Int32)) 1820 = true then
    if v2 = 0 then
      fX12_readTest_45 (sa z2 5 (v1 + (5 : Int32)) v2) v1 v2 (1 : Int32) (0 : Int32) (v1 + (1 : Int32))
    else
      fX12_readTest_45 (sa z2 5 (v1 + (5 : Int32)) v2) v1 v2 (2 : Int32) (0 : Int32) (v1 + (1 : Int32))
  else none
def fX12_readTest  (S : ms_T) (a1 : Int32) : Option (ms_T) :=
  (fX12_testWord S).bind fun z1 =>
  if z1 < 0 then
    fX12_readTest_15 S a1 z1 (0 : Int32)
  else
    fX12_readTest_15 S a1 z1 (1 : Int32)
abbrev rmX12_readTest : Room := { frames := 6, cells := 0, slots := 0, locals := 133 }
theorem okX12_readTest : tc_ok yX12_readTest cX12_readTest 3 none 1 := ⟨wc_X12_readTest, wn_X12, by decide, by decide, by decide +kernel⟩
set_option maxRecDepth 20000 in
theorem tX12_readTest_120 {q : Nat → Nat}  (X : tc_X dC dI ca A RX12 cX12_readTest 3 none p s m args meth c) (z : ms_T)     : ∀ (S : ms_T) (v1 : Int32) (t0 : Int32), fX12_readTest_120 S v1 t0 = some z → ∀ (H : Heap) (locs : List Loc) (ls : Array Slot), va_P (dC, dI) classes (w12 ca q S) H → va_D A (w12 ca q S) → va_S A s.heap H locs → lv_has ls 3 [(0, .ref (q 0)), (1, .int (v1))] → W p l e rmX12_readTest s m args below meth c H locs 0 0 (MQ below (tc_QV dC dI ca A (w12 ca q z)) args s 0 0 A) (F0 m 120 ls [.int (t0), .ref (q 0)]) := by
  obtain ⟨hx, hb, hr, hml, hown, hts, hlk, hK, hA, hG⟩ := id X
  intro S v1 t0 hf H locs ls hP hD hS hl
  unfold fX12_readTest_120 at hf
  obtain ⟨z8, hg, hf⟩ := tc_bi hf
  refine tc_vVs (As := [.int (t0)]) (rest := []) (b := q 0) X hP hD hS (mX12_must hg) okX12_must wl_X12_225 wi_X12_must ws_X12_X12_must_X12_must ⟨rfl, rfl, Nat.le_of_ble_eq_true rfl, Nat.le_of_ble_eq_true rfl⟩ 12 0 rfl rfl rfl hl.1 (Nat.le_of_ble_eq_true rfl) dX12_readTest_120 (fun H locs hP hD hS => ?_)
  refine lv_aload_n hx hb dX12_readTest_123 rfl (lv_at hl 0 rfl) ?_
  refine va_get (D := (dC, dI)) (ci := 12) (v := .ref (q 5)) (C := RX12) (T := TX12) (N := 49) hx hb hts i_X12 hown hK hP 0 rfl rfl 20 (by decide) (hts _ wf_X12_35) (fun _ h9 => h9) rfl dX12_readTest_124 ?_
  refine lv_iload_n hx hb dX12_readTest_127 rfl (lv_at hl 1 rfl) ?_
  refine lv_bipush (v := (6 : Int32)) hx hb dX12_readTest_128 (by decide) ?_
  refine lv_iadd hx hb dX12_readTest_130 ?_
  refine lv_aload_n hx hb dX12_readTest_131 rfl (lv_at hl 0 rfl) ?_
  refine lv_iconst (v := (0 : Int32)) hx hb dX12_readTest_132 (by decide) ?_
  refine lv_bipush (v := (9 : Int32)) hx hb dX12_readTest_133 (by decide) ?_
  obtain ⟨z9, hg, hf⟩ := tc_bi hf
  refine tc_iVs (As := [.int ((0 : Int32)), .int ((9 : Int32))]) (rest := [.int (v1 + (6 : Int32)), .ref (q 5)]) (b := q 0) X hP hD hS (mX12_count hg) okX12_count wl_X12_229 wi_X12_count ws_X12_X12_count_X12_count ⟨rfl, rfl, Nat.le_of_ble_eq_true rfl, Nat.le_of_ble_eq_true rfl⟩ 12 0 rfl rfl rfl hl.1 (Nat.le_of_ble_eq_true rfl) dX12_readTest_135 (fun H locs hP hD hS => ?_)
  obtain ⟨hi10, hf⟩ := tc_in hf
  refine va_iast hx hb hK hP hD hS 5 1 rfl rfl hi10 dX12_readTest_138 (fun H locs hP hD hS => ?_)
  have hP := tc_eP (aw12_0_5 ca q z9.2 (v1 + (6 : Int32)) z9.1) hP
  have hD := tc_eD (aw12_0_5 ca q z9.2 (v1 + (6 : Int32)) z9.1) hD
  obtain rfl := Option.some.inj hf
  exact tc_rv X hP hD hS rfl dX12_readTest_139 rfl
set_option maxRecDepth 20000 in
theorem tX12_readTest_86 {q : Nat → Nat}  (X : tc_X dC dI ca A RX12 cX12_readTest 3 none p s m args meth c) (z : ms_T)     : ∀ (S : ms_T) (v1 : Int32) (t0 : Int32) (t1 : Int32), fX12_readTest_86 S v1 t0 t1 = some z → ∀ (H : Heap) (locs : List Loc) (ls : Array Slot), va_P (dC, dI) classes (w12 ca q S) H → va_D A (w12 ca q S) → va_S A s.heap H locs → lv_has ls 3 [(0, .ref (q 0)), (1, .int (v1))] → W p l e rmX12_readTest s m args below meth c H locs 0 0 (MQ below (tc_QV dC dI ca A (w12 ca q z)) args s 0 0 A) (F0 m 86 ls [.int (t0), .int (t1), .ref (q 5)]) := by
  obtain ⟨hx, hb, hr, hml, hown, hts, hlk, hK, hA, hG⟩ := id X
  intro S v1 t0 t1 hf H locs ls hP hD hS hl
  unfold fX12_readTest_86 at hf
  obtain ⟨hi6, hf⟩ := tc_in hf
  refine va_iast hx hb hK hP hD hS 5 1 rfl rfl hi6 dX12_readTest_86 (fun H locs hP hD hS => ?_)
  have hP := tc_eP (aw12_0_5 ca q S t1 t0) hP
  have hD := tc_eD (aw12_0_5 ca q S t1 t0) hD
  refine lv_aload_n hx hb dX12_readTest_87 rfl (lv_at hl 0 rfl) ?_
  refine lv_aload_n hx hb dX12_readTest_88 rfl (lv_at hl 0 rfl) ?_
  refine lv_bipush (v := (60 : Int32)) hx hb dX12_readTest_89 (by decide) ?_
  obtain ⟨z7, hg, hf⟩ := tc_bi hf
  refine tc_iVs (As := [.int ((60 : Int32))]) (rest := [.ref (q 0)]) (b := q 0) X hP hD hS (mX12_isSign hg) okX12_isSign wl_X12_307 wi_X12_isSign ws_X12_X12_isSign_X12_isSign ⟨rfl, rfl, Nat.le_of_ble_eq_true rfl, Nat.le_of_ble_eq_true rfl⟩ 12 0 rfl rfl rfl hl.1 (Nat.le_of_ble_eq_true rfl) dX12_readTest_91 (fun H locs hP hD hS => ?_)
  refine lv_if_ne (tgt := 115) hx hb dX12_readTest_94 (by decide) (fun hc => ?_) (fun hc => ?_)
  · have hf := tc_neg hc hf
    refine lv_iconst (v := (1 : Int32)) hx hb dX12_readTest_115 (by decide) ?_
    refine lv_goto (tgt := 120) hx hb dX12_readTest_116 (by decide) ?_
    exact tX12_readTest_120 X z (sa S 5 t1 t0) v1 (1 : Int32) hf _ _ _ hP hD hS (lv_sub hl [0, 1] rfl)
  · have hf := tc_pos hc hf
    refine lv_aload_n hx hb dX12_readTest_97 rfl (lv_at hl 0 rfl) ?_
    refine lv_bipush (v := (62 : Int32)) hx hb dX12_readTest_98 (by decide) ?_
    obtain ⟨z11, hg, hf⟩ := tc_bi hf
    refine tc_iVs (As := [.int ((62 : Int32))]) (rest := [.ref (q 0)]) (b := q 0) X hP hD hS (mX12_isSign hg) okX12_isSign wl_X12_307 wi_X12_isSign ws_X12_X12_isSign_X12_isSign ⟨rfl, rfl, Nat.le_of_ble_eq_true rfl, Nat.le_of_ble_eq_true rfl⟩ 12 0 rfl rfl rfl hl.1 (Nat.le_of_ble_eq_true rfl) dX12_readTest_100 (fun H locs hP hD hS => ?_)
    refine lv_if_ne (tgt := 115) hx hb dX12_readTest_103 (by decide) (fun hc => ?_) (fun hc => ?_)
    · have hf := tc_neg hc hf
      refine lv_iconst (v := (1 : Int32)) hx hb dX12_readTest_115 (by decide) ?_
      refine lv_goto (tgt := 120) hx hb dX12_readTest_116 (by decide) ?_
      exact tX12_readTest_120 X z (sa S 5 t1 t0) v1 (1 : Int32) hf _ _ _ hP hD hS (lv_sub hl [0, 1] rfl)
    · have hf := tc_pos hc hf
      refine lv_aload_n hx hb dX12_readTest_106 rfl (lv_at hl 0 rfl) ?_
      refine lv_bipush (v := (61 : Int32)) hx hb dX12_readTest_107 (by decide) ?_
      obtain ⟨z12, hg, hf⟩ := tc_bi hf
      refine tc_iVs (As := [.int ((61 : Int32))]) (rest := [.ref (q 0)]) (b := q 0) X hP hD hS (mX12_isSign hg) okX12_isSign wl_X12_307 wi_X12_isSign ws_X12_X12_isSign_X12_isSign ⟨rfl, rfl, Nat.le_of_ble_eq_true rfl, Nat.le_of_ble_eq_true rfl⟩ 12 0 rfl rfl rfl hl.1 (Nat.le_of_ble_eq_true rfl) dX12_readTest_109 (fun H locs hP hD hS => ?_)
      refine lv_if_eq (tgt := 119) hx hb dX12_readTest_112 (by decide) (fun hc => ?_) (fun hc => ?_)
      · have hf := tc_pos hc hf
        refine lv_iconst (v := (0 : Int32)) hx hb dX12_readTest_119 (by decide) ?_
        exact tX12_readTest_120 X z (sa S 5 t1 t0) v1 (0 : Int32) hf _ _ _ hP hD hS (lv_sub hl [0, 1] rfl)
      · have hf := tc_neg hc hf
        refine lv_iconst (v := (1 : Int32)) hx hb dX12_readTest_115 (by decide) ?_
        refine lv_goto (tgt := 120) hx hb dX12_readTest_116 (by decide) ?_
        exact tX12_readTest_120 X z (sa S 5 t1 t0) v1 (1 : Int32) hf _ _ _ hP hD hS (lv_sub hl [0, 1] rfl)
set_option maxRecDepth 20000 in
theorem tX12_readTest_45 {q : Nat → Nat}  (X : tc_X dC dI ca A RX12 cX12_readTest 3 none p s m args meth c) (z : ms_T)     : ∀ (S : ms_T) (v1 : Int32) (v2 : Int32) (t0 : Int32) (t1 : Int32) (t3 : Int32), fX12_readTest_45 S v1 v2 t0 t1 t3 = some z → ∀ (H : Heap) (locs : List Loc) (ls : Array Slot), va_P (dC, dI) classes (w12 ca q S) H → va_D A (w12 ca q S) → va_S A s.heap H locs → lv_has ls 3 [(0, .ref (q 0)), (1, .int (v1)), (2, .int (v2))] → W p l e rmX12_readTest s m args below meth c H locs 0 0 (MQ below (tc_QV dC dI ca A (w12 ca q z)) args s 0 0 A) (F0 m 45 ls [.int (t0), .int (t1), .ref (q 0), .int (t3), .ref (q 5)]) := by
  obtain ⟨hx, hb, hr, hml, hown, hts, hlk, hK, hA, hG⟩ := id X
  intro S v1 v2 t0 t1 t3 hf H locs ls hP hD hS hl
  unfold fX12_readTest_45 at hf
  obtain ⟨z4, hg, hf⟩ := tc_bi hf
  refine tc_iVs (As := [.int (t1), .int (t0)]) (rest := [.int (t3), .ref (q 5)]) (b := q 0) X hP hD hS (mX12_readTold hg) okX12_readTold wl_X12_264 wi_X12_readTold ws_X12_X12_readTold_X12_readTold ⟨rfl, rfl, Nat.le_of_ble_eq_true rfl, Nat.le_of_ble_eq_true rfl⟩ 12 0 rfl rfl rfl hl.1 (Nat.le_of_ble_eq_true rfl) dX12_readTest_45 (fun H locs hP hD hS => ?_)
  obtain ⟨hi5, hf⟩ := tc_in hf
  refine va_iast hx hb hK hP hD hS 5 1 rfl rfl hi5 dX12_readTest_48 (fun H locs hP hD hS => ?_)
  have hP := tc_eP (aw12_0_5 ca q z4.2 t3 z4.1) hP
  have hD := tc_eD (aw12_0_5 ca q z4.2 t3 z4.1) hD
  refine lv_aload_n hx hb dX12_readTest_49 rfl (lv_at hl 0 rfl) ?_
  refine va_get (D := (dC, dI)) (ci := 12) (v := .int (gi (sa z4.2 5 t3 z4.1) 12)) (C := RX12) (T := TX12) (N := 49) hx hb hts i_X12 hown hK hP 0 rfl rfl 12 (by decide) (hts _ wf_X12_206) (fun _ h9 => h9) rfl dX12_readTest_50 ?_
  refine lv_if_gt (tgt := 61) hx hb dX12_readTest_53 (by decide) (fun hc => ?_) (fun hc => ?_)
  · have hf := tc_pos hc hf
    obtain rfl := Option.some.inj hf
    exact tc_rv X hP hD hS rfl dX12_readTest_61 rfl
  · have hf := tc_neg hc hf
    refine lv_iload_n hx hb dX12_readTest_56 rfl (lv_at hl 2 rfl) ?_
    refine lv_iconst (v := (2 : Int32)) hx hb dX12_readTest_57 (by decide) ?_
    refine lv_icmp_ge (tgt := 62) hx hb dX12_readTest_58 (by decide) (fun hc => ?_) (fun hc => ?_)
    · have hf := tc_pos hc hf
      refine lv_aload_n hx hb dX12_readTest_62 rfl (lv_at hl 0 rfl) ?_
      refine va_get (D := (dC, dI)) (ci := 12) (v := .ref (q 5)) (C := RX12) (T := TX12) (N := 49) hx hb hts i_X12 hown hK hP 0 rfl rfl 20 (by decide) (hts _ wf_X12_35) (fun _ h9 => h9) rfl dX12_readTest_63 ?_
      refine lv_iload_n hx hb dX12_readTest_66 rfl (lv_at hl 1 rfl) ?_
      refine lv_bipush (v := (7 : Int32)) hx hb dX12_readTest_67 (by decide) ?_
      refine lv_iadd hx hb dX12_readTest_69 ?_
      refine lv_aload_n hx hb dX12_readTest_70 rfl (lv_at hl 0 rfl) ?_
      refine va_get (D := (dC, dI)) (ci := 12) (v := .int (gi (sa z4.2 5 t3 z4.1) 14)) (C := RX12) (T := TX12) (N := 49) hx hb hts i_X12 hown hK hP 0 rfl rfl 14 (by decide) (hts _ wf_X12_118) (fun _ h9 => h9) rfl dX12_readTest_71 ?_
      refine lv_iconst (v := (3 : Int32)) hx hb dX12_readTest_74 (by decide) ?_
      refine lv_icmp_ne (tgt := 85) hx hb dX12_readTest_75 (by decide) (fun hc => ?_) (fun hc => ?_)
      · have hf := tc_neg hc hf
        refine lv_iconst (v := (0 : Int32)) hx hb dX12_readTest_85 (by decide) ?_
        exact tX12_readTest_86 X z (sa z4.2 5 t3 z4.1) v1 (0 : Int32) (v1 + (7 : Int32)) hf _ _ _ hP hD hS (lv_sub hl [0, 1] rfl)
      · have hf := tc_pos hc hf
        refine lv_aload_n hx hb dX12_readTest_78 rfl (lv_at hl 0 rfl) ?_
        refine va_get (D := (dC, dI)) (ci := 12) (v := .int (gi (sa z4.2 5 t3 z4.1) 17)) (C := RX12) (T := TX12) (N := 49) hx hb hts i_X12 hown hK hP 0 rfl rfl 17 (by decide) (hts _ wf_X12_137) (fun _ h9 => h9) rfl dX12_readTest_79 ?_
        refine lv_goto (tgt := 86) hx hb dX12_readTest_82 (by decide) ?_
        exact tX12_readTest_86 X z (sa z4.2 5 t3 z4.1) v1 (gi (sa z4.2 5 t3 z4.1) 17) (v1 + (7 : Int32)) hf _ _ _ hP hD hS (lv_sub hl [0, 1] rfl)
    · have hf := tc_neg hc hf
      obtain rfl := Option.some.inj hf
      exact tc_rv X hP hD hS rfl dX12_readTest_61 rfl
set_option maxRecDepth 20000 in
theorem tX12_readTest_15 {q : Nat → Nat}  (X : tc_X dC dI ca A RX12 cX12_readTest 3 none p s m args meth c) (z : ms_T)     : ∀ (S : ms_T) (v1 : Int32) (v2 : Int32) (t0 : Int32), fX12_readTest_15 S v1 v2 t0 = some z → ∀ (H : Heap) (locs : List Loc) (ls : Array Slot), va_P (dC, dI) classes (w12 ca q S) H → va_D A (w12 ca q S) → va_S A s.heap H locs → lv_has ls 3 [(0, .ref (q 0)), (1, .int (v1)), (2, .int (v2))] → W p l e rmX12_readTest s m args below meth c H locs 0 0 (MQ below (tc_QV dC dI ca A (w12 ca q z)) args s 0 0 A) (F0 m 15 ls [.int (t0), .ref (q 0)]) := by
  obtain ⟨hx, hb, hr, hml, hown, hts, hlk, hK, hA, hG⟩ := id X
  intro S v1 v2 t0 hf H locs ls hP hD hS hl
  unfold fX12_readTest_15 at hf
  obtain ⟨z2, hg, hf⟩ := tc_bi hf
  refine tc_vVs (As := [.int (t0)]) (rest := []) (b := q 0) X hP hD hS (mX12_must hg) okX12_must wl_X12_225 wi_X12_must ws_X12_X12_must_X12_must ⟨rfl, rfl, Nat.le_of_ble_eq_true rfl, Nat.le_of_ble_eq_true rfl⟩ 12 0 rfl rfl rfl hl.1 (Nat.le_of_ble_eq_true rfl) dX12_readTest_15 (fun H locs hP hD hS => ?_)
  refine lv_aload_n hx hb dX12_readTest_18 rfl (lv_at hl 0 rfl) ?_
  refine va_get (D := (dC, dI)) (ci := 12) (v := .ref (q 5)) (C := RX12) (T := TX12) (N := 49) hx hb hts i_X12 hown hK hP 0 rfl rfl 20 (by decide) (hts _ wf_X12_35) (fun _ h9 => h9) rfl dX12_readTest_19 ?_
  refine lv_iload_n hx hb dX12_readTest_22 rfl (lv_at hl 1 rfl) ?_
  refine lv_iconst (v := (5 : Int32)) hx hb dX12_readTest_23 (by decide) ?_
  refine lv_iadd hx hb dX12_readTest_24 ?_
  refine lv_iload_n hx hb dX12_readTest_25 rfl (lv_at hl 2 rfl) ?_
  obtain ⟨hi3, hf⟩ := tc_in hf
  refine va_iast hx hb hK hP hD hS 5 1 rfl rfl hi3 dX12_readTest_26 (fun H locs hP hD hS => ?_)
  have hP := tc_eP (aw12_0_5 ca q z2 (v1 + (5 : Int32)) v2) hP
  have hD := tc_eD (aw12_0_5 ca q z2 (v1 + (5 : Int32)) v2) hD
  refine lv_aload_n hx hb dX12_readTest_27 rfl (lv_at hl 0 rfl) ?_
  refine va_get (D := (dC, dI)) (ci := 12) (v := .ref (q 5)) (C := RX12) (T := TX12) (N := 49) hx hb hts i_X12 hown hK hP 0 rfl rfl 20 (by decide) (hts _ wf_X12_35) (fun _ h9 => h9) rfl dX12_readTest_28 ?_
  refine lv_iload_n hx hb dX12_readTest_31 rfl (lv_at hl 1 rfl) ?_
  refine lv_iconst (v := (1 : Int32)) hx hb dX12_readTest_32 (by decide) ?_
  refine lv_iadd hx hb dX12_readTest_33 ?_
  refine lv_aload_n hx hb dX12_readTest_34 rfl (lv_at hl 0 rfl) ?_
  refine lv_iconst (v := (0 : Int32)) hx hb dX12_readTest_35 (by decide) ?_
  refine lv_iload_n hx hb dX12_readTest_36 rfl (lv_at hl 2 rfl) ?_
  refine lv_if_ne (tgt := 44) hx hb dX12_readTest_37 (by decide) (fun hc => ?_) (fun hc => ?_)
  · have hf := tc_neg hc hf
    refine lv_iconst (v := (2 : Int32)) hx hb dX12_readTest_44 (by decide) ?_
    exact tX12_readTest_45 X z (sa z2 5 (v1 + (5 : Int32)) v2) v1 v2 (2 : Int32) (0 : Int32) (v1 + (1 : Int32)) hf _ _ _ hP hD hS (lv_sub hl [0, 1, 2] rfl)
  · have hf := tc_pos hc hf
    refine lv_iconst (v := (1 : Int32)) hx hb dX12_readTest_40 (by decide) ?_
    refine lv_goto (tgt := 45) hx hb dX12_readTest_41 (by decide) ?_
    exact tX12_readTest_45 X z (sa z2 5 (v1 + (5 : Int32)) v2) v1 v2 (1 : Int32) (0 : Int32) (v1 + (1 : Int32)) hf _ _ _ hP hD hS (lv_sub hl [0, 1, 2] rfl)
set_option maxRecDepth 20000 in
theorem mX12_readTest {q : Nat → Nat}  {S : ms_T} {a1 : Int32} {z : ms_T}  (hf : fX12_readTest S a1 = some z) : tc_MV l dC dI ca yX12_readTest cX12_readTest 3 none rmX12_readTest [.ref (q 0), .int (a1)] (w12 ca q S) (w12 ca q z) := by
  refine tc_metV (own := RX12) (by decide) rfl ?_ (Nat.le_of_ble_eq_true rfl)
  intro p e s m below meth c A X hP hD hS ls hl
  obtain ⟨hx, hb, hr, hml, hown, hts, hlk, hK, hA, hG⟩ := id X
  unfold fX12_readTest at hf
  have hl : lv_has ls 3 [(0, .ref (q 0)), (1, .int (a1))] := hl
  refine lv_aload_n hx hb dX12_readTest_0 rfl (lv_at hl 0 rfl) ?_
  obtain ⟨z1, hg, hf⟩ := tc_bi hf
  refine tc_iVs (As := []) (rest := []) (b := q 0) X hP hD hS (mX12_testWord hg) okX12_testWord wl_X12_197 wi_X12_testWord ws_X12_X12_testWord_X12_testWord ⟨rfl, rfl, Nat.le_of_ble_eq_true rfl, Nat.le_of_ble_eq_true rfl⟩ 12 0 rfl rfl rfl hl.1 (Nat.le_of_ble_eq_true rfl) dX12_readTest_1 (fun H locs hP hD hS => ?_)
  refine lv_istore_n (lv' := [(2, .int (z1)), (0, .ref (q 0)), (1, .int (a1))]) hx hb dX12_readTest_4 rfl hl (by decide) rfl (fun ls hl => ?_)
  refine lv_aload_n hx hb dX12_readTest_5 rfl (lv_at hl 1 rfl) ?_
  refine lv_iload_n hx hb dX12_readTest_6 rfl (lv_at hl 0 rfl) ?_
  refine lv_if_lt (tgt := 14) hx hb dX12_readTest_7 (by decide) (fun hc => ?_) (fun hc => ?_)
  · have hf := tc_pos hc hf
    refine lv_iconst (v := (0 : Int32)) hx hb dX12_readTest_14 (by decide) ?_
    exact tX12_readTest_15 X z S a1 z1 (0 : Int32) hf _ _ _ hP hD hS (lv_sub hl [1, 2, 0] rfl)
  · have hf := tc_neg hc hf
    refine lv_iconst (v := (1 : Int32)) hx hb dX12_readTest_10 (by decide) ?_
    refine lv_goto (tgt := 15) hx hb dX12_readTest_11 (by decide) ?_
    exact tX12_readTest_15 X z S a1 z1 (1 : Int32) hf _ _ _ hP hD hS (lv_sub hl [1, 2, 0] rfl)
def fX12_readRest_80    (S : ms_T) (v1 : Int32) : Option (ms_T) :=
  (fX12_readTold S (0 : Int32) (1 : Int32)).bind fun z2 =>
  if inb (v1 + (1 : Int32)) 1820 = true then
    some (sa z2.2 5 (v1 + (1 : Int32)) z2.1)
  else none
def fX12_readRest_26    (S : ms_T) (v1 : Int32) (v2 : Int32) : Option (ms_T) :=
  if v2 = 0 then
    (fX12_readTold S (0 : Int32) (1 : Int32)).bind fun z9 =>
    if inb (v1 + (2 : Int32)) 1820 = true then
      some (sa z9.2 5 (v1 + (2 : Int32)) z9.1)
    else none
  else
    if v2 = (1 : Int32) then
      (fX12_count S (1 : Int32) (9 : Int32)).bind fun z7 =>
      if inb (v1 + (2 : Int32)) 1820 = true then
        some (sa z7.2 5 (v1 + (2 : Int32)) z7.1)
      else none
    else
      if v2 = (3 : Int32) then
        fX12_readRest_80 S v1
      else
        if v2 = (4 : Int32) then
          fX12_readRest_80 S v1
        else
          if v2 = (7 : Int32) then
            (fX12_count S (1 : Int32) (99 : Int32)).bind fun z5 =>
            if inb (v1 + (1 : Int32)) 1820 = true then
              some (sa z5.2 5 (v1 + (1 : Int32)) z5.1)
            else none
          else
            if v2 = (6 : Int32) then
              (fX12_readTest S v1).bind fun z4 =>
              some (z4)
            else
              some (S)
def fX12_readRest  (S : ms_T) (a1 : Int32) : Option (ms_T) :=
  if inb a1 1820 = true then
    if (3 : Int32) ≤ (ia S 5 a1) then
      fX12_readRest_26 S a1 (ia S 5 a1)
    else
      (fX12_readTold S (0 : Int32) (2 : Int32)).bind fun z11 =>
      if inb (a1 + (1 : Int32)) 1820 = true then
        fX12_readRest_26 (sa z11.2 5 (a1 + (1 : Int32)) z11.1) a1 (ia S 5 a1)
      else none
  else none
abbrev rmX12_readRest : Room := { frames := 7, cells := 0, slots := 0, locals := 155 }
theorem okX12_readRest : tc_ok yX12_readRest cX12_readRest 3 none 1 := ⟨wc_X12_readRest, wn_X12, by decide, by decide, by decide +kernel⟩
set_option maxRecDepth 20000 in
theorem tX12_readRest_80 {q : Nat → Nat}  (X : tc_X dC dI ca A RX12 cX12_readRest 3 none p s m args meth c) (z : ms_T)     : ∀ (S : ms_T) (v1 : Int32), fX12_readRest_80 S v1 = some z → ∀ (H : Heap) (locs : List Loc) (ls : Array Slot), va_P (dC, dI) classes (w12 ca q S) H → va_D A (w12 ca q S) → va_S A s.heap H locs → lv_has ls 3 [(0, .ref (q 0)), (1, .int (v1))] → W p l e rmX12_readRest s m args below meth c H locs 0 0 (MQ below (tc_QV dC dI ca A (w12 ca q z)) args s 0 0 A) (F0 m 80 ls []) := by
  obtain ⟨hx, hb, hr, hml, hown, hts, hlk, hK, hA, hG⟩ := id X
  intro S v1 hf H locs ls hP hD hS hl
  unfold fX12_readRest_80 at hf
  refine lv_aload_n hx hb dX12_readRest_80 rfl (lv_at hl 0 rfl) ?_
  refine va_get (D := (dC, dI)) (ci := 12) (v := .ref (q 5)) (C := RX12) (T := TX12) (N := 49) hx hb hts i_X12 hown hK hP 0 rfl rfl 20 (by decide) (hts _ wf_X12_35) (fun _ h9 => h9) rfl dX12_readRest_81 ?_
  refine lv_iload_n hx hb dX12_readRest_84 rfl (lv_at hl 1 rfl) ?_
  refine lv_iconst (v := (1 : Int32)) hx hb dX12_readRest_85 (by decide) ?_
  refine lv_iadd hx hb dX12_readRest_86 ?_
  refine lv_aload_n hx hb dX12_readRest_87 rfl (lv_at hl 0 rfl) ?_
  refine lv_iconst (v := (0 : Int32)) hx hb dX12_readRest_88 (by decide) ?_
  refine lv_iconst (v := (1 : Int32)) hx hb dX12_readRest_89 (by decide) ?_
  obtain ⟨z2, hg, hf⟩ := tc_bi hf
  refine tc_iVs (As := [.int ((0 : Int32)), .int ((1 : Int32))]) (rest := [.int (v1 + (1 : Int32)), .ref (q 5)]) (b := q 0) X hP hD hS (mX12_readTold hg) okX12_readTold wl_X12_264 wi_X12_readTold ws_X12_X12_readTold_X12_readTold ⟨rfl, rfl, Nat.le_of_ble_eq_true rfl, Nat.le_of_ble_eq_true rfl⟩ 12 0 rfl rfl rfl hl.1 (Nat.le_of_ble_eq_true rfl) dX12_readRest_90 (fun H locs hP hD hS => ?_)
  obtain ⟨hi3, hf⟩ := tc_in hf
  refine va_iast hx hb hK hP hD hS 5 1 rfl rfl hi3 dX12_readRest_93 (fun H locs hP hD hS => ?_)
  have hP := tc_eP (aw12_0_5 ca q z2.2 (v1 + (1 : Int32)) z2.1) hP
  have hD := tc_eD (aw12_0_5 ca q z2.2 (v1 + (1 : Int32)) z2.1) hD
  refine lv_goto (tgt := 132) hx hb dX12_readRest_94 (by decide) ?_
  obtain rfl := Option.some.inj hf
  exact tc_rv X hP hD hS rfl dX12_readRest_132 rfl
set_option maxRecDepth 20000 in
theorem tX12_readRest_26 {q : Nat → Nat}  (X : tc_X dC dI ca A RX12 cX12_readRest 3 none p s m args meth c) (z : ms_T)     : ∀ (S : ms_T) (v1 : Int32) (v2 : Int32), fX12_readRest_26 S v1 v2 = some z → ∀ (H : Heap) (locs : List Loc) (ls : Array Slot), va_P (dC, dI) classes (w12 ca q S) H → va_D A (w12 ca q S) → va_S A s.heap H locs → lv_has ls 3 [(0, .ref (q 0)), (1, .int (v1)), (2, .int (v2))] → W p l e rmX12_readRest s m args below meth c H locs 0 0 (MQ below (tc_QV dC dI ca A (w12 ca q z)) args s 0 0 A) (F0 m 26 ls []) := by
  obtain ⟨hx, hb, hr, hml, hown, hts, hlk, hK, hA, hG⟩ := id X
  intro S v1 v2 hf H locs ls hP hD hS hl
  unfold fX12_readRest_26 at hf
  refine lv_iload_n hx hb dX12_readRest_26 rfl (lv_at hl 2 rfl) ?_
  refine lv_if_ne (tgt := 47) hx hb dX12_readRest_27 (by decide) (fun hc => ?_) (fun hc => ?_)
  · have hf := tc_neg hc hf
    refine lv_iload_n hx hb dX12_readRest_47 rfl (lv_at hl 2 rfl) ?_
    refine lv_iconst (v := (1 : Int32)) hx hb dX12_readRest_48 (by decide) ?_
    refine lv_icmp_ne (tgt := 70) hx hb dX12_readRest_49 (by decide) (fun hc => ?_) (fun hc => ?_)
    · have hf := tc_neg hc hf
      refine lv_iload_n hx hb dX12_readRest_70 rfl (lv_at hl 2 rfl) ?_
      refine lv_iconst (v := (3 : Int32)) hx hb dX12_readRest_71 (by decide) ?_
      refine lv_icmp_eq (tgt := 80) hx hb dX12_readRest_72 (by decide) (fun hc => ?_) (fun hc => ?_)
      · have hf := tc_pos hc hf
        exact tX12_readRest_80 X z S v1 hf _ _ _ hP hD hS (lv_sub hl [0, 1] rfl)
      · have hf := tc_neg hc hf
        refine lv_iload_n hx hb dX12_readRest_75 rfl (lv_at hl 2 rfl) ?_
        refine lv_iconst (v := (4 : Int32)) hx hb dX12_readRest_76 (by decide) ?_
        refine lv_icmp_ne (tgt := 97) hx hb dX12_readRest_77 (by decide) (fun hc => ?_) (fun hc => ?_)
        · have hf := tc_neg hc hf
          refine lv_iload_n hx hb dX12_readRest_97 rfl (lv_at hl 2 rfl) ?_
          refine lv_bipush (v := (7 : Int32)) hx hb dX12_readRest_98 (by decide) ?_
          refine lv_icmp_ne (tgt := 121) hx hb dX12_readRest_100 (by decide) (fun hc => ?_) (fun hc => ?_)
          · have hf := tc_neg hc hf
            refine lv_iload_n hx hb dX12_readRest_121 rfl (lv_at hl 2 rfl) ?_
            refine lv_bipush (v := (6 : Int32)) hx hb dX12_readRest_122 (by decide) ?_
            refine lv_icmp_ne (tgt := 132) hx hb dX12_readRest_124 (by decide) (fun hc => ?_) (fun hc => ?_)
            · have hf := tc_neg hc hf
              obtain rfl := Option.some.inj hf
              exact tc_rv X hP hD hS rfl dX12_readRest_132 rfl
            · have hf := tc_pos hc hf
              refine lv_aload_n hx hb dX12_readRest_127 rfl (lv_at hl 0 rfl) ?_
              refine lv_iload_n hx hb dX12_readRest_128 rfl (lv_at hl 1 rfl) ?_
              obtain ⟨z4, hg, hf⟩ := tc_bi hf
              refine tc_vVs (As := [.int (v1)]) (rest := []) (b := q 0) X hP hD hS (mX12_readTest hg) okX12_readTest wl_X12_316 wi_X12_readTest ws_X12_X12_readTest_X12_readTest ⟨rfl, rfl, Nat.le_of_ble_eq_true rfl, Nat.le_of_ble_eq_true rfl⟩ 12 0 rfl rfl rfl hl.1 (Nat.le_of_ble_eq_true rfl) dX12_readRest_129 (fun H locs hP hD hS => ?_)
              obtain rfl := Option.some.inj hf
              exact tc_rv X hP hD hS rfl dX12_readRest_132 rfl
          · have hf := tc_pos hc hf
            refine lv_aload_n hx hb dX12_readRest_103 rfl (lv_at hl 0 rfl) ?_
            refine va_get (D := (dC, dI)) (ci := 12) (v := .ref (q 5)) (C := RX12) (T := TX12) (N := 49) hx hb hts i_X12 hown hK hP 0 rfl rfl 20 (by decide) (hts _ wf_X12_35) (fun _ h9 => h9) rfl dX12_readRest_104 ?_
            refine lv_iload_n hx hb dX12_readRest_107 rfl (lv_at hl 1 rfl) ?_
            refine lv_iconst (v := (1 : Int32)) hx hb dX12_readRest_108 (by decide) ?_
            refine lv_iadd hx hb dX12_readRest_109 ?_
            refine lv_aload_n hx hb dX12_readRest_110 rfl (lv_at hl 0 rfl) ?_
            refine lv_iconst (v := (1 : Int32)) hx hb dX12_readRest_111 (by decide) ?_
            refine lv_bipush (v := (99 : Int32)) hx hb dX12_readRest_112 (by decide) ?_
            obtain ⟨z5, hg, hf⟩ := tc_bi hf
            refine tc_iVs (As := [.int ((1 : Int32)), .int ((99 : Int32))]) (rest := [.int (v1 + (1 : Int32)), .ref (q 5)]) (b := q 0) X hP hD hS (mX12_count hg) okX12_count wl_X12_229 wi_X12_count ws_X12_X12_count_X12_count ⟨rfl, rfl, Nat.le_of_ble_eq_true rfl, Nat.le_of_ble_eq_true rfl⟩ 12 0 rfl rfl rfl hl.1 (Nat.le_of_ble_eq_true rfl) dX12_readRest_114 (fun H locs hP hD hS => ?_)
            obtain ⟨hi6, hf⟩ := tc_in hf
            refine va_iast hx hb hK hP hD hS 5 1 rfl rfl hi6 dX12_readRest_117 (fun H locs hP hD hS => ?_)
            have hP := tc_eP (aw12_0_5 ca q z5.2 (v1 + (1 : Int32)) z5.1) hP
            have hD := tc_eD (aw12_0_5 ca q z5.2 (v1 + (1 : Int32)) z5.1) hD
            refine lv_goto (tgt := 132) hx hb dX12_readRest_118 (by decide) ?_
            obtain rfl := Option.some.inj hf
            exact tc_rv X hP hD hS rfl dX12_readRest_132 rfl
        · have hf := tc_pos hc hf
          exact tX12_readRest_80 X z S v1 hf _ _ _ hP hD hS (lv_sub hl [0, 1] rfl)
    · have hf := tc_pos hc hf
      refine lv_aload_n hx hb dX12_readRest_52 rfl (lv_at hl 0 rfl) ?_
      refine va_get (D := (dC, dI)) (ci := 12) (v := .ref (q 5)) (C := RX12) (T := TX12) (N := 49) hx hb hts i_X12 hown hK hP 0 rfl rfl 20 (by decide) (hts _ wf_X12_35) (fun _ h9 => h9) rfl dX12_readRest_53 ?_
      refine lv_iload_n hx hb dX12_readRest_56 rfl (lv_at hl 1 rfl) ?_
      refine lv_iconst (v := (2 : Int32)) hx hb dX12_readRest_57 (by decide) ?_
      refine lv_iadd hx hb dX12_readRest_58 ?_
      refine lv_aload_n hx hb dX12_readRest_59 rfl (lv_at hl 0 rfl) ?_
      refine lv_iconst (v := (1 : Int32)) hx hb dX12_readRest_60 (by decide) ?_
      refine lv_bipush (v := (9 : Int32)) hx hb dX12_readRest_61 (by decide) ?_
      obtain ⟨z7, hg, hf⟩ := tc_bi hf
      refine tc_iVs (As := [.int ((1 : Int32)), .int ((9 : Int32))]) (rest := [.int (v1 + (2 : Int32)), .ref (q 5)]) (b := q 0) X hP hD hS (mX12_count hg) okX12_count wl_X12_229 wi_X12_count ws_X12_X12_count_X12_count ⟨rfl, rfl, Nat.le_of_ble_eq_true rfl, Nat.le_of_ble_eq_true rfl⟩ 12 0 rfl rfl rfl hl.1 (Nat.le_of_ble_eq_true rfl) dX12_readRest_63 (fun H locs hP hD hS => ?_)
      obtain ⟨hi8, hf⟩ := tc_in hf
      refine va_iast hx hb hK hP hD hS 5 1 rfl rfl hi8 dX12_readRest_66 (fun H locs hP hD hS => ?_)
      have hP := tc_eP (aw12_0_5 ca q z7.2 (v1 + (2 : Int32)) z7.1) hP
      have hD := tc_eD (aw12_0_5 ca q z7.2 (v1 + (2 : Int32)) z7.1) hD
      refine lv_goto (tgt := 132) hx hb dX12_readRest_67 (by decide) ?_
      obtain rfl := Option.some.inj hf
      exact tc_rv X hP hD hS rfl dX12_readRest_132 rfl
  · have hf := tc_pos hc hf
    refine lv_aload_n hx hb dX12_readRest_30 rfl (lv_at hl 0 rfl) ?_
    refine va_get (D := (dC, dI)) (ci := 12) (v := .ref (q 5)) (C := RX12) (T := TX12) (N := 49) hx hb hts i_X12 hown hK hP 0 rfl rfl 20 (by decide) (hts _ wf_X12_35) (fun _ h9 => h9) rfl dX12_readRest_31 ?_
    refine lv_iload_n hx hb dX12_readRest_34 rfl (lv_at hl 1 rfl) ?_
    refine lv_iconst (v := (2 : Int32)) hx hb dX12_readRest_35 (by decide) ?_
    refine lv_iadd hx hb dX12_readRest_36 ?_
    refine lv_aload_n hx hb dX12_readRest_37 rfl (lv_at hl 0 rfl) ?_
    refine lv_iconst (v := (0 : Int32)) hx hb dX12_readRest_38 (by decide) ?_
    refine lv_iconst (v := (1 : Int32)) hx hb dX12_readRest_39 (by decide) ?_
    obtain ⟨z9, hg, hf⟩ := tc_bi hf
    refine tc_iVs (As := [.int ((0 : Int32)), .int ((1 : Int32))]) (rest := [.int (v1 + (2 : Int32)), .ref (q 5)]) (b := q 0) X hP hD hS (mX12_readTold hg) okX12_readTold wl_X12_264 wi_X12_readTold ws_X12_X12_readTold_X12_readTold ⟨rfl, rfl, Nat.le_of_ble_eq_true rfl, Nat.le_of_ble_eq_true rfl⟩ 12 0 rfl rfl rfl hl.1 (Nat.le_of_ble_eq_true rfl) dX12_readRest_40 (fun H locs hP hD hS => ?_)
    obtain ⟨hi10, hf⟩ := tc_in hf
    refine va_iast hx hb hK hP hD hS 5 1 rfl rfl hi10 dX12_readRest_43 (fun H locs hP hD hS => ?_)
    have hP := tc_eP (aw12_0_5 ca q z9.2 (v1 + (2 : Int32)) z9.1) hP
    have hD := tc_eD (aw12_0_5 ca q z9.2 (v1 + (2 : Int32)) z9.1) hD
    refine lv_goto (tgt := 132) hx hb dX12_readRest_44 (by decide) ?_
    obtain rfl := Option.some.inj hf
    exact tc_rv X hP hD hS rfl dX12_readRest_132 rfl
set_option maxRecDepth 20000 in
theorem mX12_readRest {q : Nat → Nat}  {S : ms_T} {a1 : Int32} {z : ms_T}  (hf : fX12_readRest S a1 = some z) : tc_MV l dC dI ca yX12_readRest cX12_readRest 3 none rmX12_readRest [.ref (q 0), .int (a1)] (w12 ca q S) (w12 ca q z) := by
  refine tc_metV (own := RX12) (by decide) rfl ?_ (Nat.le_of_ble_eq_true rfl)
  intro p e s m below meth c A X hP hD hS ls hl
  obtain ⟨hx, hb, hr, hml, hown, hts, hlk, hK, hA, hG⟩ := id X
  unfold fX12_readRest at hf
  have hl : lv_has ls 3 [(0, .ref (q 0)), (1, .int (a1))] := hl
  refine lv_aload_n hx hb dX12_readRest_0 rfl (lv_at hl 0 rfl) ?_
  refine va_get (D := (dC, dI)) (ci := 12) (v := .ref (q 5)) (C := RX12) (T := TX12) (N := 49) hx hb hts i_X12 hown hK hP 0 rfl rfl 20 (by decide) (hts _ wf_X12_35) (fun _ h9 => h9) rfl dX12_readRest_1 ?_
  refine lv_iload_n hx hb dX12_readRest_4 rfl (lv_at hl 1 rfl) ?_
  obtain ⟨hi1, hf⟩ := tc_in hf
  refine va_iald hx hb hK hP 5 1 rfl rfl hi1 dX12_readRest_5 ?_
  refine lv_istore_n (lv' := [(2, .int (ia S 5 a1)), (0, .ref (q 0)), (1, .int (a1))]) hx hb dX12_readRest_6 rfl hl (by decide) rfl (fun ls hl => ?_)
  refine lv_iload_n hx hb dX12_readRest_7 rfl (lv_at hl 0 rfl) ?_
  refine lv_iconst (v := (3 : Int32)) hx hb dX12_readRest_8 (by decide) ?_
  refine lv_icmp_ge (tgt := 26) hx hb dX12_readRest_9 (by decide) (fun hc => ?_) (fun hc => ?_)
  · have hf := tc_pos hc hf
    exact tX12_readRest_26 X z S a1 (ia S 5 a1) hf _ _ _ hP hD hS (lv_sub hl [1, 2, 0] rfl)
  · have hf := tc_neg hc hf
    refine lv_aload_n hx hb dX12_readRest_12 rfl (lv_at hl 1 rfl) ?_
    refine va_get (D := (dC, dI)) (ci := 12) (v := .ref (q 5)) (C := RX12) (T := TX12) (N := 49) hx hb hts i_X12 hown hK hP 0 rfl rfl 20 (by decide) (hts _ wf_X12_35) (fun _ h9 => h9) rfl dX12_readRest_13 ?_
    refine lv_iload_n hx hb dX12_readRest_16 rfl (lv_at hl 2 rfl) ?_
    refine lv_iconst (v := (1 : Int32)) hx hb dX12_readRest_17 (by decide) ?_
    refine lv_iadd hx hb dX12_readRest_18 ?_
    refine lv_aload_n hx hb dX12_readRest_19 rfl (lv_at hl 1 rfl) ?_
    refine lv_iconst (v := (0 : Int32)) hx hb dX12_readRest_20 (by decide) ?_
    refine lv_iconst (v := (2 : Int32)) hx hb dX12_readRest_21 (by decide) ?_
    obtain ⟨z11, hg, hf⟩ := tc_bi hf
    refine tc_iVs (As := [.int ((0 : Int32)), .int ((2 : Int32))]) (rest := [.int (a1 + (1 : Int32)), .ref (q 5)]) (b := q 0) X hP hD hS (mX12_readTold hg) okX12_readTold wl_X12_264 wi_X12_readTold ws_X12_X12_readTold_X12_readTold ⟨rfl, rfl, Nat.le_of_ble_eq_true rfl, Nat.le_of_ble_eq_true rfl⟩ 12 0 rfl rfl rfl hl.1 (Nat.le_of_ble_eq_true rfl) dX12_readRest_22 (fun H locs hP hD hS => ?_)
    obtain ⟨hi12, hf⟩ := tc_in hf
    refine va_iast hx hb hK hP hD hS 5 1 rfl rfl hi12 dX12_readRest_25 (fun H locs hP hD hS => ?_)
    have hP := tc_eP (aw12_0_5 ca q z11.2 (a1 + (1 : Int32)) z11.1) hP
    have hD := tc_eD (aw12_0_5 ca q z11.2 (a1 + (1 : Int32)) z11.1) hD
    exact tX12_readRest_26 X z (sa z11.2 5 (a1 + (1 : Int32)) z11.1) a1 (ia S 5 a1) hf _ _ _ hP hD hS (lv_sub hl [1, 2, 0] rfl)
def fX12_readStep_192 (rc : ms_T → Int32 → Option (ms_T))   (S : ms_T) (v4 : Int32) : Option (ms_T) :=
  if inb (v4 + (8 : Int32)) 1820 = true then
    some (sa S 5 (v4 + (8 : Int32)) (gi S 25))
  else none
def fX12_readStep_170 (rc : ms_T → Int32 → Option (ms_T))   (S : ms_T) (v3 : Int32) (v4 : Int32) : Option (ms_T) :=
  if v3 = 0 then
    fX12_readStep_192 rc S v4
  else
    (fX12_isEnd S).bind fun z8 =>
    (fX12_must S z8).bind fun z9 =>
    (fX12_isSign z9 (59 : Int32)).bind fun z10 =>
    (fX12_must z9 z10).bind fun z11 =>
    fX12_readStep_192 rc z11 v4
def fX12_readStep_142 (rc : ms_T → Int32 → Option (ms_T))   : Nat → ms_T → Int32 → Int32 → Int32 → Option (ms_T)
  | 0, _, _, _, _ => none
  | n + 1, S, v1, v3, v4 =>
    if v3 = 0 then
      fX12_readStep_170 rc S v3 v4
    else
      if (gi S 12) = 0 then
        (fX12_isEnd S).bind fun z12 =>
        if z12 = 0 then
          (rc S (v1 + (1 : Int32))).bind fun z13 =>
          fX12_readStep_142 rc n z13 v1 v3 v4
        else
          fX12_readStep_170 rc S v3 v4
      else
        fX12_readStep_170 rc S v3 v4
def fX12_readStep_83 (rc : ms_T → Int32 → Option (ms_T))   (S : ms_T) (v1 : Int32) (v2 : Int32) (v3 : Int32) : Option (ms_T) :=
  if (gi S 12) ≤ 0 then
    (fX12_advance (si S 25 ((gi S 25) + (1 : Int32)))).bind fun z2 =>
    if inb ((1550 : Int32) + ((9 : Int32) * (gi S 25))) 1820 = true then
      (fX12_readRest (sa z2 5 ((1550 : Int32) + ((9 : Int32) * (gi S 25))) v2) ((1550 : Int32) + ((9 : Int32) * (gi S 25)))).bind fun z4 =>
      (fX12_isSign z4 (59 : Int32)).bind fun z5 =>
      (fX12_must z4 z5).bind fun z6 =>
      fX12_readStep_142 rc FU z6 v1 v3 ((1550 : Int32) + ((9 : Int32) * (gi S 25)))
    else none
  else
    some (S)
def fX12_readStep_57 (rc : ms_T → Int32 → Option (ms_T))   (S : ms_T) (v1 : Int32) (v2 : Int32) (v3 : Int32) : Option (ms_T) :=
  if (gi S 12) = 0 then
    if v3 = 0 then
      fX12_readStep_83 rc S v1 v2 v3
    else
      if v1 = (3 : Int32) then
        (fX12_fail S (7 : Int32) (gi S 15)).bind fun z14 =>
        fX12_readStep_83 rc z14 v1 v2 v3
      else
        fX12_readStep_83 rc S v1 v2 v3
  else
    fX12_readStep_83 rc S v1 v2 v3
def fX12_readStep_31 (rc : ms_T → Int32 → Option (ms_T))   (S : ms_T) (v1 : Int32) (v2 : Int32) (v3 : Int32) : Option (ms_T) :=
  if (gi S 12) = 0 then
    if (gi S 25) = (30 : Int32) then
      (fX12_fail S (6 : Int32) (gi S 15)).bind fun z15 =>
      fX12_readStep_57 rc z15 v1 v2 v3
    else
      fX12_readStep_57 rc S v1 v2 v3
  else
    fX12_readStep_57 rc S v1 v2 v3
def fX12_readStep_22 (rc : ms_T → Int32 → Option (ms_T))   (S : ms_T) (v1 : Int32) (v2 : Int32) (t0 : Int32) : Option (ms_T) :=
  if 0 ≤ v2 then
    fX12_readStep_31 rc S v1 v2 t0
  else
    (fX12_amiss S).bind fun z16 =>
    fX12_readStep_31 rc z16 v1 v2 t0
def fX12_readStep_0 (rc : ms_T → Int32 → Option (ms_T)) (S : ms_T) (a1 : Int32) : Option (ms_T) :=
  (fX12_stepWord S).bind fun z1 =>
  if z1 = (6 : Int32) then
    fX12_readStep_22 rc S a1 z1 (1 : Int32)
  else
    if z1 = (7 : Int32) then
      fX12_readStep_22 rc S a1 z1 (1 : Int32)
    else
      fX12_readStep_22 rc S a1 z1 (0 : Int32)
def fX12_readStep : Nat → ms_T → Int32 → Option (ms_T)
  | 0, _, _ => none
  | d + 1, S, a1 => fX12_readStep_0 (fX12_readStep d) S a1
abbrev rmX12_readStep (d : Nat) : Room := { frames := 8 + d, cells := 0, slots := 0, locals := 177 + d * 24 }
theorem okX12_readStep : tc_ok yX12_readStep cX12_readStep 5 none 1 := ⟨wc_X12_readStep, wn_X12, by decide, by decide, by decide +kernel⟩
set_option maxRecDepth 20000 in
theorem tX12_readStep_192 {d : Nat} {q : Nat → Nat}  (X : tc_X dC dI ca A RX12 cX12_readStep 5 none p s m args meth c) (z : ms_T) (rc : ms_T → Int32 → Option (ms_T)) (hrc : ∀ {S : ms_T} {a1 : Int32} {z : ms_T}, rc S a1 = some z → tc_MV l dC dI ca yX12_readStep cX12_readStep 5 none (rmX12_readStep d) [.ref (q 0), .int (a1)] (w12 ca q S) (w12 ca q z))    : ∀ (S : ms_T) (v4 : Int32), fX12_readStep_192 rc S v4 = some z → ∀ (H : Heap) (locs : List Loc) (ls : Array Slot), va_P (dC, dI) classes (w12 ca q S) H → va_D A (w12 ca q S) → va_S A s.heap H locs → lv_has ls 5 [(0, .ref (q 0)), (4, .int (v4))] → W p l e (rmX12_readStep (d + 1)) s m args below meth c H locs 0 0 (MQ below (tc_QV dC dI ca A (w12 ca q z)) args s 0 0 A) (F0 m 192 ls []) := by
  obtain ⟨hx, hb, hr, hml, hown, hts, hlk, hK, hA, hG⟩ := id X
  intro S v4 hf H locs ls hP hD hS hl
  unfold fX12_readStep_192 at hf
  refine lv_aload_n hx hb dX12_readStep_192 rfl (lv_at hl 0 rfl) ?_
  refine va_get (D := (dC, dI)) (ci := 12) (v := .ref (q 5)) (C := RX12) (T := TX12) (N := 49) hx hb hts i_X12 hown hK hP 0 rfl rfl 20 (by decide) (hts _ wf_X12_35) (fun _ h9 => h9) rfl dX12_readStep_193 ?_
  refine lv_iload hx hb dX12_readStep_196 (lv_at hl 1 rfl) ?_
  refine lv_bipush (v := (8 : Int32)) hx hb dX12_readStep_198 (by decide) ?_
  refine lv_iadd hx hb dX12_readStep_200 ?_
  refine lv_aload_n hx hb dX12_readStep_201 rfl (lv_at hl 0 rfl) ?_
  refine va_get (D := (dC, dI)) (ci := 12) (v := .int (gi S 25)) (C := RX12) (T := TX12) (N := 49) hx hb hts i_X12 hown hK hP 0 rfl rfl 25 (by decide) (hts _ wf_X12_319) (fun _ h9 => h9) rfl dX12_readStep_202 ?_
  obtain ⟨hi7, hf⟩ := tc_in hf
  refine va_iast hx hb hK hP hD hS 5 1 rfl rfl hi7 dX12_readStep_205 (fun H locs hP hD hS => ?_)
  have hP := tc_eP (aw12_0_5 ca q S (v4 + (8 : Int32)) (gi S 25)) hP
  have hD := tc_eD (aw12_0_5 ca q S (v4 + (8 : Int32)) (gi S 25)) hD
  obtain rfl := Option.some.inj hf
  exact tc_rv X hP hD hS rfl dX12_readStep_206 rfl
set_option maxRecDepth 20000 in
theorem tX12_readStep_170 {d : Nat} {q : Nat → Nat}  (X : tc_X dC dI ca A RX12 cX12_readStep 5 none p s m args meth c) (z : ms_T) (rc : ms_T → Int32 → Option (ms_T)) (hrc : ∀ {S : ms_T} {a1 : Int32} {z : ms_T}, rc S a1 = some z → tc_MV l dC dI ca yX12_readStep cX12_readStep 5 none (rmX12_readStep d) [.ref (q 0), .int (a1)] (w12 ca q S) (w12 ca q z))    : ∀ (S : ms_T) (v3 : Int32) (v4 : Int32), fX12_readStep_170 rc S v3 v4 = some z → ∀ (H : Heap) (locs : List Loc) (ls : Array Slot), va_P (dC, dI) classes (w12 ca q S) H → va_D A (w12 ca q S) → va_S A s.heap H locs → lv_has ls 5 [(0, .ref (q 0)), (3, .int (v3)), (4, .int (v4))] → W p l e (rmX12_readStep (d + 1)) s m args below meth c H locs 0 0 (MQ below (tc_QV dC dI ca A (w12 ca q z)) args s 0 0 A) (F0 m 170 ls []) := by
  obtain ⟨hx, hb, hr, hml, hown, hts, hlk, hK, hA, hG⟩ := id X
  intro S v3 v4 hf H locs ls hP hD hS hl
  unfold fX12_readStep_170 at hf
  refine lv_iload_n hx hb dX12_readStep_170 rfl (lv_at hl 1 rfl) ?_
  refine lv_if_eq (tgt := 192) hx hb dX12_readStep_171 (by decide) (fun hc => ?_) (fun hc => ?_)
  · have hf := tc_pos hc hf
    exact tX12_readStep_192 X z rc hrc S v4 hf _ _ _ hP hD hS (lv_sub hl [0, 2] rfl)
  · have hf := tc_neg hc hf
    refine lv_aload_n hx hb dX12_readStep_174 rfl (lv_at hl 0 rfl) ?_
    refine lv_aload_n hx hb dX12_readStep_175 rfl (lv_at hl 0 rfl) ?_
    obtain ⟨z8, hg, hf⟩ := tc_bi hf
    refine tc_iVs (As := []) (rest := [.ref (q 0)]) (b := q 0) X hP hD hS (mX12_isEnd hg) okX12_isEnd wl_X12_200 wi_X12_isEnd ws_X12_X12_isEnd_X12_isEnd ⟨rfl, rfl, (by show 1 + 1 ≤ 8 + (d + 1); omega), (by show 8 + (1 + 11) + 27 ≤ 177 + (d + 1) * 24; omega)⟩ 12 0 rfl rfl rfl hl.1 (Nat.le_of_ble_eq_true rfl) dX12_readStep_176 (fun H locs hP hD hS => ?_)
    obtain ⟨z9, hg, hf⟩ := tc_bi hf
    refine tc_vVs (As := [.int (z8)]) (rest := []) (b := q 0) X hP hD hS (mX12_must hg) okX12_must wl_X12_225 wi_X12_must ws_X12_X12_must_X12_must ⟨rfl, rfl, (by show 2 + 1 ≤ 8 + (d + 1); omega), (by show 8 + (2 + 11) + 42 ≤ 177 + (d + 1) * 24; omega)⟩ 12 0 rfl rfl rfl hl.1 (Nat.le_of_ble_eq_true rfl) dX12_readStep_179 (fun H locs hP hD hS => ?_)
    refine lv_aload_n hx hb dX12_readStep_182 rfl (lv_at hl 0 rfl) ?_
    refine lv_aload_n hx hb dX12_readStep_183 rfl (lv_at hl 0 rfl) ?_
    refine lv_bipush (v := (59 : Int32)) hx hb dX12_readStep_184 (by decide) ?_
    obtain ⟨z10, hg, hf⟩ := tc_bi hf
    refine tc_iVs (As := [.int ((59 : Int32))]) (rest := [.ref (q 0)]) (b := q 0) X hP hD hS (mX12_isSign hg) okX12_isSign wl_X12_307 wi_X12_isSign ws_X12_X12_isSign_X12_isSign ⟨rfl, rfl, (by show 0 + 1 ≤ 8 + (d + 1); omega), (by show 8 + (2 + 11) + 0 ≤ 177 + (d + 1) * 24; omega)⟩ 12 0 rfl rfl rfl hl.1 (Nat.le_of_ble_eq_true rfl) dX12_readStep_186 (fun H locs hP hD hS => ?_)
    obtain ⟨z11, hg, hf⟩ := tc_bi hf
    refine tc_vVs (As := [.int (z10)]) (rest := []) (b := q 0) X hP hD hS (mX12_must hg) okX12_must wl_X12_225 wi_X12_must ws_X12_X12_must_X12_must ⟨rfl, rfl, (by show 2 + 1 ≤ 8 + (d + 1); omega), (by show 8 + (2 + 11) + 42 ≤ 177 + (d + 1) * 24; omega)⟩ 12 0 rfl rfl rfl hl.1 (Nat.le_of_ble_eq_true rfl) dX12_readStep_189 (fun H locs hP hD hS => ?_)
    exact tX12_readStep_192 X z rc hrc z11 v4 hf _ _ _ hP hD hS (lv_sub hl [0, 2] rfl)
set_option maxRecDepth 20000 in
theorem tX12_readStep_142 {d : Nat} {q : Nat → Nat}  (X : tc_X dC dI ca A RX12 cX12_readStep 5 none p s m args meth c) (z : ms_T) (rc : ms_T → Int32 → Option (ms_T)) (hrc : ∀ {S : ms_T} {a1 : Int32} {z : ms_T}, rc S a1 = some z → tc_MV l dC dI ca yX12_readStep cX12_readStep 5 none (rmX12_readStep d) [.ref (q 0), .int (a1)] (w12 ca q S) (w12 ca q z))    : ∀ n : Nat, ∀ (S : ms_T) (v1 : Int32) (v3 : Int32) (v4 : Int32), fX12_readStep_142 rc n S v1 v3 v4 = some z → ∀ (H : Heap) (locs : List Loc) (ls : Array Slot), va_P (dC, dI) classes (w12 ca q S) H → va_D A (w12 ca q S) → va_S A s.heap H locs → lv_has ls 5 [(0, .ref (q 0)), (1, .int (v1)), (3, .int (v3)), (4, .int (v4))] → W p l e (rmX12_readStep (d + 1)) s m args below meth c H locs 0 0 (MQ below (tc_QV dC dI ca A (w12 ca q z)) args s 0 0 A) (F0 m 142 ls []) := by
  obtain ⟨hx, hb, hr, hml, hown, hts, hlk, hK, hA, hG⟩ := id X
  intro n
  induction n with
  | zero => intro S v1 v3 v4 hf; exact absurd (show none = some z from hf) (fun h => by cases h)
  | succ n ih =>
    intro S v1 v3 v4 hf H locs ls hP hD hS hl
    rw [fX12_readStep_142] at hf
    refine lv_iload_n hx hb dX12_readStep_142 rfl (lv_at hl 2 rfl) ?_
    refine lv_if_eq (tgt := 170) hx hb dX12_readStep_143 (by decide) (fun hc => ?_) (fun hc => ?_)
    · have hf := tc_pos hc hf
      exact tX12_readStep_170 X z rc hrc S v3 v4 hf _ _ _ hP hD hS (lv_sub hl [0, 2, 3] rfl)
    · have hf := tc_neg hc hf
      refine lv_aload_n hx hb dX12_readStep_146 rfl (lv_at hl 0 rfl) ?_
      refine va_get (D := (dC, dI)) (ci := 12) (v := .int (gi S 12)) (C := RX12) (T := TX12) (N := 49) hx hb hts i_X12 hown hK hP 0 rfl rfl 12 (by decide) (hts _ wf_X12_206) (fun _ h9 => h9) rfl dX12_readStep_147 ?_
      refine lv_if_ne (tgt := 170) hx hb dX12_readStep_150 (by decide) (fun hc => ?_) (fun hc => ?_)
      · have hf := tc_neg hc hf
        exact tX12_readStep_170 X z rc hrc S v3 v4 hf _ _ _ hP hD hS (lv_sub hl [0, 2, 3] rfl)
      · have hf := tc_pos hc hf
        refine lv_aload_n hx hb dX12_readStep_153 rfl (lv_at hl 0 rfl) ?_
        obtain ⟨z12, hg, hf⟩ := tc_bi hf
        refine tc_iVs (As := []) (rest := []) (b := q 0) X hP hD hS (mX12_isEnd hg) okX12_isEnd wl_X12_200 wi_X12_isEnd ws_X12_X12_isEnd_X12_isEnd ⟨rfl, rfl, (by show 1 + 1 ≤ 8 + (d + 1); omega), (by show 8 + (1 + 11) + 27 ≤ 177 + (d + 1) * 24; omega)⟩ 12 0 rfl rfl rfl hl.1 (Nat.le_of_ble_eq_true rfl) dX12_readStep_154 (fun H locs hP hD hS => ?_)
        refine lv_if_ne (tgt := 170) hx hb dX12_readStep_157 (by decide) (fun hc => ?_) (fun hc => ?_)
        · have hf := tc_neg hc hf
          exact tX12_readStep_170 X z rc hrc S v3 v4 hf _ _ _ hP hD hS (lv_sub hl [0, 2, 3] rfl)
        · have hf := tc_pos hc hf
          refine lv_aload_n hx hb dX12_readStep_160 rfl (lv_at hl 0 rfl) ?_
          refine lv_iload_n hx hb dX12_readStep_161 rfl (lv_at hl 1 rfl) ?_
          refine lv_iconst (v := (1 : Int32)) hx hb dX12_readStep_162 (by decide) ?_
          refine lv_iadd hx hb dX12_readStep_163 ?_
          obtain ⟨z13, hg, hf⟩ := tc_bi hf
          refine tc_vVs (As := [.int (v1 + (1 : Int32))]) (rest := []) (b := q 0) X hP hD hS (hrc hg) okX12_readStep wl_X12_325 wi_X12_readStep ws_X12_X12_readStep_X12_readStep ⟨rfl, rfl, (by show (8 + d) + 1 ≤ 8 + (d + 1); omega), (by show 8 + (5 + 11) + (177 + d * 24) ≤ 177 + (d + 1) * 24; omega)⟩ 12 0 rfl rfl rfl hl.1 (Nat.le_of_ble_eq_true rfl) dX12_readStep_164 (fun H locs hP hD hS => ?_)
          refine lv_goto (tgt := 142) hx hb dX12_readStep_167 (by decide) ?_
          exact ih z13 v1 v3 v4 hf _ _ _ hP hD hS (lv_sub hl [0, 1, 2, 3] rfl)
set_option maxRecDepth 20000 in
theorem tX12_readStep_83 {d : Nat} {q : Nat → Nat}  (X : tc_X dC dI ca A RX12 cX12_readStep 5 none p s m args meth c) (z : ms_T) (rc : ms_T → Int32 → Option (ms_T)) (hrc : ∀ {S : ms_T} {a1 : Int32} {z : ms_T}, rc S a1 = some z → tc_MV l dC dI ca yX12_readStep cX12_readStep 5 none (rmX12_readStep d) [.ref (q 0), .int (a1)] (w12 ca q S) (w12 ca q z))    : ∀ (S : ms_T) (v1 : Int32) (v2 : Int32) (v3 : Int32), fX12_readStep_83 rc S v1 v2 v3 = some z → ∀ (H : Heap) (locs : List Loc) (ls : Array Slot), va_P (dC, dI) classes (w12 ca q S) H → va_D A (w12 ca q S) → va_S A s.heap H locs → lv_has ls 5 [(0, .ref (q 0)), (1, .int (v1)), (2, .int (v2)), (3, .int (v3))] → W p l e (rmX12_readStep (d + 1)) s m args below meth c H locs 0 0 (MQ below (tc_QV dC dI ca A (w12 ca q z)) args s 0 0 A) (F0 m 83 ls []) := by
  obtain ⟨hx, hb, hr, hml, hown, hts, hlk, hK, hA, hG⟩ := id X
  intro S v1 v2 v3 hf H locs ls hP hD hS hl
  unfold fX12_readStep_83 at hf
  refine lv_aload_n hx hb dX12_readStep_83 rfl (lv_at hl 0 rfl) ?_
  refine va_get (D := (dC, dI)) (ci := 12) (v := .int (gi S 12)) (C := RX12) (T := TX12) (N := 49) hx hb hts i_X12 hown hK hP 0 rfl rfl 12 (by decide) (hts _ wf_X12_206) (fun _ h9 => h9) rfl dX12_readStep_84 ?_
  refine lv_if_le (tgt := 91) hx hb dX12_readStep_87 (by decide) (fun hc => ?_) (fun hc => ?_)
  · have hf := tc_pos hc hf
    refine lv_sipush (v := (1550 : Int32)) hx hb dX12_readStep_91 (by decide) ?_
    refine lv_bipush (v := (9 : Int32)) hx hb dX12_readStep_94 (by decide) ?_
    refine lv_aload_n hx hb dX12_readStep_96 rfl (lv_at hl 0 rfl) ?_
    refine va_get (D := (dC, dI)) (ci := 12) (v := .int (gi S 25)) (C := RX12) (T := TX12) (N := 49) hx hb hts i_X12 hown hK hP 0 rfl rfl 25 (by decide) (hts _ wf_X12_319) (fun _ h9 => h9) rfl dX12_readStep_97 ?_
    refine lv_imul hx hb dX12_readStep_100 ?_
    refine lv_iadd hx hb dX12_readStep_101 ?_
    refine lv_istore (lv' := [(4, .int ((1550 : Int32) + ((9 : Int32) * (gi S 25)))), (0, .ref (q 0)), (1, .int (v1)), (2, .int (v2)), (3, .int (v3))]) hx hb dX12_readStep_102 hl (by decide) rfl (fun ls hl => ?_)
    refine lv_aload_n hx hb dX12_readStep_104 rfl (lv_at hl 1 rfl) ?_
    refine lv_dup hx hb dX12_readStep_105 rfl ?_
    refine va_get (D := (dC, dI)) (ci := 12) (v := .int (gi S 25)) (C := RX12) (T := TX12) (N := 49) hx hb hts i_X12 hown hK hP 0 rfl rfl 25 (by decide) (hts _ wf_X12_319) (fun _ h9 => h9) rfl dX12_readStep_106 ?_
    refine lv_iconst (v := (1 : Int32)) hx hb dX12_readStep_109 (by decide) ?_
    refine lv_iadd hx hb dX12_readStep_110 ?_
    refine va_put (D := (dC, dI)) (ci := 12) (v := .int ((gi S 25) + (1 : Int32))) (ty := .int) (C := RX12) (T := TX12) (N := 49) hx hb hts i_X12 tyX12 tyX12_ok nmX12 hown hK hP hD hS 0 rfl rfl 25 (by decide) (hts _ wf_X12_319) (fun _ h9 => h9) rfl (tyX12_ok 25 (by decide)) rfl rfl (Nat.le_of_ble_eq_true rfl) dX12_readStep_111 (fun H locs hP hD hS => ?_)
    have hP := tc_eP (pw12_0_25 ca q S ((gi S 25) + (1 : Int32))) hP
    have hD := tc_eD (pw12_0_25 ca q S ((gi S 25) + (1 : Int32))) hD
    refine lv_aload_n hx hb dX12_readStep_114 rfl (lv_at hl 1 rfl) ?_
    obtain ⟨z2, hg, hf⟩ := tc_bi hf
    refine tc_vVs (As := []) (rest := []) (b := q 0) X hP hD hS (mX12_advance hg) okX12_advance wl_X12_216 wi_X12_advance ws_X12_X12_advance_X12_advance ⟨rfl, rfl, (by show 1 + 1 ≤ 8 + (d + 1); omega), (by show 8 + (2 + 11) + 21 ≤ 177 + (d + 1) * 24; omega)⟩ 12 0 rfl rfl rfl hl.1 (Nat.le_of_ble_eq_true rfl) dX12_readStep_115 (fun H locs hP hD hS => ?_)
    refine lv_aload_n hx hb dX12_readStep_118 rfl (lv_at hl 1 rfl) ?_
    refine va_get (D := (dC, dI)) (ci := 12) (v := .ref (q 5)) (C := RX12) (T := TX12) (N := 49) hx hb hts i_X12 hown hK hP 0 rfl rfl 20 (by decide) (hts _ wf_X12_35) (fun _ h9 => h9) rfl dX12_readStep_119 ?_
    refine lv_iload hx hb dX12_readStep_122 (lv_at hl 0 rfl) ?_
    refine lv_iload_n hx hb dX12_readStep_124 rfl (lv_at hl 3 rfl) ?_
    obtain ⟨hi3, hf⟩ := tc_in hf
    refine va_iast hx hb hK hP hD hS 5 1 rfl rfl hi3 dX12_readStep_125 (fun H locs hP hD hS => ?_)
    have hP := tc_eP (aw12_0_5 ca q z2 ((1550 : Int32) + ((9 : Int32) * (gi S 25))) v2) hP
    have hD := tc_eD (aw12_0_5 ca q z2 ((1550 : Int32) + ((9 : Int32) * (gi S 25))) v2) hD
    refine lv_aload_n hx hb dX12_readStep_126 rfl (lv_at hl 1 rfl) ?_
    refine lv_iload hx hb dX12_readStep_127 (lv_at hl 0 rfl) ?_
    obtain ⟨z4, hg, hf⟩ := tc_bi hf
    refine tc_vVs (As := [.int ((1550 : Int32) + ((9 : Int32) * (gi S 25)))]) (rest := []) (b := q 0) X hP hD hS (mX12_readRest hg) okX12_readRest wl_X12_322 wi_X12_readRest ws_X12_X12_readRest_X12_readRest ⟨rfl, rfl, (by show 7 + 1 ≤ 8 + (d + 1); omega), (by show 8 + (3 + 11) + 155 ≤ 177 + (d + 1) * 24; omega)⟩ 12 0 rfl rfl rfl hl.1 (Nat.le_of_ble_eq_true rfl) dX12_readStep_129 (fun H locs hP hD hS => ?_)
    refine lv_aload_n hx hb dX12_readStep_132 rfl (lv_at hl 1 rfl) ?_
    refine lv_aload_n hx hb dX12_readStep_133 rfl (lv_at hl 1 rfl) ?_
    refine lv_bipush (v := (59 : Int32)) hx hb dX12_readStep_134 (by decide) ?_
    obtain ⟨z5, hg, hf⟩ := tc_bi hf
    refine tc_iVs (As := [.int ((59 : Int32))]) (rest := [.ref (q 0)]) (b := q 0) X hP hD hS (mX12_isSign hg) okX12_isSign wl_X12_307 wi_X12_isSign ws_X12_X12_isSign_X12_isSign ⟨rfl, rfl, (by show 0 + 1 ≤ 8 + (d + 1); omega), (by show 8 + (2 + 11) + 0 ≤ 177 + (d + 1) * 24; omega)⟩ 12 0 rfl rfl rfl hl.1 (Nat.le_of_ble_eq_true rfl) dX12_readStep_136 (fun H locs hP hD hS => ?_)
    obtain ⟨z6, hg, hf⟩ := tc_bi hf
    refine tc_vVs (As := [.int (z5)]) (rest := []) (b := q 0) X hP hD hS (mX12_must hg) okX12_must wl_X12_225 wi_X12_must ws_X12_X12_must_X12_must ⟨rfl, rfl, (by show 2 + 1 ≤ 8 + (d + 1); omega), (by show 8 + (2 + 11) + 42 ≤ 177 + (d + 1) * 24; omega)⟩ 12 0 rfl rfl rfl hl.1 (Nat.le_of_ble_eq_true rfl) dX12_readStep_139 (fun H locs hP hD hS => ?_)
    exact tX12_readStep_142 X z rc hrc FU z6 v1 v3 ((1550 : Int32) + ((9 : Int32) * (gi S 25))) hf _ _ _ hP hD hS (lv_sub hl [1, 2, 4, 0] rfl)
  · have hf := tc_neg hc hf
    obtain rfl := Option.some.inj hf
    exact tc_rv X hP hD hS rfl dX12_readStep_90 rfl
set_option maxRecDepth 20000 in
theorem tX12_readStep_57 {d : Nat} {q : Nat → Nat}  (X : tc_X dC dI ca A RX12 cX12_readStep 5 none p s m args meth c) (z : ms_T) (rc : ms_T → Int32 → Option (ms_T)) (hrc : ∀ {S : ms_T} {a1 : Int32} {z : ms_T}, rc S a1 = some z → tc_MV l dC dI ca yX12_readStep cX12_readStep 5 none (rmX12_readStep d) [.ref (q 0), .int (a1)] (w12 ca q S) (w12 ca q z))    : ∀ (S : ms_T) (v1 : Int32) (v2 : Int32) (v3 : Int32), fX12_readStep_57 rc S v1 v2 v3 = some z → ∀ (H : Heap) (locs : List Loc) (ls : Array Slot), va_P (dC, dI) classes (w12 ca q S) H → va_D A (w12 ca q S) → va_S A s.heap H locs → lv_has ls 5 [(0, .ref (q 0)), (1, .int (v1)), (2, .int (v2)), (3, .int (v3))] → W p l e (rmX12_readStep (d + 1)) s m args below meth c H locs 0 0 (MQ below (tc_QV dC dI ca A (w12 ca q z)) args s 0 0 A) (F0 m 57 ls []) := by
  obtain ⟨hx, hb, hr, hml, hown, hts, hlk, hK, hA, hG⟩ := id X
  intro S v1 v2 v3 hf H locs ls hP hD hS hl
  unfold fX12_readStep_57 at hf
  refine lv_aload_n hx hb dX12_readStep_57 rfl (lv_at hl 0 rfl) ?_
  refine va_get (D := (dC, dI)) (ci := 12) (v := .int (gi S 12)) (C := RX12) (T := TX12) (N := 49) hx hb hts i_X12 hown hK hP 0 rfl rfl 12 (by decide) (hts _ wf_X12_206) (fun _ h9 => h9) rfl dX12_readStep_58 ?_
  refine lv_if_ne (tgt := 83) hx hb dX12_readStep_61 (by decide) (fun hc => ?_) (fun hc => ?_)
  · have hf := tc_neg hc hf
    exact tX12_readStep_83 X z rc hrc S v1 v2 v3 hf _ _ _ hP hD hS (lv_sub hl [0, 1, 2, 3] rfl)
  · have hf := tc_pos hc hf
    refine lv_iload_n hx hb dX12_readStep_64 rfl (lv_at hl 3 rfl) ?_
    refine lv_if_eq (tgt := 83) hx hb dX12_readStep_65 (by decide) (fun hc => ?_) (fun hc => ?_)
    · have hf := tc_pos hc hf
      exact tX12_readStep_83 X z rc hrc S v1 v2 v3 hf _ _ _ hP hD hS (lv_sub hl [0, 1, 2, 3] rfl)
    · have hf := tc_neg hc hf
      refine lv_iload_n hx hb dX12_readStep_68 rfl (lv_at hl 1 rfl) ?_
      refine lv_iconst (v := (3 : Int32)) hx hb dX12_readStep_69 (by decide) ?_
      refine lv_icmp_ne (tgt := 83) hx hb dX12_readStep_70 (by decide) (fun hc => ?_) (fun hc => ?_)
      · have hf := tc_neg hc hf
        exact tX12_readStep_83 X z rc hrc S v1 v2 v3 hf _ _ _ hP hD hS (lv_sub hl [0, 1, 2, 3] rfl)
      · have hf := tc_pos hc hf
        refine lv_aload_n hx hb dX12_readStep_73 rfl (lv_at hl 0 rfl) ?_
        refine lv_bipush (v := (7 : Int32)) hx hb dX12_readStep_74 (by decide) ?_
        refine lv_aload_n hx hb dX12_readStep_76 rfl (lv_at hl 0 rfl) ?_
        refine va_get (D := (dC, dI)) (ci := 12) (v := .int (gi S 15)) (C := RX12) (T := TX12) (N := 49) hx hb hts i_X12 hown hK hP 0 rfl rfl 15 (by decide) (hts _ wf_X12_112) (fun _ h9 => h9) rfl dX12_readStep_77 ?_
        obtain ⟨z14, hg, hf⟩ := tc_bi hf
        refine tc_vVs (As := [.int ((7 : Int32)), .int (gi S 15)]) (rest := []) (b := q 0) X hP hD hS (mX12_fail hg) okX12_fail wl_X12_212 wi_X12_fail ws_X12_X12_fail_X12_fail ⟨rfl, rfl, (by show 0 + 1 ≤ 8 + (d + 1); omega), (by show 8 + (3 + 11) + 0 ≤ 177 + (d + 1) * 24; omega)⟩ 12 0 rfl rfl rfl hl.1 (Nat.le_of_ble_eq_true rfl) dX12_readStep_80 (fun H locs hP hD hS => ?_)
        exact tX12_readStep_83 X z rc hrc z14 v1 v2 v3 hf _ _ _ hP hD hS (lv_sub hl [0, 1, 2, 3] rfl)
set_option maxRecDepth 20000 in
theorem tX12_readStep_31 {d : Nat} {q : Nat → Nat}  (X : tc_X dC dI ca A RX12 cX12_readStep 5 none p s m args meth c) (z : ms_T) (rc : ms_T → Int32 → Option (ms_T)) (hrc : ∀ {S : ms_T} {a1 : Int32} {z : ms_T}, rc S a1 = some z → tc_MV l dC dI ca yX12_readStep cX12_readStep 5 none (rmX12_readStep d) [.ref (q 0), .int (a1)] (w12 ca q S) (w12 ca q z))    : ∀ (S : ms_T) (v1 : Int32) (v2 : Int32) (v3 : Int32), fX12_readStep_31 rc S v1 v2 v3 = some z → ∀ (H : Heap) (locs : List Loc) (ls : Array Slot), va_P (dC, dI) classes (w12 ca q S) H → va_D A (w12 ca q S) → va_S A s.heap H locs → lv_has ls 5 [(0, .ref (q 0)), (1, .int (v1)), (2, .int (v2)), (3, .int (v3))] → W p l e (rmX12_readStep (d + 1)) s m args below meth c H locs 0 0 (MQ below (tc_QV dC dI ca A (w12 ca q z)) args s 0 0 A) (F0 m 31 ls []) := by
  obtain ⟨hx, hb, hr, hml, hown, hts, hlk, hK, hA, hG⟩ := id X
  intro S v1 v2 v3 hf H locs ls hP hD hS hl
  unfold fX12_readStep_31 at hf
  refine lv_aload_n hx hb dX12_readStep_31 rfl (lv_at hl 0 rfl) ?_
  refine va_get (D := (dC, dI)) (ci := 12) (v := .int (gi S 12)) (C := RX12) (T := TX12) (N := 49) hx hb hts i_X12 hown hK hP 0 rfl rfl 12 (by decide) (hts _ wf_X12_206) (fun _ h9 => h9) rfl dX12_readStep_32 ?_
  refine lv_if_ne (tgt := 57) hx hb dX12_readStep_35 (by decide) (fun hc => ?_) (fun hc => ?_)
  · have hf := tc_neg hc hf
    exact tX12_readStep_57 X z rc hrc S v1 v2 v3 hf _ _ _ hP hD hS (lv_sub hl [0, 1, 2, 3] rfl)
  · have hf := tc_pos hc hf
    refine lv_aload_n hx hb dX12_readStep_38 rfl (lv_at hl 0 rfl) ?_
    refine va_get (D := (dC, dI)) (ci := 12) (v := .int (gi S 25)) (C := RX12) (T := TX12) (N := 49) hx hb hts i_X12 hown hK hP 0 rfl rfl 25 (by decide) (hts _ wf_X12_319) (fun _ h9 => h9) rfl dX12_readStep_39 ?_
    refine lv_bipush (v := (30 : Int32)) hx hb dX12_readStep_42 (by decide) ?_
    refine lv_icmp_ne (tgt := 57) hx hb dX12_readStep_44 (by decide) (fun hc => ?_) (fun hc => ?_)
    · have hf := tc_neg hc hf
      exact tX12_readStep_57 X z rc hrc S v1 v2 v3 hf _ _ _ hP hD hS (lv_sub hl [0, 1, 2, 3] rfl)
    · have hf := tc_pos hc hf
      refine lv_aload_n hx hb dX12_readStep_47 rfl (lv_at hl 0 rfl) ?_
      refine lv_bipush (v := (6 : Int32)) hx hb dX12_readStep_48 (by decide) ?_
      refine lv_aload_n hx hb dX12_readStep_50 rfl (lv_at hl 0 rfl) ?_
      refine va_get (D := (dC, dI)) (ci := 12) (v := .int (gi S 15)) (C := RX12) (T := TX12) (N := 49) hx hb hts i_X12 hown hK hP 0 rfl rfl 15 (by decide) (hts _ wf_X12_112) (fun _ h9 => h9) rfl dX12_readStep_51 ?_
      obtain ⟨z15, hg, hf⟩ := tc_bi hf
      refine tc_vVs (As := [.int ((6 : Int32)), .int (gi S 15)]) (rest := []) (b := q 0) X hP hD hS (mX12_fail hg) okX12_fail wl_X12_212 wi_X12_fail ws_X12_X12_fail_X12_fail ⟨rfl, rfl, (by show 0 + 1 ≤ 8 + (d + 1); omega), (by show 8 + (3 + 11) + 0 ≤ 177 + (d + 1) * 24; omega)⟩ 12 0 rfl rfl rfl hl.1 (Nat.le_of_ble_eq_true rfl) dX12_readStep_54 (fun H locs hP hD hS => ?_)
      exact tX12_readStep_57 X z rc hrc z15 v1 v2 v3 hf _ _ _ hP hD hS (lv_sub hl [0, 1, 2, 3] rfl)
set_option maxRecDepth 20000 in
theorem tX12_readStep_22 {d : Nat} {q : Nat → Nat}  (X : tc_X dC dI ca A RX12 cX12_readStep 5 none p s m args meth c) (z : ms_T) (rc : ms_T → Int32 → Option (ms_T)) (hrc : ∀ {S : ms_T} {a1 : Int32} {z : ms_T}, rc S a1 = some z → tc_MV l dC dI ca yX12_readStep cX12_readStep 5 none (rmX12_readStep d) [.ref (q 0), .int (a1)] (w12 ca q S) (w12 ca q z))    : ∀ (S : ms_T) (v1 : Int32) (v2 : Int32) (t0 : Int32), fX12_readStep_22 rc S v1 v2 t0 = some z → ∀ (H : Heap) (locs : List Loc) (ls : Array Slot), va_P (dC, dI) classes (w12 ca q S) H → va_D A (w12 ca q S) → va_S A s.heap H locs → lv_has ls 5 [(0, .ref (q 0)), (1, .int (v1)), (2, .int (v2))] → W p l e (rmX12_readStep (d + 1)) s m args below meth c H locs 0 0 (MQ below (tc_QV dC dI ca A (w12 ca q z)) args s 0 0 A) (F0 m 22 ls [.int (t0)]) := by
  obtain ⟨hx, hb, hr, hml, hown, hts, hlk, hK, hA, hG⟩ := id X
  intro S v1 v2 t0 hf H locs ls hP hD hS hl
  unfold fX12_readStep_22 at hf
  refine lv_istore_n (lv' := [(3, .int (t0)), (0, .ref (q 0)), (1, .int (v1)), (2, .int (v2))]) hx hb dX12_readStep_22 rfl hl (by decide) rfl (fun ls hl => ?_)
  refine lv_iload_n hx hb dX12_readStep_23 rfl (lv_at hl 3 rfl) ?_
  refine lv_if_ge (tgt := 31) hx hb dX12_readStep_24 (by decide) (fun hc => ?_) (fun hc => ?_)
  · have hf := tc_pos hc hf
    exact tX12_readStep_31 X z rc hrc S v1 v2 t0 hf _ _ _ hP hD hS (lv_sub hl [1, 2, 3, 0] rfl)
  · have hf := tc_neg hc hf
    refine lv_aload_n hx hb dX12_readStep_27 rfl (lv_at hl 1 rfl) ?_
    obtain ⟨z16, hg, hf⟩ := tc_bi hf
    refine tc_vVs (As := []) (rest := []) (b := q 0) X hP hD hS (mX12_amiss hg) okX12_amiss wl_X12_219 wi_X12_amiss ws_X12_X12_amiss_X12_amiss ⟨rfl, rfl, (by show 1 + 1 ≤ 8 + (d + 1); omega), (by show 8 + (1 + 11) + 22 ≤ 177 + (d + 1) * 24; omega)⟩ 12 0 rfl rfl rfl hl.1 (Nat.le_of_ble_eq_true rfl) dX12_readStep_28 (fun H locs hP hD hS => ?_)
    exact tX12_readStep_31 X z rc hrc z16 v1 v2 t0 hf _ _ _ hP hD hS (lv_sub hl [1, 2, 3, 0] rfl)
set_option maxRecDepth 20000 in
theorem mX12_readStep_0 {d : Nat} {q : Nat → Nat}  {S : ms_T} {a1 : Int32} {z : ms_T} {rc : ms_T → Int32 → Option (ms_T)} (hrc : ∀ {S : ms_T} {a1 : Int32} {z : ms_T}, rc S a1 = some z → tc_MV l dC dI ca yX12_readStep cX12_readStep 5 none (rmX12_readStep d) [.ref (q 0), .int (a1)] (w12 ca q S) (w12 ca q z)) (hf : fX12_readStep_0 rc S a1 = some z) : tc_MV l dC dI ca yX12_readStep cX12_readStep 5 none (rmX12_readStep (d + 1)) [.ref (q 0), .int (a1)] (w12 ca q S) (w12 ca q z) := by
  refine tc_metV (own := RX12) (by decide) rfl ?_ (Nat.le_of_ble_eq_true rfl)
  intro p e s m below meth c A X hP hD hS ls hl
  obtain ⟨hx, hb, hr, hml, hown, hts, hlk, hK, hA, hG⟩ := id X
  unfold fX12_readStep_0 at hf
  have hl : lv_has ls 5 [(0, .ref (q 0)), (1, .int (a1))] := hl
  refine lv_aload_n hx hb dX12_readStep_0 rfl (lv_at hl 0 rfl) ?_
  obtain ⟨z1, hg, hf⟩ := tc_bi hf
  refine tc_iVs (As := []) (rest := []) (b := q 0) X hP hD hS (mX12_stepWord hg) okX12_stepWord wl_X12_193 wi_X12_stepWord ws_X12_X12_stepWord_X12_stepWord ⟨rfl, rfl, (by show 1 + 1 ≤ 8 + (d + 1); omega), (by show 8 + (1 + 11) + 27 ≤ 177 + (d + 1) * 24; omega)⟩ 12 0 rfl rfl rfl hl.1 (Nat.le_of_ble_eq_true rfl) dX12_readStep_1 (fun H locs hP hD hS => ?_)
  refine lv_istore_n (lv' := [(2, .int (z1)), (0, .ref (q 0)), (1, .int (a1))]) hx hb dX12_readStep_4 rfl hl (by decide) rfl (fun ls hl => ?_)
  refine lv_iload_n hx hb dX12_readStep_5 rfl (lv_at hl 0 rfl) ?_
  refine lv_bipush (v := (6 : Int32)) hx hb dX12_readStep_6 (by decide) ?_
  refine lv_icmp_eq (tgt := 17) hx hb dX12_readStep_8 (by decide) (fun hc => ?_) (fun hc => ?_)
  · have hf := tc_pos hc hf
    refine lv_iconst (v := (1 : Int32)) hx hb dX12_readStep_17 (by decide) ?_
    refine lv_goto (tgt := 22) hx hb dX12_readStep_18 (by decide) ?_
    exact tX12_readStep_22 X z rc hrc S a1 z1 (1 : Int32) hf _ _ _ hP hD hS (lv_sub hl [1, 2, 0] rfl)
  · have hf := tc_neg hc hf
    refine lv_iload_n hx hb dX12_readStep_11 rfl (lv_at hl 0 rfl) ?_
    refine lv_bipush (v := (7 : Int32)) hx hb dX12_readStep_12 (by decide) ?_
    refine lv_icmp_ne (tgt := 21) hx hb dX12_readStep_14 (by decide) (fun hc => ?_) (fun hc => ?_)
    · have hf := tc_neg hc hf
      refine lv_iconst (v := (0 : Int32)) hx hb dX12_readStep_21 (by decide) ?_
      exact tX12_readStep_22 X z rc hrc S a1 z1 (0 : Int32) hf _ _ _ hP hD hS (lv_sub hl [1, 2, 0] rfl)
    · have hf := tc_pos hc hf
      refine lv_iconst (v := (1 : Int32)) hx hb dX12_readStep_17 (by decide) ?_
      refine lv_goto (tgt := 22) hx hb dX12_readStep_18 (by decide) ?_
      exact tX12_readStep_22 X z rc hrc S a1 z1 (1 : Int32) hf _ _ _ hP hD hS (lv_sub hl [1, 2, 0] rfl)
theorem mX12_readStep (d : Nat) {q : Nat → Nat}  : ∀ {S : ms_T} {a1 : Int32} {z : ms_T}, fX12_readStep d S a1 = some z → tc_MV l dC dI ca yX12_readStep cX12_readStep 5 none (rmX12_readStep d) [.ref (q 0), .int (a1)] (w12 ca q S) (w12 ca q z) := by
  induction d with
  | zero => intro S a1 z hf; exact absurd (show none = some z from hf) (fun h => by cases h)
  | succ d ih => intro S a1 z hf; exact mX12_readStep_0 ih hf
def fX12_evenings_80    : Nat → ms_T → Int32 → Option (Int32 × ms_T)
  | 0, _, _ => none
  | n + 1, S, v2 =>
    if ((9 : Int32) * (gi S 25)) ≤ v2 then
      some (gi S 25, S)
    else
      if inb ((1550 : Int32) + v2) 1820 = true then
        if inb ((94 : Int32) + v2) 1820 = true then
          fX12_evenings_80 n (sa S 5 ((94 : Int32) + v2) (ia S 5 ((1550 : Int32) + v2))) (v2 + (1 : Int32))
        else none
      else none
def fX12_evenings_50    (S : ms_T) : Option (Int32 × ms_T) :=
  (fX12_isWell S).bind fun z2 =>
  if z2.1 = 0 then
    some ((-1 : Int32), z2.2)
  else
    fX12_evenings_80 FU (sa (sa z2.2 5 (92 : Int32) (1 : Int32)) 5 (93 : Int32) (gi (sa z2.2 5 (92 : Int32) (1 : Int32)) 25)) (0 : Int32)
def fX12_evenings_28    : Nat → ms_T → Option (Int32 × ms_T)
  | 0, _ => none
  | n + 1, S =>
    if (gi S 12) = 0 then
      if (gi S 14) = 0 then
        fX12_evenings_50 S
      else
        (fX12_readStep 6 S (0 : Int32)).bind fun z5 =>
        fX12_evenings_28 n z5
    else
      fX12_evenings_50 S
def fX12_evenings  (S : ms_T) (a1 : Int32) : Option (Int32 × ms_T) :=
  (fX12_starts (si (si S 1 (0 : Int32)) 0 (0 : Int32)) a1 (300 : Int32)).bind fun z1 =>
  if z1.1 = 0 then
    some ((-1 : Int32), z1.2)
  else
    fX12_evenings_28 FU (si z1.2 25 (0 : Int32))
abbrev rmX12_evenings : Room := { frames := 15, cells := 0, slots := 0, locals := 345 }
theorem okX12_evenings : tc_ok yX12_evenings cX12_evenings 3 (some .int) 1 := ⟨wc_X12_evenings, wn_X12, by decide, by decide, by decide +kernel⟩
set_option maxRecDepth 20000 in
theorem tX12_evenings_80 {q : Nat → Nat}  (X : tc_X dC dI ca A RX12 cX12_evenings 3 (some .int) p s m args meth c) (z : Int32 × ms_T)     : ∀ n : Nat, ∀ (S : ms_T) (v2 : Int32), fX12_evenings_80 n S v2 = some z → ∀ (H : Heap) (locs : List Loc) (ls : Array Slot), va_P (dC, dI) classes (w12 ca q S) H → va_D A (w12 ca q S) → va_S A s.heap H locs → lv_has ls 3 [(0, .ref (q 0)), (2, .int (v2))] → W p l e rmX12_evenings s m args below meth c H locs 0 0 (MQ below (tc_QI dC dI ca A (w12 ca q z.2) (z.1)) args s 0 0 A) (F0 m 80 ls []) := by
  obtain ⟨hx, hb, hr, hml, hown, hts, hlk, hK, hA, hG⟩ := id X
  intro n
  induction n with
  | zero => intro S v2 hf; exact absurd (show none = some z from hf) (fun h => by cases h)
  | succ n ih =>
    intro S v2 hf H locs ls hP hD hS hl
    rw [fX12_evenings_80] at hf
    refine lv_iload_n hx hb dX12_evenings_80 rfl (lv_at hl 1 rfl) ?_
    refine lv_bipush (v := (9 : Int32)) hx hb dX12_evenings_81 (by decide) ?_
    refine lv_aload_n hx hb dX12_evenings_83 rfl (lv_at hl 0 rfl) ?_
    refine va_get (D := (dC, dI)) (ci := 12) (v := .int (gi S 25)) (C := RX12) (T := TX12) (N := 49) hx hb hts i_X12 hown hK hP 0 rfl rfl 25 (by decide) (hts _ wf_X12_319) (fun _ h9 => h9) rfl dX12_evenings_84 ?_
    refine lv_imul hx hb dX12_evenings_87 ?_
    refine lv_icmp_ge (tgt := 116) hx hb dX12_evenings_88 (by decide) (fun hc => ?_) (fun hc => ?_)
    · have hf := tc_pos hc hf
      refine lv_aload_n hx hb dX12_evenings_116 rfl (lv_at hl 0 rfl) ?_
      refine va_get (D := (dC, dI)) (ci := 12) (v := .int (gi S 25)) (C := RX12) (T := TX12) (N := 49) hx hb hts i_X12 hown hK hP 0 rfl rfl 25 (by decide) (hts _ wf_X12_319) (fun _ h9 => h9) rfl dX12_evenings_117 ?_
      obtain rfl := Option.some.inj hf
      exact tc_ri X hP hD hS rfl dX12_evenings_120 rfl rfl
    · have hf := tc_neg hc hf
      refine lv_aload_n hx hb dX12_evenings_91 rfl (lv_at hl 0 rfl) ?_
      refine va_get (D := (dC, dI)) (ci := 12) (v := .ref (q 5)) (C := RX12) (T := TX12) (N := 49) hx hb hts i_X12 hown hK hP 0 rfl rfl 20 (by decide) (hts _ wf_X12_35) (fun _ h9 => h9) rfl dX12_evenings_92 ?_
      refine lv_bipush (v := (94 : Int32)) hx hb dX12_evenings_95 (by decide) ?_
      refine lv_iload_n hx hb dX12_evenings_97 rfl (lv_at hl 1 rfl) ?_
      refine lv_iadd hx hb dX12_evenings_98 ?_
      refine lv_aload_n hx hb dX12_evenings_99 rfl (lv_at hl 0 rfl) ?_
      refine va_get (D := (dC, dI)) (ci := 12) (v := .ref (q 5)) (C := RX12) (T := TX12) (N := 49) hx hb hts i_X12 hown hK hP 0 rfl rfl 20 (by decide) (hts _ wf_X12_35) (fun _ h9 => h9) rfl dX12_evenings_100 ?_
      refine lv_sipush (v := (1550 : Int32)) hx hb dX12_evenings_103 (by decide) ?_
      refine lv_iload_n hx hb dX12_evenings_106 rfl (lv_at hl 1 rfl) ?_
      refine lv_iadd hx hb dX12_evenings_107 ?_
      obtain ⟨hi3, hf⟩ := tc_in hf
      refine va_iald hx hb hK hP 5 1 rfl rfl hi3 dX12_evenings_108 ?_
      obtain ⟨hi4, hf⟩ := tc_in hf
      refine va_iast hx hb hK hP hD hS 5 1 rfl rfl hi4 dX12_evenings_109 (fun H locs hP hD hS => ?_)
      have hP := tc_eP (aw12_0_5 ca q S ((94 : Int32) + v2) (ia S 5 ((1550 : Int32) + v2))) hP
      have hD := tc_eD (aw12_0_5 ca q S ((94 : Int32) + v2) (ia S 5 ((1550 : Int32) + v2))) hD
      refine lv_iinc (v := v2 + (1 : Int32)) (lv' := [(2, .int (v2 + (1 : Int32))), (0, .ref (q 0))]) hx hb dX12_evenings_110 hl (k := 1) rfl rfl (by decide) rfl (fun ls hl => ?_)
      refine lv_goto (tgt := 80) hx hb dX12_evenings_113 (by decide) ?_
      exact ih (sa S 5 ((94 : Int32) + v2) (ia S 5 ((1550 : Int32) + v2))) (v2 + (1 : Int32)) hf _ _ _ hP hD hS (lv_sub hl [1, 0] rfl)
set_option maxRecDepth 20000 in
theorem tX12_evenings_50 {q : Nat → Nat}  (X : tc_X dC dI ca A RX12 cX12_evenings 3 (some .int) p s m args meth c) (z : Int32 × ms_T)     : ∀ (S : ms_T), fX12_evenings_50 S = some z → ∀ (H : Heap) (locs : List Loc) (ls : Array Slot), va_P (dC, dI) classes (w12 ca q S) H → va_D A (w12 ca q S) → va_S A s.heap H locs → lv_has ls 3 [(0, .ref (q 0))] → W p l e rmX12_evenings s m args below meth c H locs 0 0 (MQ below (tc_QI dC dI ca A (w12 ca q z.2) (z.1)) args s 0 0 A) (F0 m 50 ls []) := by
  obtain ⟨hx, hb, hr, hml, hown, hts, hlk, hK, hA, hG⟩ := id X
  intro S hf H locs ls hP hD hS hl
  unfold fX12_evenings_50 at hf
  refine lv_aload_n hx hb dX12_evenings_50 rfl (lv_at hl 0 rfl) ?_
  obtain ⟨z2, hg, hf⟩ := tc_bi hf
  refine tc_iVs (As := []) (rest := []) (b := q 0) X hP hD hS (mX12_isWell hg) okX12_isWell wl_X12_310 wi_X12_isWell ws_X12_X12_isWell_X12_isWell ⟨rfl, rfl, Nat.le_of_ble_eq_true rfl, Nat.le_of_ble_eq_true rfl⟩ 12 0 rfl rfl rfl hl.1 (Nat.le_of_ble_eq_true rfl) dX12_evenings_51 (fun H locs hP hD hS => ?_)
  refine lv_if_ne (tgt := 59) hx hb dX12_evenings_54 (by decide) (fun hc => ?_) (fun hc => ?_)
  · have hf := tc_neg hc hf
    refine lv_aload_n hx hb dX12_evenings_59 rfl (lv_at hl 0 rfl) ?_
    refine va_get (D := (dC, dI)) (ci := 12) (v := .ref (q 5)) (C := RX12) (T := TX12) (N := 49) hx hb hts i_X12 hown hK hP 0 rfl rfl 20 (by decide) (hts _ wf_X12_35) (fun _ h9 => h9) rfl dX12_evenings_60 ?_
    refine lv_bipush (v := (92 : Int32)) hx hb dX12_evenings_63 (by decide) ?_
    refine lv_iconst (v := (1 : Int32)) hx hb dX12_evenings_65 (by decide) ?_
    refine va_iast hx hb hK hP hD hS 5 1 rfl rfl (inb_vp (by decide)) dX12_evenings_66 (fun H locs hP hD hS => ?_)
    have hP := tc_eP (aw12_0_5 ca q z2.2 (92 : Int32) (1 : Int32)) hP
    have hD := tc_eD (aw12_0_5 ca q z2.2 (92 : Int32) (1 : Int32)) hD
    refine lv_aload_n hx hb dX12_evenings_67 rfl (lv_at hl 0 rfl) ?_
    refine va_get (D := (dC, dI)) (ci := 12) (v := .ref (q 5)) (C := RX12) (T := TX12) (N := 49) hx hb hts i_X12 hown hK hP 0 rfl rfl 20 (by decide) (hts _ wf_X12_35) (fun _ h9 => h9) rfl dX12_evenings_68 ?_
    refine lv_bipush (v := (93 : Int32)) hx hb dX12_evenings_71 (by decide) ?_
    refine lv_aload_n hx hb dX12_evenings_73 rfl (lv_at hl 0 rfl) ?_
    refine va_get (D := (dC, dI)) (ci := 12) (v := .int (gi (sa z2.2 5 (92 : Int32) (1 : Int32)) 25)) (C := RX12) (T := TX12) (N := 49) hx hb hts i_X12 hown hK hP 0 rfl rfl 25 (by decide) (hts _ wf_X12_319) (fun _ h9 => h9) rfl dX12_evenings_74 ?_
    refine va_iast hx hb hK hP hD hS 5 1 rfl rfl (inb_vp (by decide)) dX12_evenings_77 (fun H locs hP hD hS => ?_)
    have hP := tc_eP (aw12_0_5 ca q (sa z2.2 5 (92 : Int32) (1 : Int32)) (93 : Int32) (gi (sa z2.2 5 (92 : Int32) (1 : Int32)) 25)) hP
    have hD := tc_eD (aw12_0_5 ca q (sa z2.2 5 (92 : Int32) (1 : Int32)) (93 : Int32) (gi (sa z2.2 5 (92 : Int32) (1 : Int32)) 25)) hD
    refine lv_iconst (v := (0 : Int32)) hx hb dX12_evenings_78 (by decide) ?_
    refine lv_istore_n (lv' := [(2, .int ((0 : Int32))), (0, .ref (q 0))]) hx hb dX12_evenings_79 rfl hl (by decide) rfl (fun ls hl => ?_)
    exact tX12_evenings_80 X z FU (sa (sa z2.2 5 (92 : Int32) (1 : Int32)) 5 (93 : Int32) (gi (sa z2.2 5 (92 : Int32) (1 : Int32)) 25)) (0 : Int32) hf _ _ _ hP hD hS (lv_sub hl [1, 0] rfl)
  · have hf := tc_pos hc hf
    refine lv_iconst (v := (-1 : Int32)) hx hb dX12_evenings_57 (by decide) ?_
    obtain rfl := Option.some.inj hf
    exact tc_ri X hP hD hS rfl dX12_evenings_58 rfl rfl
set_option maxRecDepth 20000 in
theorem tX12_evenings_28 {q : Nat → Nat}  (X : tc_X dC dI ca A RX12 cX12_evenings 3 (some .int) p s m args meth c) (z : Int32 × ms_T)     : ∀ n : Nat, ∀ (S : ms_T), fX12_evenings_28 n S = some z → ∀ (H : Heap) (locs : List Loc) (ls : Array Slot), va_P (dC, dI) classes (w12 ca q S) H → va_D A (w12 ca q S) → va_S A s.heap H locs → lv_has ls 3 [(0, .ref (q 0))] → W p l e rmX12_evenings s m args below meth c H locs 0 0 (MQ below (tc_QI dC dI ca A (w12 ca q z.2) (z.1)) args s 0 0 A) (F0 m 28 ls []) := by
  obtain ⟨hx, hb, hr, hml, hown, hts, hlk, hK, hA, hG⟩ := id X
  intro n
  induction n with
  | zero => intro S hf; exact absurd (show none = some z from hf) (fun h => by cases h)
  | succ n ih =>
    intro S hf H locs ls hP hD hS hl
    rw [fX12_evenings_28] at hf
    refine lv_aload_n hx hb dX12_evenings_28 rfl (lv_at hl 0 rfl) ?_
    refine va_get (D := (dC, dI)) (ci := 12) (v := .int (gi S 12)) (C := RX12) (T := TX12) (N := 49) hx hb hts i_X12 hown hK hP 0 rfl rfl 12 (by decide) (hts _ wf_X12_206) (fun _ h9 => h9) rfl dX12_evenings_29 ?_
    refine lv_if_ne (tgt := 50) hx hb dX12_evenings_32 (by decide) (fun hc => ?_) (fun hc => ?_)
    · have hf := tc_neg hc hf
      exact tX12_evenings_50 X z S hf _ _ _ hP hD hS (lv_sub hl [0] rfl)
    · have hf := tc_pos hc hf
      refine lv_aload_n hx hb dX12_evenings_35 rfl (lv_at hl 0 rfl) ?_
      refine va_get (D := (dC, dI)) (ci := 12) (v := .int (gi S 14)) (C := RX12) (T := TX12) (N := 49) hx hb hts i_X12 hown hK hP 0 rfl rfl 14 (by decide) (hts _ wf_X12_118) (fun _ h9 => h9) rfl dX12_evenings_36 ?_
      refine lv_if_eq (tgt := 50) hx hb dX12_evenings_39 (by decide) (fun hc => ?_) (fun hc => ?_)
      · have hf := tc_pos hc hf
        exact tX12_evenings_50 X z S hf _ _ _ hP hD hS (lv_sub hl [0] rfl)
      · have hf := tc_neg hc hf
        refine lv_aload_n hx hb dX12_evenings_42 rfl (lv_at hl 0 rfl) ?_
        refine lv_iconst (v := (0 : Int32)) hx hb dX12_evenings_43 (by decide) ?_
        obtain ⟨z5, hg, hf⟩ := tc_bi hf
        refine tc_vVs (As := [.int ((0 : Int32))]) (rest := []) (b := q 0) X hP hD hS (mX12_readStep 6 hg) okX12_readStep wl_X12_325 wi_X12_readStep ws_X12_X12_readStep_X12_readStep ⟨rfl, rfl, Nat.le_of_ble_eq_true rfl, Nat.le_of_ble_eq_true rfl⟩ 12 0 rfl rfl rfl hl.1 (Nat.le_of_ble_eq_true rfl) dX12_evenings_44 (fun H locs hP hD hS => ?_)
        refine lv_goto (tgt := 28) hx hb dX12_evenings_47 (by decide) ?_
        exact ih z5 hf _ _ _ hP hD hS (lv_sub hl [0] rfl)
set_option maxRecDepth 20000 in
theorem mX12_evenings {q : Nat → Nat}  {S : ms_T} {a1 : Int32} {z : Int32 × ms_T}  (hf : fX12_evenings S a1 = some z) : tc_MI l dC dI ca yX12_evenings cX12_evenings 3 (some .int) rmX12_evenings [.ref (q 0), .int (a1)] (w12 ca q S) (w12 ca q z.2) (z.1) := by
  refine tc_metI (own := RX12) (by decide) rfl ?_ (Nat.le_of_ble_eq_true rfl)
  intro p e s m below meth c A X hP hD hS ls hl
  obtain ⟨hx, hb, hr, hml, hown, hts, hlk, hK, hA, hG⟩ := id X
  unfold fX12_evenings at hf
  have hl : lv_has ls 3 [(0, .ref (q 0)), (1, .int (a1))] := hl
  refine lv_aload_n hx hb dX12_evenings_0 rfl (lv_at hl 0 rfl) ?_
  refine lv_iconst (v := (0 : Int32)) hx hb dX12_evenings_1 (by decide) ?_
  refine va_put (D := (dC, dI)) (ci := 12) (v := .int ((0 : Int32))) (ty := .int) (C := RX12) (T := TX12) (N := 49) hx hb hts i_X12 tyX12 tyX12_ok nmX12 hown hK hP hD hS 0 rfl rfl 1 (by decide) (hts _ wf_X12_63) (fun _ h9 => h9) rfl (tyX12_ok 1 (by decide)) rfl rfl (Nat.le_of_ble_eq_true rfl) dX12_evenings_2 (fun H locs hP hD hS => ?_)
  have hP := tc_eP (pw12_0_1 ca q S (0 : Int32)) hP
  have hD := tc_eD (pw12_0_1 ca q S (0 : Int32)) hD
  refine lv_aload_n hx hb dX12_evenings_5 rfl (lv_at hl 0 rfl) ?_
  refine lv_iconst (v := (0 : Int32)) hx hb dX12_evenings_6 (by decide) ?_
  refine va_put (D := (dC, dI)) (ci := 12) (v := .int ((0 : Int32))) (ty := .int) (C := RX12) (T := TX12) (N := 49) hx hb hts i_X12 tyX12 tyX12_ok nmX12 hown hK hP hD hS 0 rfl rfl 0 (by decide) (hts _ wf_X12_66) (fun _ h9 => h9) rfl (tyX12_ok 0 (by decide)) rfl rfl (Nat.le_of_ble_eq_true rfl) dX12_evenings_7 (fun H locs hP hD hS => ?_)
  have hP := tc_eP (pw12_0_0 ca q (si S 1 (0 : Int32)) (0 : Int32)) hP
  have hD := tc_eD (pw12_0_0 ca q (si S 1 (0 : Int32)) (0 : Int32)) hD
  refine lv_aload_n hx hb dX12_evenings_10 rfl (lv_at hl 0 rfl) ?_
  refine lv_iload_n hx hb dX12_evenings_11 rfl (lv_at hl 1 rfl) ?_
  refine lv_sipush (v := (300 : Int32)) hx hb dX12_evenings_12 (by decide) ?_
  obtain ⟨z1, hg, hf⟩ := tc_bi hf
  refine tc_iVs (As := [.int (a1), .int ((300 : Int32))]) (rest := []) (b := q 0) X hP hD hS (mX12_starts hg) okX12_starts wl_X12_301 wi_X12_starts ws_X12_X12_starts_X12_starts ⟨rfl, rfl, Nat.le_of_ble_eq_true rfl, Nat.le_of_ble_eq_true rfl⟩ 12 0 rfl rfl rfl hl.1 (Nat.le_of_ble_eq_true rfl) dX12_evenings_15 (fun H locs hP hD hS => ?_)
  refine lv_if_ne (tgt := 23) hx hb dX12_evenings_18 (by decide) (fun hc => ?_) (fun hc => ?_)
  · have hf := tc_neg hc hf
    refine lv_aload_n hx hb dX12_evenings_23 rfl (lv_at hl 0 rfl) ?_
    refine lv_iconst (v := (0 : Int32)) hx hb dX12_evenings_24 (by decide) ?_
    refine va_put (D := (dC, dI)) (ci := 12) (v := .int ((0 : Int32))) (ty := .int) (C := RX12) (T := TX12) (N := 49) hx hb hts i_X12 tyX12 tyX12_ok nmX12 hown hK hP hD hS 0 rfl rfl 25 (by decide) (hts _ wf_X12_319) (fun _ h9 => h9) rfl (tyX12_ok 25 (by decide)) rfl rfl (Nat.le_of_ble_eq_true rfl) dX12_evenings_25 (fun H locs hP hD hS => ?_)
    have hP := tc_eP (pw12_0_25 ca q z1.2 (0 : Int32)) hP
    have hD := tc_eD (pw12_0_25 ca q z1.2 (0 : Int32)) hD
    exact tX12_evenings_28 X z FU (si z1.2 25 (0 : Int32)) hf _ _ _ hP hD hS (lv_sub hl [0] rfl)
  · have hf := tc_pos hc hf
    refine lv_iconst (v := (-1 : Int32)) hx hb dX12_evenings_21 (by decide) ?_
    obtain rfl := Option.some.inj hf
    exact tc_ri X hP hD hS rfl dX12_evenings_22 rfl rfl
def fX12_isTopicAt  (S : ms_T) (a1 : Int32) : Option (Int32) :=
  (fX12_isIn a1.toInt64 (0 : Int64) (((ia S 5 (0 : Int32)) - (1 : Int32)).toInt64)).bind fun z1 =>
  if z1 &&& 1 = z1 then
    some (z1)
  else none
abbrev rmX12_isTopicAt : Room := { frames := 1, cells := 0, slots := 0, locals := 25 }
theorem okX12_isTopicAt : tc_ok yX12_isTopicAt cX12_isTopicAt 2 (some .boolean) 1 := ⟨wc_X12_isTopicAt, wn_X12, by decide, by decide, by decide +kernel⟩
set_option maxRecDepth 20000 in
theorem mX12_isTopicAt {q : Nat → Nat}  {S : ms_T} {a1 : Int32} {z : Int32}  (hf : fX12_isTopicAt S a1 = some z) : tc_MI l dC dI ca yX12_isTopicAt cX12_isTopicAt 2 (some .boolean) rmX12_isTopicAt [.ref (q 0), .int (a1)] (w12 ca q S) (w12 ca q S) (z) := by
  refine tc_metI (own := RX12) (by decide) rfl ?_ (Nat.le_of_ble_eq_true rfl)
  intro p e s m below meth c A X hP hD hS ls hl
  obtain ⟨hx, hb, hr, hml, hown, hts, hlk, hK, hA, hG⟩ := id X
  unfold fX12_isTopicAt at hf
  have hl : lv_has ls 2 [(0, .ref (q 0)), (1, .int (a1))] := hl
  refine lv_iload_n hx hb dX12_isTopicAt_0 rfl (lv_at hl 1 rfl) ?_
  refine lv_i2l (v := a1.toInt64) hx hb dX12_isTopicAt_1 rfl ?_
  refine lv_lconst (v := (0 : Int64)) hx hb dX12_isTopicAt_2 (by decide) ?_
  refine lv_aload_n hx hb dX12_isTopicAt_3 rfl (lv_at hl 0 rfl) ?_
  refine va_get (D := (dC, dI)) (ci := 12) (v := .ref (q 5)) (C := RX12) (T := TX12) (N := 49) hx hb hts i_X12 hown hK hP 0 rfl rfl 20 (by decide) (hts _ wf_X12_35) (fun _ h9 => h9) rfl dX12_isTopicAt_4 ?_
  refine lv_iconst (v := (0 : Int32)) hx hb dX12_isTopicAt_7 (by decide) ?_
  refine va_iald hx hb hK hP 5 1 rfl rfl (inb_vp (by decide)) dX12_isTopicAt_8 ?_
  refine lv_iconst (v := (1 : Int32)) hx hb dX12_isTopicAt_9 (by decide) ?_
  refine lv_isub hx hb dX12_isTopicAt_10 ?_
  refine lv_i2l (v := ((ia S 5 (0 : Int32)) - (1 : Int32)).toInt64) hx hb dX12_isTopicAt_11 rfl ?_
  obtain ⟨z1, hg, hf⟩ := tc_bi hf
  refine tc_iS0 (As := [.long (a1.toInt64), .long ((0 : Int64)), .long (((ia S 5 (0 : Int32)) - (1 : Int32)).toInt64)]) (rest := []) X hP hD hS (mX12_isIn hg) okX12_isIn wl_X12_98 wt_X12_isIn ⟨rfl, rfl, Nat.le_of_ble_eq_true rfl, Nat.le_of_ble_eq_true rfl⟩ rfl hl.1 (Nat.le_of_ble_eq_true rfl) dX12_isTopicAt_12 (fun H locs hP hD hS => ?_)
  obtain ⟨hz1, hf⟩ := tc_ck hf
  obtain rfl := Option.some.inj hf
  exact tc_rz X hP hD hS rfl dX12_isTopicAt_15 hz1 rfl rfl
def fX12_isClaimAt  (S : ms_T) (a1 : Int32) : Option (Int32) :=
  (fX12_isIn a1.toInt64 (0 : Int64) (((ia S 5 (1 : Int32)) - (1 : Int32)).toInt64)).bind fun z1 =>
  if z1 &&& 1 = z1 then
    some (z1)
  else none
abbrev rmX12_isClaimAt : Room := { frames := 1, cells := 0, slots := 0, locals := 25 }
theorem okX12_isClaimAt : tc_ok yX12_isClaimAt cX12_isClaimAt 2 (some .boolean) 1 := ⟨wc_X12_isClaimAt, wn_X12, by decide, by decide, by decide +kernel⟩
set_option maxRecDepth 20000 in
theorem mX12_isClaimAt {q : Nat → Nat}  {S : ms_T} {a1 : Int32} {z : Int32}  (hf : fX12_isClaimAt S a1 = some z) : tc_MI l dC dI ca yX12_isClaimAt cX12_isClaimAt 2 (some .boolean) rmX12_isClaimAt [.ref (q 0), .int (a1)] (w12 ca q S) (w12 ca q S) (z) := by
  refine tc_metI (own := RX12) (by decide) rfl ?_ (Nat.le_of_ble_eq_true rfl)
  intro p e s m below meth c A X hP hD hS ls hl
  obtain ⟨hx, hb, hr, hml, hown, hts, hlk, hK, hA, hG⟩ := id X
  unfold fX12_isClaimAt at hf
  have hl : lv_has ls 2 [(0, .ref (q 0)), (1, .int (a1))] := hl
  refine lv_iload_n hx hb dX12_isClaimAt_0 rfl (lv_at hl 1 rfl) ?_
  refine lv_i2l (v := a1.toInt64) hx hb dX12_isClaimAt_1 rfl ?_
  refine lv_lconst (v := (0 : Int64)) hx hb dX12_isClaimAt_2 (by decide) ?_
  refine lv_aload_n hx hb dX12_isClaimAt_3 rfl (lv_at hl 0 rfl) ?_
  refine va_get (D := (dC, dI)) (ci := 12) (v := .ref (q 5)) (C := RX12) (T := TX12) (N := 49) hx hb hts i_X12 hown hK hP 0 rfl rfl 20 (by decide) (hts _ wf_X12_35) (fun _ h9 => h9) rfl dX12_isClaimAt_4 ?_
  refine lv_iconst (v := (1 : Int32)) hx hb dX12_isClaimAt_7 (by decide) ?_
  refine va_iald hx hb hK hP 5 1 rfl rfl (inb_vp (by decide)) dX12_isClaimAt_8 ?_
  refine lv_iconst (v := (1 : Int32)) hx hb dX12_isClaimAt_9 (by decide) ?_
  refine lv_isub hx hb dX12_isClaimAt_10 ?_
  refine lv_i2l (v := ((ia S 5 (1 : Int32)) - (1 : Int32)).toInt64) hx hb dX12_isClaimAt_11 rfl ?_
  obtain ⟨z1, hg, hf⟩ := tc_bi hf
  refine tc_iS0 (As := [.long (a1.toInt64), .long ((0 : Int64)), .long (((ia S 5 (1 : Int32)) - (1 : Int32)).toInt64)]) (rest := []) X hP hD hS (mX12_isIn hg) okX12_isIn wl_X12_98 wt_X12_isIn ⟨rfl, rfl, Nat.le_of_ble_eq_true rfl, Nat.le_of_ble_eq_true rfl⟩ rfl hl.1 (Nat.le_of_ble_eq_true rfl) dX12_isClaimAt_12 (fun H locs hP hD hS => ?_)
  obtain ⟨hz1, hf⟩ := tc_ck hf
  obtain rfl := Option.some.inj hf
  exact tc_rz X hP hD hS rfl dX12_isClaimAt_15 hz1 rfl rfl
def fX12_isTalkerAt  (S : ms_T) (a1 : Int32) : Option (Int32) :=
  (fX12_isIn a1.toInt64 (0 : Int64) (((ia S 5 (2 : Int32)) - (1 : Int32)).toInt64)).bind fun z1 =>
  if z1 &&& 1 = z1 then
    some (z1)
  else none
abbrev rmX12_isTalkerAt : Room := { frames := 1, cells := 0, slots := 0, locals := 25 }
theorem okX12_isTalkerAt : tc_ok yX12_isTalkerAt cX12_isTalkerAt 2 (some .boolean) 1 := ⟨wc_X12_isTalkerAt, wn_X12, by decide, by decide, by decide +kernel⟩
set_option maxRecDepth 20000 in
theorem mX12_isTalkerAt {q : Nat → Nat}  {S : ms_T} {a1 : Int32} {z : Int32}  (hf : fX12_isTalkerAt S a1 = some z) : tc_MI l dC dI ca yX12_isTalkerAt cX12_isTalkerAt 2 (some .boolean) rmX12_isTalkerAt [.ref (q 0), .int (a1)] (w12 ca q S) (w12 ca q S) (z) := by
  refine tc_metI (own := RX12) (by decide) rfl ?_ (Nat.le_of_ble_eq_true rfl)
  intro p e s m below meth c A X hP hD hS ls hl
  obtain ⟨hx, hb, hr, hml, hown, hts, hlk, hK, hA, hG⟩ := id X
  unfold fX12_isTalkerAt at hf
  have hl : lv_has ls 2 [(0, .ref (q 0)), (1, .int (a1))] := hl
  refine lv_iload_n hx hb dX12_isTalkerAt_0 rfl (lv_at hl 1 rfl) ?_
  refine lv_i2l (v := a1.toInt64) hx hb dX12_isTalkerAt_1 rfl ?_
  refine lv_lconst (v := (0 : Int64)) hx hb dX12_isTalkerAt_2 (by decide) ?_
  refine lv_aload_n hx hb dX12_isTalkerAt_3 rfl (lv_at hl 0 rfl) ?_
  refine va_get (D := (dC, dI)) (ci := 12) (v := .ref (q 5)) (C := RX12) (T := TX12) (N := 49) hx hb hts i_X12 hown hK hP 0 rfl rfl 20 (by decide) (hts _ wf_X12_35) (fun _ h9 => h9) rfl dX12_isTalkerAt_4 ?_
  refine lv_iconst (v := (2 : Int32)) hx hb dX12_isTalkerAt_7 (by decide) ?_
  refine va_iald hx hb hK hP 5 1 rfl rfl (inb_vp (by decide)) dX12_isTalkerAt_8 ?_
  refine lv_iconst (v := (1 : Int32)) hx hb dX12_isTalkerAt_9 (by decide) ?_
  refine lv_isub hx hb dX12_isTalkerAt_10 ?_
  refine lv_i2l (v := ((ia S 5 (2 : Int32)) - (1 : Int32)).toInt64) hx hb dX12_isTalkerAt_11 rfl ?_
  obtain ⟨z1, hg, hf⟩ := tc_bi hf
  refine tc_iS0 (As := [.long (a1.toInt64), .long ((0 : Int64)), .long (((ia S 5 (2 : Int32)) - (1 : Int32)).toInt64)]) (rest := []) X hP hD hS (mX12_isIn hg) okX12_isIn wl_X12_98 wt_X12_isIn ⟨rfl, rfl, Nat.le_of_ble_eq_true rfl, Nat.le_of_ble_eq_true rfl⟩ rfl hl.1 (Nat.le_of_ble_eq_true rfl) dX12_isTalkerAt_12 (fun H locs hP hD hS => ?_)
  obtain ⟨hz1, hf⟩ := tc_ck hf
  obtain rfl := Option.some.inj hf
  exact tc_rz X hP hD hS rfl dX12_isTalkerAt_15 hz1 rfl rfl
def fX12_isHeight  (S : ms_T) (a1 : Int32) : Option (Int32) :=
  (fX12_isIn a1.toInt64 (0 : Int64) ((ia S 5 (0 : Int32)).toInt64)).bind fun z1 =>
  if z1 &&& 1 = z1 then
    some (z1)
  else none
abbrev rmX12_isHeight : Room := { frames := 1, cells := 0, slots := 0, locals := 25 }
theorem okX12_isHeight : tc_ok yX12_isHeight cX12_isHeight 2 (some .boolean) 1 := ⟨wc_X12_isHeight, wn_X12, by decide, by decide, by decide +kernel⟩
set_option maxRecDepth 20000 in
theorem mX12_isHeight {q : Nat → Nat}  {S : ms_T} {a1 : Int32} {z : Int32}  (hf : fX12_isHeight S a1 = some z) : tc_MI l dC dI ca yX12_isHeight cX12_isHeight 2 (some .boolean) rmX12_isHeight [.ref (q 0), .int (a1)] (w12 ca q S) (w12 ca q S) (z) := by
  refine tc_metI (own := RX12) (by decide) rfl ?_ (Nat.le_of_ble_eq_true rfl)
  intro p e s m below meth c A X hP hD hS ls hl
  obtain ⟨hx, hb, hr, hml, hown, hts, hlk, hK, hA, hG⟩ := id X
  unfold fX12_isHeight at hf
  have hl : lv_has ls 2 [(0, .ref (q 0)), (1, .int (a1))] := hl
  refine lv_iload_n hx hb dX12_isHeight_0 rfl (lv_at hl 1 rfl) ?_
  refine lv_i2l (v := a1.toInt64) hx hb dX12_isHeight_1 rfl ?_
  refine lv_lconst (v := (0 : Int64)) hx hb dX12_isHeight_2 (by decide) ?_
  refine lv_aload_n hx hb dX12_isHeight_3 rfl (lv_at hl 0 rfl) ?_
  refine va_get (D := (dC, dI)) (ci := 12) (v := .ref (q 5)) (C := RX12) (T := TX12) (N := 49) hx hb hts i_X12 hown hK hP 0 rfl rfl 20 (by decide) (hts _ wf_X12_35) (fun _ h9 => h9) rfl dX12_isHeight_4 ?_
  refine lv_iconst (v := (0 : Int32)) hx hb dX12_isHeight_7 (by decide) ?_
  refine va_iald hx hb hK hP 5 1 rfl rfl (inb_vp (by decide)) dX12_isHeight_8 ?_
  refine lv_i2l (v := (ia S 5 (0 : Int32)).toInt64) hx hb dX12_isHeight_9 rfl ?_
  obtain ⟨z1, hg, hf⟩ := tc_bi hf
  refine tc_iS0 (As := [.long (a1.toInt64), .long ((0 : Int64)), .long ((ia S 5 (0 : Int32)).toInt64)]) (rest := []) X hP hD hS (mX12_isIn hg) okX12_isIn wl_X12_98 wt_X12_isIn ⟨rfl, rfl, Nat.le_of_ble_eq_true rfl, Nat.le_of_ble_eq_true rfl⟩ rfl hl.1 (Nat.le_of_ble_eq_true rfl) dX12_isHeight_10 (fun H locs hP hD hS => ?_)
  obtain ⟨hz1, hf⟩ := tc_ck hf
  obtain rfl := Option.some.inj hf
  exact tc_rz X hP hD hS rfl dX12_isHeight_13 hz1 rfl rfl
def fX12_standing_70  (S : ms_T) (k5 : Int32 → Int32 → Int32 → Int32 → Option (Int32)) (v1 : Int32) (v2 : Int32) (v3 : Int32) (v4 : Int32) (t0 : Int32) : Option (Int32) :=
  if t0 = 0 then
    k5 v1 v2 (v3 ||| (0 : Int32)) (v4 + (1 : Int32))
  else
    (fX12_has v2 v4).bind fun z3 =>
    if z3 = 0 then
      k5 v1 v2 (v3 ||| ((1 : Int32) <<< (v4 &&& 31))) (v4 + (1 : Int32))
    else
      k5 v1 v2 (v3 ||| (0 : Int32)) (v4 + (1 : Int32))
def fX12_standing_5  (S : ms_T)  : Nat → Int32 → Int32 → Int32 → Int32 → Option (Int32)
  | 0, _, _, _, _ => none
  | n + 1, v1, v2, v3, v4 =>
    if (ia S 5 (1 : Int32)) ≤ v4 then
      some (v3)
    else
      if inb ((32 : Int32) + v4) 1820 = true then
        if inb ((40 : Int32) + v4) 1820 = true then
          if (ia S 5 ((40 : Int32) + v4)) = (1 : Int32) then
            fX12_standing_70 S (fX12_standing_5 S n) v1 v2 v3 v4 (1 : Int32)
          else
            (fX12_has v1 v4).bind fun z4 =>
            if z4 = 0 then
              if (ia S 5 ((32 : Int32) + v4)) = 0 then
                fX12_standing_70 S (fX12_standing_5 S n) v1 v2 v3 v4 (0 : Int32)
              else
                if ((ia S 5 ((32 : Int32) + v4)) &&& (v3 ^^^ (-1 : Int32))) = 0 then
                  fX12_standing_70 S (fX12_standing_5 S n) v1 v2 v3 v4 (1 : Int32)
                else
                  fX12_standing_70 S (fX12_standing_5 S n) v1 v2 v3 v4 (0 : Int32)
            else
              fX12_standing_70 S (fX12_standing_5 S n) v1 v2 v3 v4 (1 : Int32)
        else none
      else none
def fX12_standing  (S : ms_T) (a1 : Int32) (a2 : Int32) : Option (Int32) :=
  fX12_standing_5 S FU a1 a2 (0 : Int32) (0 : Int32)
abbrev rmX12_standing : Room := { frames := 1, cells := 0, slots := 0, locals := 21 }
theorem okX12_standing : tc_ok yX12_standing cX12_standing 7 (some .int) 2 := ⟨wc_X12_standing, wn_X12, by decide, by decide, by decide +kernel⟩
set_option maxRecDepth 20000 in
theorem tX12_standing_70 {q : Nat → Nat}  (X : tc_X dC dI ca A RX12 cX12_standing 7 (some .int) p s m args meth c) (z : Int32)  (S : ms_T) (k5 : Int32 → Int32 → Int32 → Int32 → Option (Int32)) (hk5 : ∀ (v1 : Int32) (v2 : Int32) (v3 : Int32) (v4 : Int32), k5 v1 v2 v3 v4 = some z → ∀ (H : Heap) (locs : List Loc) (ls : Array Slot), va_P (dC, dI) classes (w12 ca q S) H → va_D A (w12 ca q S) → va_S A s.heap H locs → lv_has ls 7 [(0, .ref (q 0)), (1, .int (v1)), (2, .int (v2)), (3, .int (v3)), (4, .int (v4))] → W p l e rmX12_standing s m args below meth c H locs 0 0 (MQ below (tc_QI dC dI ca A (w12 ca q S) (z)) args s 0 0 A) (F0 m 5 ls [])) : ∀ (v1 : Int32) (v2 : Int32) (v3 : Int32) (v4 : Int32) (t0 : Int32), fX12_standing_70 S k5 v1 v2 v3 v4 t0 = some z → ∀ (H : Heap) (locs : List Loc) (ls : Array Slot), va_P (dC, dI) classes (w12 ca q S) H → va_D A (w12 ca q S) → va_S A s.heap H locs → lv_has ls 7 [(0, .ref (q 0)), (1, .int (v1)), (2, .int (v2)), (3, .int (v3)), (4, .int (v4))] → W p l e rmX12_standing s m args below meth c H locs 0 0 (MQ below (tc_QI dC dI ca A (w12 ca q S) (z)) args s 0 0 A) (F0 m 70 ls [.int (t0)]) := by
  obtain ⟨hx, hb, hr, hml, hown, hts, hlk, hK, hA, hG⟩ := id X
  intro v1 v2 v3 v4 t0 hf H locs ls hP hD hS hl
  unfold fX12_standing_70 at hf
  refine lv_istore (lv' := [(6, .int (t0)), (0, .ref (q 0)), (1, .int (v1)), (2, .int (v2)), (3, .int (v3)), (4, .int (v4))]) hx hb dX12_standing_70 hl (by decide) rfl (fun ls hl => ?_)
  refine lv_iload_n hx hb dX12_standing_72 rfl (lv_at hl 4 rfl) ?_
  refine lv_iload hx hb dX12_standing_73 (lv_at hl 0 rfl) ?_
  refine lv_if_eq (tgt := 94) hx hb dX12_standing_75 (by decide) (fun hc => ?_) (fun hc => ?_)
  · have hf := tc_pos hc hf
    refine lv_iconst (v := (0 : Int32)) hx hb dX12_standing_94 (by decide) ?_
    refine lv_ior hx hb dX12_standing_95 ?_
    refine lv_istore_n (lv' := [(3, .int (v3 ||| (0 : Int32))), (6, .int (t0)), (0, .ref (q 0)), (1, .int (v1)), (2, .int (v2)), (4, .int (v4))]) hx hb dX12_standing_96 rfl hl (by decide) rfl (fun ls hl => ?_)
    refine lv_iinc (v := v4 + (1 : Int32)) (lv' := [(4, .int (v4 + (1 : Int32))), (3, .int (v3 ||| (0 : Int32))), (6, .int (t0)), (0, .ref (q 0)), (1, .int (v1)), (2, .int (v2))]) hx hb dX12_standing_97 hl (k := 5) rfl rfl (by decide) rfl (fun ls hl => ?_)
    refine lv_goto (tgt := 5) hx hb dX12_standing_100 (by decide) ?_
    exact hk5 v1 v2 (v3 ||| (0 : Int32)) (v4 + (1 : Int32)) hf _ _ _ hP hD hS (lv_sub hl [3, 4, 5, 1, 0] rfl)
  · have hf := tc_neg hc hf
    refine lv_iload_n hx hb dX12_standing_78 rfl (lv_at hl 3 rfl) ?_
    refine lv_iload hx hb dX12_standing_79 (lv_at hl 5 rfl) ?_
    obtain ⟨z3, hg, hf⟩ := tc_bi hf
    refine tc_iS0 (As := [.int (v2), .int (v4)]) (rest := [.int (v3)]) X hP hD hS (mX12_has hg) okX12_has wl_X12_102 wt_X12_has ⟨rfl, rfl, Nat.le_of_ble_eq_true rfl, Nat.le_of_ble_eq_true rfl⟩ rfl hl.1 (Nat.le_of_ble_eq_true rfl) dX12_standing_81 (fun H locs hP hD hS => ?_)
    refine lv_if_ne (tgt := 94) hx hb dX12_standing_84 (by decide) (fun hc => ?_) (fun hc => ?_)
    · have hf := tc_neg hc hf
      refine lv_iconst (v := (0 : Int32)) hx hb dX12_standing_94 (by decide) ?_
      refine lv_ior hx hb dX12_standing_95 ?_
      refine lv_istore_n (lv' := [(3, .int (v3 ||| (0 : Int32))), (6, .int (t0)), (0, .ref (q 0)), (1, .int (v1)), (2, .int (v2)), (4, .int (v4))]) hx hb dX12_standing_96 rfl hl (by decide) rfl (fun ls hl => ?_)
      refine lv_iinc (v := v4 + (1 : Int32)) (lv' := [(4, .int (v4 + (1 : Int32))), (3, .int (v3 ||| (0 : Int32))), (6, .int (t0)), (0, .ref (q 0)), (1, .int (v1)), (2, .int (v2))]) hx hb dX12_standing_97 hl (k := 5) rfl rfl (by decide) rfl (fun ls hl => ?_)
      refine lv_goto (tgt := 5) hx hb dX12_standing_100 (by decide) ?_
      exact hk5 v1 v2 (v3 ||| (0 : Int32)) (v4 + (1 : Int32)) hf _ _ _ hP hD hS (lv_sub hl [3, 4, 5, 1, 0] rfl)
    · have hf := tc_pos hc hf
      refine lv_iconst (v := (1 : Int32)) hx hb dX12_standing_87 (by decide) ?_
      refine lv_iload hx hb dX12_standing_88 (lv_at hl 5 rfl) ?_
      refine lv_ishl hx hb dX12_standing_90 ?_
      refine lv_goto (tgt := 95) hx hb dX12_standing_91 (by decide) ?_
      refine lv_ior hx hb dX12_standing_95 ?_
      refine lv_istore_n (lv' := [(3, .int (v3 ||| ((1 : Int32) <<< (v4 &&& 31)))), (6, .int (t0)), (0, .ref (q 0)), (1, .int (v1)), (2, .int (v2)), (4, .int (v4))]) hx hb dX12_standing_96 rfl hl (by decide) rfl (fun ls hl => ?_)
      refine lv_iinc (v := v4 + (1 : Int32)) (lv' := [(4, .int (v4 + (1 : Int32))), (3, .int (v3 ||| ((1 : Int32) <<< (v4 &&& 31)))), (6, .int (t0)), (0, .ref (q 0)), (1, .int (v1)), (2, .int (v2))]) hx hb dX12_standing_97 hl (k := 5) rfl rfl (by decide) rfl (fun ls hl => ?_)
      refine lv_goto (tgt := 5) hx hb dX12_standing_100 (by decide) ?_
      exact hk5 v1 v2 (v3 ||| ((1 : Int32) <<< (v4 &&& 31))) (v4 + (1 : Int32)) hf _ _ _ hP hD hS (lv_sub hl [3, 4, 5, 1, 0] rfl)
set_option maxRecDepth 20000 in
theorem tX12_standing_5 {q : Nat → Nat}  (X : tc_X dC dI ca A RX12 cX12_standing 7 (some .int) p s m args meth c) (z : Int32)  (S : ms_T)   : ∀ n : Nat, ∀ (v1 : Int32) (v2 : Int32) (v3 : Int32) (v4 : Int32), fX12_standing_5 S n v1 v2 v3 v4 = some z → ∀ (H : Heap) (locs : List Loc) (ls : Array Slot), va_P (dC, dI) classes (w12 ca q S) H → va_D A (w12 ca q S) → va_S A s.heap H locs → lv_has ls 7 [(0, .ref (q 0)), (1, .int (v1)), (2, .int (v2)), (3, .int (v3)), (4, .int (v4))] → W p l e rmX12_standing s m args below meth c H locs 0 0 (MQ below (tc_QI dC dI ca A (w12 ca q S) (z)) args s 0 0 A) (F0 m 5 ls []) := by
  obtain ⟨hx, hb, hr, hml, hown, hts, hlk, hK, hA, hG⟩ := id X
  intro n
  induction n with
  | zero => intro v1 v2 v3 v4 hf; exact absurd (show none = some z from hf) (fun h => by cases h)
  | succ n ih =>
    intro v1 v2 v3 v4 hf H locs ls hP hD hS hl
    rw [fX12_standing_5] at hf
    refine lv_iload hx hb dX12_standing_5 (lv_at hl 4 rfl) ?_
    refine lv_aload_n hx hb dX12_standing_7 rfl (lv_at hl 0 rfl) ?_
    refine va_get (D := (dC, dI)) (ci := 12) (v := .ref (q 5)) (C := RX12) (T := TX12) (N := 49) hx hb hts i_X12 hown hK hP 0 rfl rfl 20 (by decide) (hts _ wf_X12_35) (fun _ h9 => h9) rfl dX12_standing_8 ?_
    refine lv_iconst (v := (1 : Int32)) hx hb dX12_standing_11 (by decide) ?_
    refine va_iald hx hb hK hP 5 1 rfl rfl (inb_vp (by decide)) dX12_standing_12 ?_
    refine lv_icmp_ge (tgt := 103) hx hb dX12_standing_13 (by decide) (fun hc => ?_) (fun hc => ?_)
    · have hf := tc_pos hc hf
      refine lv_iload_n hx hb dX12_standing_103 rfl (lv_at hl 3 rfl) ?_
      obtain rfl := Option.some.inj hf
      exact tc_ri X hP hD hS rfl dX12_standing_104 rfl rfl
    · have hf := tc_neg hc hf
      refine lv_aload_n hx hb dX12_standing_16 rfl (lv_at hl 0 rfl) ?_
      refine va_get (D := (dC, dI)) (ci := 12) (v := .ref (q 5)) (C := RX12) (T := TX12) (N := 49) hx hb hts i_X12 hown hK hP 0 rfl rfl 20 (by decide) (hts _ wf_X12_35) (fun _ h9 => h9) rfl dX12_standing_17 ?_
      refine lv_bipush (v := (32 : Int32)) hx hb dX12_standing_20 (by decide) ?_
      refine lv_iload hx hb dX12_standing_22 (lv_at hl 4 rfl) ?_
      refine lv_iadd hx hb dX12_standing_24 ?_
      obtain ⟨hi1, hf⟩ := tc_in hf
      refine va_iald hx hb hK hP 5 1 rfl rfl hi1 dX12_standing_25 ?_
      refine lv_istore (lv' := [(5, .int (ia S 5 ((32 : Int32) + v4))), (0, .ref (q 0)), (1, .int (v1)), (2, .int (v2)), (3, .int (v3)), (4, .int (v4))]) hx hb dX12_standing_26 hl (by decide) rfl (fun ls hl => ?_)
      refine lv_aload_n hx hb dX12_standing_28 rfl (lv_at hl 1 rfl) ?_
      refine va_get (D := (dC, dI)) (ci := 12) (v := .ref (q 5)) (C := RX12) (T := TX12) (N := 49) hx hb hts i_X12 hown hK hP 0 rfl rfl 20 (by decide) (hts _ wf_X12_35) (fun _ h9 => h9) rfl dX12_standing_29 ?_
      refine lv_bipush (v := (40 : Int32)) hx hb dX12_standing_32 (by decide) ?_
      refine lv_iload hx hb dX12_standing_34 (lv_at hl 5 rfl) ?_
      refine lv_iadd hx hb dX12_standing_36 ?_
      obtain ⟨hi2, hf⟩ := tc_in hf
      refine va_iald hx hb hK hP 5 1 rfl rfl hi2 dX12_standing_37 ?_
      refine lv_iconst (v := (1 : Int32)) hx hb dX12_standing_38 (by decide) ?_
      refine lv_icmp_eq (tgt := 65) hx hb dX12_standing_39 (by decide) (fun hc => ?_) (fun hc => ?_)
      · have hf := tc_pos hc hf
        refine lv_iconst (v := (1 : Int32)) hx hb dX12_standing_65 (by decide) ?_
        refine lv_goto (tgt := 70) hx hb dX12_standing_66 (by decide) ?_
        exact tX12_standing_70 X z S (fX12_standing_5 S n) ih v1 v2 v3 v4 (1 : Int32) hf _ _ _ hP hD hS (lv_sub hl [1, 2, 3, 4, 5] rfl)
      · have hf := tc_neg hc hf
        refine lv_iload_n hx hb dX12_standing_42 rfl (lv_at hl 2 rfl) ?_
        refine lv_iload hx hb dX12_standing_43 (lv_at hl 5 rfl) ?_
        obtain ⟨z4, hg, hf⟩ := tc_bi hf
        refine tc_iS0 (As := [.int (v1), .int (v4)]) (rest := []) X hP hD hS (mX12_has hg) okX12_has wl_X12_102 wt_X12_has ⟨rfl, rfl, Nat.le_of_ble_eq_true rfl, Nat.le_of_ble_eq_true rfl⟩ rfl hl.1 (Nat.le_of_ble_eq_true rfl) dX12_standing_45 (fun H locs hP hD hS => ?_)
        refine lv_if_ne (tgt := 65) hx hb dX12_standing_48 (by decide) (fun hc => ?_) (fun hc => ?_)
        · have hf := tc_neg hc hf
          refine lv_iconst (v := (1 : Int32)) hx hb dX12_standing_65 (by decide) ?_
          refine lv_goto (tgt := 70) hx hb dX12_standing_66 (by decide) ?_
          exact tX12_standing_70 X z S (fX12_standing_5 S n) ih v1 v2 v3 v4 (1 : Int32) hf _ _ _ hP hD hS (lv_sub hl [1, 2, 3, 4, 5] rfl)
        · have hf := tc_pos hc hf
          refine lv_iload hx hb dX12_standing_51 (lv_at hl 0 rfl) ?_
          refine lv_if_eq (tgt := 69) hx hb dX12_standing_53 (by decide) (fun hc => ?_) (fun hc => ?_)
          · have hf := tc_pos hc hf
            refine lv_iconst (v := (0 : Int32)) hx hb dX12_standing_69 (by decide) ?_
            exact tX12_standing_70 X z S (fX12_standing_5 S n) ih v1 v2 v3 v4 (0 : Int32) hf _ _ _ hP hD hS (lv_sub hl [1, 2, 3, 4, 5] rfl)
          · have hf := tc_neg hc hf
            refine lv_iload hx hb dX12_standing_56 (lv_at hl 0 rfl) ?_
            refine lv_iload_n hx hb dX12_standing_58 rfl (lv_at hl 4 rfl) ?_
            refine lv_iconst (v := (-1 : Int32)) hx hb dX12_standing_59 (by decide) ?_
            refine lv_ixor hx hb dX12_standing_60 ?_
            refine lv_iand hx hb dX12_standing_61 ?_
            refine lv_if_ne (tgt := 69) hx hb dX12_standing_62 (by decide) (fun hc => ?_) (fun hc => ?_)
            · have hf := tc_neg hc hf
              refine lv_iconst (v := (0 : Int32)) hx hb dX12_standing_69 (by decide) ?_
              exact tX12_standing_70 X z S (fX12_standing_5 S n) ih v1 v2 v3 v4 (0 : Int32) hf _ _ _ hP hD hS (lv_sub hl [1, 2, 3, 4, 5] rfl)
            · have hf := tc_pos hc hf
              refine lv_iconst (v := (1 : Int32)) hx hb dX12_standing_65 (by decide) ?_
              refine lv_goto (tgt := 70) hx hb dX12_standing_66 (by decide) ?_
              exact tX12_standing_70 X z S (fX12_standing_5 S n) ih v1 v2 v3 v4 (1 : Int32) hf _ _ _ hP hD hS (lv_sub hl [1, 2, 3, 4, 5] rfl)
set_option maxRecDepth 20000 in
theorem mX12_standing {q : Nat → Nat}  {S : ms_T} {a1 : Int32} {a2 : Int32} {z : Int32}  (hf : fX12_standing S a1 a2 = some z) : tc_MI l dC dI ca yX12_standing cX12_standing 7 (some .int) rmX12_standing [.ref (q 0), .int (a1), .int (a2)] (w12 ca q S) (w12 ca q S) (z) := by
  refine tc_metI (own := RX12) (by decide) rfl ?_ (Nat.le_of_ble_eq_true rfl)
  intro p e s m below meth c A X hP hD hS ls hl
  obtain ⟨hx, hb, hr, hml, hown, hts, hlk, hK, hA, hG⟩ := id X
  unfold fX12_standing at hf
  have hl : lv_has ls 7 [(0, .ref (q 0)), (1, .int (a1)), (2, .int (a2))] := hl
  refine lv_iconst (v := (0 : Int32)) hx hb dX12_standing_0 (by decide) ?_
  refine lv_istore_n (lv' := [(3, .int ((0 : Int32))), (0, .ref (q 0)), (1, .int (a1)), (2, .int (a2))]) hx hb dX12_standing_1 rfl hl (by decide) rfl (fun ls hl => ?_)
  refine lv_iconst (v := (0 : Int32)) hx hb dX12_standing_2 (by decide) ?_
  refine lv_istore (lv' := [(4, .int ((0 : Int32))), (3, .int ((0 : Int32))), (0, .ref (q 0)), (1, .int (a1)), (2, .int (a2))]) hx hb dX12_standing_3 hl (by decide) rfl (fun ls hl => ?_)
  exact tX12_standing_5 X z S FU a1 a2 (0 : Int32) (0 : Int32) hf _ _ _ hP hD hS (lv_sub hl [2, 3, 4, 1, 0] rfl)
def fX12_isHollow  (S : ms_T) (a1 : Int32) : Option (Int32) :=
  (fX12_standing S (0 : Int32) (0 : Int32)).bind fun z1 =>
  (fX12_has z1 a1).bind fun z2 =>
  if z2 = 0 then
    some ((1 : Int32))
  else
    some ((0 : Int32))
abbrev rmX12_isHollow : Room := { frames := 2, cells := 0, slots := 0, locals := 47 }
theorem okX12_isHollow : tc_ok yX12_isHollow cX12_isHollow 2 (some .boolean) 1 := ⟨wc_X12_isHollow, wn_X12, by decide, by decide, by decide +kernel⟩
set_option maxRecDepth 20000 in
theorem mX12_isHollow {q : Nat → Nat}  {S : ms_T} {a1 : Int32} {z : Int32}  (hf : fX12_isHollow S a1 = some z) : tc_MI l dC dI ca yX12_isHollow cX12_isHollow 2 (some .boolean) rmX12_isHollow [.ref (q 0), .int (a1)] (w12 ca q S) (w12 ca q S) (z) := by
  refine tc_metI (own := RX12) (by decide) rfl ?_ (Nat.le_of_ble_eq_true rfl)
  intro p e s m below meth c A X hP hD hS ls hl
  obtain ⟨hx, hb, hr, hml, hown, hts, hlk, hK, hA, hG⟩ := id X
  unfold fX12_isHollow at hf
  have hl : lv_has ls 2 [(0, .ref (q 0)), (1, .int (a1))] := hl
  refine lv_aload_n hx hb dX12_isHollow_0 rfl (lv_at hl 0 rfl) ?_
  refine lv_iconst (v := (0 : Int32)) hx hb dX12_isHollow_1 (by decide) ?_
  refine lv_iconst (v := (0 : Int32)) hx hb dX12_isHollow_2 (by decide) ?_
  obtain ⟨z1, hg, hf⟩ := tc_bi hf
  refine tc_iVs (As := [.int ((0 : Int32)), .int ((0 : Int32))]) (rest := []) (b := q 0) X hP hD hS (mX12_standing hg) okX12_standing wl_X12_328 wi_X12_standing ws_X12_X12_standing_X12_standing ⟨rfl, rfl, Nat.le_of_ble_eq_true rfl, Nat.le_of_ble_eq_true rfl⟩ 12 0 rfl rfl rfl hl.1 (Nat.le_of_ble_eq_true rfl) dX12_isHollow_3 (fun H locs hP hD hS => ?_)
  refine lv_iload_n hx hb dX12_isHollow_6 rfl (lv_at hl 1 rfl) ?_
  obtain ⟨z2, hg, hf⟩ := tc_bi hf
  refine tc_iS0 (As := [.int (z1), .int (a1)]) (rest := []) X hP hD hS (mX12_has hg) okX12_has wl_X12_102 wt_X12_has ⟨rfl, rfl, Nat.le_of_ble_eq_true rfl, Nat.le_of_ble_eq_true rfl⟩ rfl hl.1 (Nat.le_of_ble_eq_true rfl) dX12_isHollow_7 (fun H locs hP hD hS => ?_)
  refine lv_if_ne (tgt := 17) hx hb dX12_isHollow_10 (by decide) (fun hc => ?_) (fun hc => ?_)
  · have hf := tc_neg hc hf
    refine lv_iconst (v := (0 : Int32)) hx hb dX12_isHollow_17 (by decide) ?_
    obtain rfl := Option.some.inj hf
    exact tc_rz X hP hD hS rfl dX12_isHollow_18 (by decide) rfl rfl
  · have hf := tc_pos hc hf
    refine lv_iconst (v := (1 : Int32)) hx hb dX12_isHollow_13 (by decide) ?_
    refine lv_goto (tgt := 18) hx hb dX12_isHollow_14 (by decide) ?_
    obtain rfl := Option.some.inj hf
    exact tc_rz X hP hD hS rfl dX12_isHollow_18 (by decide) rfl rfl
def fX12_propped_4  (S : ms_T)  : Nat → Int32 → Int32 → Option (Int32)
  | 0, _, _ => none
  | n + 1, v1, v2 =>
    if (ia S 5 (1 : Int32)) ≤ v2 then
      some (v1)
    else
      if inb ((40 : Int32) + v2) 1820 = true then
        fX12_propped_4 S n (v1 ||| ((ia S 5 ((40 : Int32) + v2)) <<< (v2 &&& 31))) (v2 + (1 : Int32))
      else none
def fX12_propped  (S : ms_T)  : Option (Int32) :=
  fX12_propped_4 S FU (0 : Int32) (0 : Int32)
abbrev rmX12_propped : Room := { frames := 0, cells := 0, slots := 0, locals := 0 }
theorem okX12_propped : tc_ok yX12_propped cX12_propped 3 (some .int) 0 := ⟨wc_X12_propped, wn_X12, by decide, by decide, by decide +kernel⟩
set_option maxRecDepth 20000 in
theorem tX12_propped_4 {q : Nat → Nat}  (X : tc_X dC dI ca A RX12 cX12_propped 3 (some .int) p s m args meth c) (z : Int32)  (S : ms_T)   : ∀ n : Nat, ∀ (v1 : Int32) (v2 : Int32), fX12_propped_4 S n v1 v2 = some z → ∀ (H : Heap) (locs : List Loc) (ls : Array Slot), va_P (dC, dI) classes (w12 ca q S) H → va_D A (w12 ca q S) → va_S A s.heap H locs → lv_has ls 3 [(0, .ref (q 0)), (1, .int (v1)), (2, .int (v2))] → W p l e rmX12_propped s m args below meth c H locs 0 0 (MQ below (tc_QI dC dI ca A (w12 ca q S) (z)) args s 0 0 A) (F0 m 4 ls []) := by
  obtain ⟨hx, hb, hr, hml, hown, hts, hlk, hK, hA, hG⟩ := id X
  intro n
  induction n with
  | zero => intro v1 v2 hf; exact absurd (show none = some z from hf) (fun h => by cases h)
  | succ n ih =>
    intro v1 v2 hf H locs ls hP hD hS hl
    rw [fX12_propped_4] at hf
    refine lv_iload_n hx hb dX12_propped_4 rfl (lv_at hl 2 rfl) ?_
    refine lv_aload_n hx hb dX12_propped_5 rfl (lv_at hl 0 rfl) ?_
    refine va_get (D := (dC, dI)) (ci := 12) (v := .ref (q 5)) (C := RX12) (T := TX12) (N := 49) hx hb hts i_X12 hown hK hP 0 rfl rfl 20 (by decide) (hts _ wf_X12_35) (fun _ h9 => h9) rfl dX12_propped_6 ?_
    refine lv_iconst (v := (1 : Int32)) hx hb dX12_propped_9 (by decide) ?_
    refine va_iald hx hb hK hP 5 1 rfl rfl (inb_vp (by decide)) dX12_propped_10 ?_
    refine lv_icmp_ge (tgt := 34) hx hb dX12_propped_11 (by decide) (fun hc => ?_) (fun hc => ?_)
    · have hf := tc_pos hc hf
      refine lv_iload_n hx hb dX12_propped_34 rfl (lv_at hl 1 rfl) ?_
      obtain rfl := Option.some.inj hf
      exact tc_ri X hP hD hS rfl dX12_propped_35 rfl rfl
    · have hf := tc_neg hc hf
      refine lv_iload_n hx hb dX12_propped_14 rfl (lv_at hl 1 rfl) ?_
      refine lv_aload_n hx hb dX12_propped_15 rfl (lv_at hl 0 rfl) ?_
      refine va_get (D := (dC, dI)) (ci := 12) (v := .ref (q 5)) (C := RX12) (T := TX12) (N := 49) hx hb hts i_X12 hown hK hP 0 rfl rfl 20 (by decide) (hts _ wf_X12_35) (fun _ h9 => h9) rfl dX12_propped_16 ?_
      refine lv_bipush (v := (40 : Int32)) hx hb dX12_propped_19 (by decide) ?_
      refine lv_iload_n hx hb dX12_propped_21 rfl (lv_at hl 2 rfl) ?_
      refine lv_iadd hx hb dX12_propped_22 ?_
      obtain ⟨hi1, hf⟩ := tc_in hf
      refine va_iald hx hb hK hP 5 1 rfl rfl hi1 dX12_propped_23 ?_
      refine lv_iload_n hx hb dX12_propped_24 rfl (lv_at hl 2 rfl) ?_
      refine lv_ishl hx hb dX12_propped_25 ?_
      refine lv_ior hx hb dX12_propped_26 ?_
      refine lv_istore_n (lv' := [(1, .int (v1 ||| ((ia S 5 ((40 : Int32) + v2)) <<< (v2 &&& 31)))), (0, .ref (q 0)), (2, .int (v2))]) hx hb dX12_propped_27 rfl hl (by decide) rfl (fun ls hl => ?_)
      refine lv_iinc (v := v2 + (1 : Int32)) (lv' := [(2, .int (v2 + (1 : Int32))), (1, .int (v1 ||| ((ia S 5 ((40 : Int32) + v2)) <<< (v2 &&& 31)))), (0, .ref (q 0))]) hx hb dX12_propped_28 hl (k := 2) rfl rfl (by decide) rfl (fun ls hl => ?_)
      refine lv_goto (tgt := 4) hx hb dX12_propped_31 (by decide) ?_
      exact ih (v1 ||| ((ia S 5 ((40 : Int32) + v2)) <<< (v2 &&& 31))) (v2 + (1 : Int32)) hf _ _ _ hP hD hS (lv_sub hl [2, 1, 0] rfl)
set_option maxRecDepth 20000 in
theorem mX12_propped {q : Nat → Nat}  {S : ms_T}  {z : Int32}  (hf : fX12_propped S = some z) : tc_MI l dC dI ca yX12_propped cX12_propped 3 (some .int) rmX12_propped [.ref (q 0)] (w12 ca q S) (w12 ca q S) (z) := by
  refine tc_metI (own := RX12) (by decide) rfl ?_ (Nat.le_of_ble_eq_true rfl)
  intro p e s m below meth c A X hP hD hS ls hl
  obtain ⟨hx, hb, hr, hml, hown, hts, hlk, hK, hA, hG⟩ := id X
  unfold fX12_propped at hf
  have hl : lv_has ls 3 [(0, .ref (q 0))] := hl
  refine lv_iconst (v := (0 : Int32)) hx hb dX12_propped_0 (by decide) ?_
  refine lv_istore_n (lv' := [(1, .int ((0 : Int32))), (0, .ref (q 0))]) hx hb dX12_propped_1 rfl hl (by decide) rfl (fun ls hl => ?_)
  refine lv_iconst (v := (0 : Int32)) hx hb dX12_propped_2 (by decide) ?_
  refine lv_istore_n (lv' := [(2, .int ((0 : Int32))), (1, .int ((0 : Int32))), (0, .ref (q 0))]) hx hb dX12_propped_3 rfl hl (by decide) rfl (fun ls hl => ?_)
  exact tX12_propped_4 X z S FU (0 : Int32) (0 : Int32) hf _ _ _ hP hD hS (lv_sub hl [2, 1, 0] rfl)
def fX12_falling_4  (S : ms_T)  : Nat → Int32 → Int32 → Option (Int32)
  | 0, _, _ => none
  | n + 1, v1, v2 =>
    if (ia S 5 (2 : Int32)) ≤ v2 then
      some (v1)
    else
      if inb ((60 : Int32) + v2) 1820 = true then
        fX12_falling_4 S n (v1 ||| ((ia S 5 ((60 : Int32) + v2)) <<< (v2 &&& 31))) (v2 + (1 : Int32))
      else none
def fX12_falling  (S : ms_T)  : Option (Int32) :=
  fX12_falling_4 S FU (0 : Int32) (0 : Int32)
abbrev rmX12_falling : Room := { frames := 0, cells := 0, slots := 0, locals := 0 }
theorem okX12_falling : tc_ok yX12_falling cX12_falling 3 (some .int) 0 := ⟨wc_X12_falling, wn_X12, by decide, by decide, by decide +kernel⟩
set_option maxRecDepth 20000 in
theorem tX12_falling_4 {q : Nat → Nat}  (X : tc_X dC dI ca A RX12 cX12_falling 3 (some .int) p s m args meth c) (z : Int32)  (S : ms_T)   : ∀ n : Nat, ∀ (v1 : Int32) (v2 : Int32), fX12_falling_4 S n v1 v2 = some z → ∀ (H : Heap) (locs : List Loc) (ls : Array Slot), va_P (dC, dI) classes (w12 ca q S) H → va_D A (w12 ca q S) → va_S A s.heap H locs → lv_has ls 3 [(0, .ref (q 0)), (1, .int (v1)), (2, .int (v2))] → W p l e rmX12_falling s m args below meth c H locs 0 0 (MQ below (tc_QI dC dI ca A (w12 ca q S) (z)) args s 0 0 A) (F0 m 4 ls []) := by
  obtain ⟨hx, hb, hr, hml, hown, hts, hlk, hK, hA, hG⟩ := id X
  intro n
  induction n with
  | zero => intro v1 v2 hf; exact absurd (show none = some z from hf) (fun h => by cases h)
  | succ n ih =>
    intro v1 v2 hf H locs ls hP hD hS hl
    rw [fX12_falling_4] at hf
    refine lv_iload_n hx hb dX12_falling_4 rfl (lv_at hl 2 rfl) ?_
    refine lv_aload_n hx hb dX12_falling_5 rfl (lv_at hl 0 rfl) ?_
    refine va_get (D := (dC, dI)) (ci := 12) (v := .ref (q 5)) (C := RX12) (T := TX12) (N := 49) hx hb hts i_X12 hown hK hP 0 rfl rfl 20 (by decide) (hts _ wf_X12_35) (fun _ h9 => h9) rfl dX12_falling_6 ?_
    refine lv_iconst (v := (2 : Int32)) hx hb dX12_falling_9 (by decide) ?_
    refine va_iald hx hb hK hP 5 1 rfl rfl (inb_vp (by decide)) dX12_falling_10 ?_
    refine lv_icmp_ge (tgt := 34) hx hb dX12_falling_11 (by decide) (fun hc => ?_) (fun hc => ?_)
    · have hf := tc_pos hc hf
      refine lv_iload_n hx hb dX12_falling_34 rfl (lv_at hl 1 rfl) ?_
      obtain rfl := Option.some.inj hf
      exact tc_ri X hP hD hS rfl dX12_falling_35 rfl rfl
    · have hf := tc_neg hc hf
      refine lv_iload_n hx hb dX12_falling_14 rfl (lv_at hl 1 rfl) ?_
      refine lv_aload_n hx hb dX12_falling_15 rfl (lv_at hl 0 rfl) ?_
      refine va_get (D := (dC, dI)) (ci := 12) (v := .ref (q 5)) (C := RX12) (T := TX12) (N := 49) hx hb hts i_X12 hown hK hP 0 rfl rfl 20 (by decide) (hts _ wf_X12_35) (fun _ h9 => h9) rfl dX12_falling_16 ?_
      refine lv_bipush (v := (60 : Int32)) hx hb dX12_falling_19 (by decide) ?_
      refine lv_iload_n hx hb dX12_falling_21 rfl (lv_at hl 2 rfl) ?_
      refine lv_iadd hx hb dX12_falling_22 ?_
      obtain ⟨hi1, hf⟩ := tc_in hf
      refine va_iald hx hb hK hP 5 1 rfl rfl hi1 dX12_falling_23 ?_
      refine lv_iload_n hx hb dX12_falling_24 rfl (lv_at hl 2 rfl) ?_
      refine lv_ishl hx hb dX12_falling_25 ?_
      refine lv_ior hx hb dX12_falling_26 ?_
      refine lv_istore_n (lv' := [(1, .int (v1 ||| ((ia S 5 ((60 : Int32) + v2)) <<< (v2 &&& 31)))), (0, .ref (q 0)), (2, .int (v2))]) hx hb dX12_falling_27 rfl hl (by decide) rfl (fun ls hl => ?_)
      refine lv_iinc (v := v2 + (1 : Int32)) (lv' := [(2, .int (v2 + (1 : Int32))), (1, .int (v1 ||| ((ia S 5 ((60 : Int32) + v2)) <<< (v2 &&& 31)))), (0, .ref (q 0))]) hx hb dX12_falling_28 hl (k := 2) rfl rfl (by decide) rfl (fun ls hl => ?_)
      refine lv_goto (tgt := 4) hx hb dX12_falling_31 (by decide) ?_
      exact ih (v1 ||| ((ia S 5 ((60 : Int32) + v2)) <<< (v2 &&& 31))) (v2 + (1 : Int32)) hf _ _ _ hP hD hS (lv_sub hl [2, 1, 0] rfl)
set_option maxRecDepth 20000 in
theorem mX12_falling {q : Nat → Nat}  {S : ms_T}  {z : Int32}  (hf : fX12_falling S = some z) : tc_MI l dC dI ca yX12_falling cX12_falling 3 (some .int) rmX12_falling [.ref (q 0)] (w12 ca q S) (w12 ca q S) (z) := by
  refine tc_metI (own := RX12) (by decide) rfl ?_ (Nat.le_of_ble_eq_true rfl)
  intro p e s m below meth c A X hP hD hS ls hl
  obtain ⟨hx, hb, hr, hml, hown, hts, hlk, hK, hA, hG⟩ := id X
  unfold fX12_falling at hf
  have hl : lv_has ls 3 [(0, .ref (q 0))] := hl
  refine lv_iconst (v := (0 : Int32)) hx hb dX12_falling_0 (by decide) ?_
  refine lv_istore_n (lv' := [(1, .int ((0 : Int32))), (0, .ref (q 0))]) hx hb dX12_falling_1 rfl hl (by decide) rfl (fun ls hl => ?_)
  refine lv_iconst (v := (0 : Int32)) hx hb dX12_falling_2 (by decide) ?_
  refine lv_istore_n (lv' := [(2, .int ((0 : Int32))), (1, .int ((0 : Int32))), (0, .ref (q 0))]) hx hb dX12_falling_3 rfl hl (by decide) rfl (fun ls hl => ?_)
  exact tX12_falling_4 X z S FU (0 : Int32) (0 : Int32) hf _ _ _ hP hD hS (lv_sub hl [2, 1, 0] rfl)
def fX12_talkersAt_4  (S : ms_T)  : Nat → Int32 → Int32 → Int32 → Option (Int32)
  | 0, _, _, _ => none
  | n + 1, v1, v2, v3 =>
    if (ia S 5 (2 : Int32)) ≤ v3 then
      some (v2)
    else
      if inb ((54 : Int32) + v3) 1820 = true then
        if (ia S 5 ((54 : Int32) + v3)) = v1 then
          fX12_talkersAt_4 S n v1 (v2 ||| ((1 : Int32) <<< (v3 &&& 31))) (v3 + (1 : Int32))
        else
          fX12_talkersAt_4 S n v1 (v2 ||| (0 : Int32)) (v3 + (1 : Int32))
      else none
def fX12_talkersAt  (S : ms_T) (a1 : Int32) : Option (Int32) :=
  fX12_talkersAt_4 S FU a1 (0 : Int32) (0 : Int32)
abbrev rmX12_talkersAt : Room := { frames := 0, cells := 0, slots := 0, locals := 0 }
theorem okX12_talkersAt : tc_ok yX12_talkersAt cX12_talkersAt 4 (some .int) 1 := ⟨wc_X12_talkersAt, wn_X12, by decide, by decide, by decide +kernel⟩
set_option maxRecDepth 20000 in
theorem tX12_talkersAt_4 {q : Nat → Nat}  (X : tc_X dC dI ca A RX12 cX12_talkersAt 4 (some .int) p s m args meth c) (z : Int32)  (S : ms_T)   : ∀ n : Nat, ∀ (v1 : Int32) (v2 : Int32) (v3 : Int32), fX12_talkersAt_4 S n v1 v2 v3 = some z → ∀ (H : Heap) (locs : List Loc) (ls : Array Slot), va_P (dC, dI) classes (w12 ca q S) H → va_D A (w12 ca q S) → va_S A s.heap H locs → lv_has ls 4 [(0, .ref (q 0)), (1, .int (v1)), (2, .int (v2)), (3, .int (v3))] → W p l e rmX12_talkersAt s m args below meth c H locs 0 0 (MQ below (tc_QI dC dI ca A (w12 ca q S) (z)) args s 0 0 A) (F0 m 4 ls []) := by
  obtain ⟨hx, hb, hr, hml, hown, hts, hlk, hK, hA, hG⟩ := id X
  intro n
  induction n with
  | zero => intro v1 v2 v3 hf; exact absurd (show none = some z from hf) (fun h => by cases h)
  | succ n ih =>
    intro v1 v2 v3 hf H locs ls hP hD hS hl
    rw [fX12_talkersAt_4] at hf
    refine lv_iload_n hx hb dX12_talkersAt_4 rfl (lv_at hl 3 rfl) ?_
    refine lv_aload_n hx hb dX12_talkersAt_5 rfl (lv_at hl 0 rfl) ?_
    refine va_get (D := (dC, dI)) (ci := 12) (v := .ref (q 5)) (C := RX12) (T := TX12) (N := 49) hx hb hts i_X12 hown hK hP 0 rfl rfl 20 (by decide) (hts _ wf_X12_35) (fun _ h9 => h9) rfl dX12_talkersAt_6 ?_
    refine lv_iconst (v := (2 : Int32)) hx hb dX12_talkersAt_9 (by decide) ?_
    refine va_iald hx hb hK hP 5 1 rfl rfl (inb_vp (by decide)) dX12_talkersAt_10 ?_
    refine lv_icmp_ge (tgt := 43) hx hb dX12_talkersAt_11 (by decide) (fun hc => ?_) (fun hc => ?_)
    · have hf := tc_pos hc hf
      refine lv_iload_n hx hb dX12_talkersAt_43 rfl (lv_at hl 2 rfl) ?_
      obtain rfl := Option.some.inj hf
      exact tc_ri X hP hD hS rfl dX12_talkersAt_44 rfl rfl
    · have hf := tc_neg hc hf
      refine lv_iload_n hx hb dX12_talkersAt_14 rfl (lv_at hl 2 rfl) ?_
      refine lv_aload_n hx hb dX12_talkersAt_15 rfl (lv_at hl 0 rfl) ?_
      refine va_get (D := (dC, dI)) (ci := 12) (v := .ref (q 5)) (C := RX12) (T := TX12) (N := 49) hx hb hts i_X12 hown hK hP 0 rfl rfl 20 (by decide) (hts _ wf_X12_35) (fun _ h9 => h9) rfl dX12_talkersAt_16 ?_
      refine lv_bipush (v := (54 : Int32)) hx hb dX12_talkersAt_19 (by decide) ?_
      refine lv_iload_n hx hb dX12_talkersAt_21 rfl (lv_at hl 3 rfl) ?_
      refine lv_iadd hx hb dX12_talkersAt_22 ?_
      obtain ⟨hi1, hf⟩ := tc_in hf
      refine va_iald hx hb hK hP 5 1 rfl rfl hi1 dX12_talkersAt_23 ?_
      refine lv_iload_n hx hb dX12_talkersAt_24 rfl (lv_at hl 1 rfl) ?_
      refine lv_icmp_ne (tgt := 34) hx hb dX12_talkersAt_25 (by decide) (fun hc => ?_) (fun hc => ?_)
      · have hf := tc_neg hc hf
        refine lv_iconst (v := (0 : Int32)) hx hb dX12_talkersAt_34 (by decide) ?_
        refine lv_ior hx hb dX12_talkersAt_35 ?_
        refine lv_istore_n (lv' := [(2, .int (v2 ||| (0 : Int32))), (0, .ref (q 0)), (1, .int (v1)), (3, .int (v3))]) hx hb dX12_talkersAt_36 rfl hl (by decide) rfl (fun ls hl => ?_)
        refine lv_iinc (v := v3 + (1 : Int32)) (lv' := [(3, .int (v3 + (1 : Int32))), (2, .int (v2 ||| (0 : Int32))), (0, .ref (q 0)), (1, .int (v1))]) hx hb dX12_talkersAt_37 hl (k := 3) rfl rfl (by decide) rfl (fun ls hl => ?_)
        refine lv_goto (tgt := 4) hx hb dX12_talkersAt_40 (by decide) ?_
        exact ih v1 (v2 ||| (0 : Int32)) (v3 + (1 : Int32)) hf _ _ _ hP hD hS (lv_sub hl [2, 3, 1, 0] rfl)
      · have hf := tc_pos hc hf
        refine lv_iconst (v := (1 : Int32)) hx hb dX12_talkersAt_28 (by decide) ?_
        refine lv_iload_n hx hb dX12_talkersAt_29 rfl (lv_at hl 3 rfl) ?_
        refine lv_ishl hx hb dX12_talkersAt_30 ?_
        refine lv_goto (tgt := 35) hx hb dX12_talkersAt_31 (by decide) ?_
        refine lv_ior hx hb dX12_talkersAt_35 ?_
        refine lv_istore_n (lv' := [(2, .int (v2 ||| ((1 : Int32) <<< (v3 &&& 31)))), (0, .ref (q 0)), (1, .int (v1)), (3, .int (v3))]) hx hb dX12_talkersAt_36 rfl hl (by decide) rfl (fun ls hl => ?_)
        refine lv_iinc (v := v3 + (1 : Int32)) (lv' := [(3, .int (v3 + (1 : Int32))), (2, .int (v2 ||| ((1 : Int32) <<< (v3 &&& 31)))), (0, .ref (q 0)), (1, .int (v1))]) hx hb dX12_talkersAt_37 hl (k := 3) rfl rfl (by decide) rfl (fun ls hl => ?_)
        refine lv_goto (tgt := 4) hx hb dX12_talkersAt_40 (by decide) ?_
        exact ih v1 (v2 ||| ((1 : Int32) <<< (v3 &&& 31))) (v3 + (1 : Int32)) hf _ _ _ hP hD hS (lv_sub hl [2, 3, 1, 0] rfl)
set_option maxRecDepth 20000 in
theorem mX12_talkersAt {q : Nat → Nat}  {S : ms_T} {a1 : Int32} {z : Int32}  (hf : fX12_talkersAt S a1 = some z) : tc_MI l dC dI ca yX12_talkersAt cX12_talkersAt 4 (some .int) rmX12_talkersAt [.ref (q 0), .int (a1)] (w12 ca q S) (w12 ca q S) (z) := by
  refine tc_metI (own := RX12) (by decide) rfl ?_ (Nat.le_of_ble_eq_true rfl)
  intro p e s m below meth c A X hP hD hS ls hl
  obtain ⟨hx, hb, hr, hml, hown, hts, hlk, hK, hA, hG⟩ := id X
  unfold fX12_talkersAt at hf
  have hl : lv_has ls 4 [(0, .ref (q 0)), (1, .int (a1))] := hl
  refine lv_iconst (v := (0 : Int32)) hx hb dX12_talkersAt_0 (by decide) ?_
  refine lv_istore_n (lv' := [(2, .int ((0 : Int32))), (0, .ref (q 0)), (1, .int (a1))]) hx hb dX12_talkersAt_1 rfl hl (by decide) rfl (fun ls hl => ?_)
  refine lv_iconst (v := (0 : Int32)) hx hb dX12_talkersAt_2 (by decide) ?_
  refine lv_istore_n (lv' := [(3, .int ((0 : Int32))), (2, .int ((0 : Int32))), (0, .ref (q 0)), (1, .int (a1))]) hx hb dX12_talkersAt_3 rfl hl (by decide) rfl (fun ls hl => ?_)
  exact tX12_talkersAt_4 X z S FU a1 (0 : Int32) (0 : Int32) hf _ _ _ hP hD hS (lv_sub hl [2, 3, 1, 0] rfl)
def fX12_many  (S : ms_T) (a1 : Int32) : Option (Int32 × ms_T) :=
  (fX12_isIn a1.toInt64 (0 : Int64) (9 : Int64)).bind fun z1 =>
  if z1 = 0 then
    (fX12_refuse (si (si S 1 (0 : Int32)) 0 (0 : Int32)) (5 : Int32)).bind fun z7 =>
    some (z7.1, z7.2)
  else
    if (6 : Int32) ≤ a1 then
      if a1 = (6 : Int32) then
        (fX12_standing (si (si S 1 (0 : Int32)) 0 (0 : Int32)) (0 : Int32) (0 : Int32)).bind fun z5 =>
        some (z5, si (si S 1 (0 : Int32)) 0 (0 : Int32))
      else
        if a1 = (7 : Int32) then
          (fX12_propped (si (si S 1 (0 : Int32)) 0 (0 : Int32))).bind fun z4 =>
          some (z4, si (si S 1 (0 : Int32)) 0 (0 : Int32))
        else
          if a1 = (8 : Int32) then
            (fX12_falling (si (si S 1 (0 : Int32)) 0 (0 : Int32))).bind fun z3 =>
            some (z3, si (si S 1 (0 : Int32)) 0 (0 : Int32))
          else
            (fX12_talkersAt (si (si S 1 (0 : Int32)) 0 (0 : Int32)) (0 : Int32)).bind fun z2 =>
            some (z2, si (si S 1 (0 : Int32)) 0 (0 : Int32))
    else
      if inb a1 1820 = true then
        some (ia (si (si S 1 (0 : Int32)) 0 (0 : Int32)) 5 a1, si (si S 1 (0 : Int32)) 0 (0 : Int32))
      else none
abbrev rmX12_many : Room := { frames := 2, cells := 0, slots := 0, locals := 47 }
theorem okX12_many : tc_ok yX12_many cX12_many 2 (some .int) 1 := ⟨wc_X12_many, wn_X12, by decide, by decide, by decide +kernel⟩
set_option maxRecDepth 20000 in
theorem mX12_many {q : Nat → Nat}  {S : ms_T} {a1 : Int32} {z : Int32 × ms_T}  (hf : fX12_many S a1 = some z) : tc_MI l dC dI ca yX12_many cX12_many 2 (some .int) rmX12_many [.ref (q 0), .int (a1)] (w12 ca q S) (w12 ca q z.2) (z.1) := by
  refine tc_metI (own := RX12) (by decide) rfl ?_ (Nat.le_of_ble_eq_true rfl)
  intro p e s m below meth c A X hP hD hS ls hl
  obtain ⟨hx, hb, hr, hml, hown, hts, hlk, hK, hA, hG⟩ := id X
  unfold fX12_many at hf
  have hl : lv_has ls 2 [(0, .ref (q 0)), (1, .int (a1))] := hl
  refine lv_aload_n hx hb dX12_many_0 rfl (lv_at hl 0 rfl) ?_
  refine lv_iconst (v := (0 : Int32)) hx hb dX12_many_1 (by decide) ?_
  refine va_put (D := (dC, dI)) (ci := 12) (v := .int ((0 : Int32))) (ty := .int) (C := RX12) (T := TX12) (N := 49) hx hb hts i_X12 tyX12 tyX12_ok nmX12 hown hK hP hD hS 0 rfl rfl 1 (by decide) (hts _ wf_X12_63) (fun _ h9 => h9) rfl (tyX12_ok 1 (by decide)) rfl rfl (Nat.le_of_ble_eq_true rfl) dX12_many_2 (fun H locs hP hD hS => ?_)
  have hP := tc_eP (pw12_0_1 ca q S (0 : Int32)) hP
  have hD := tc_eD (pw12_0_1 ca q S (0 : Int32)) hD
  refine lv_aload_n hx hb dX12_many_5 rfl (lv_at hl 0 rfl) ?_
  refine lv_iconst (v := (0 : Int32)) hx hb dX12_many_6 (by decide) ?_
  refine va_put (D := (dC, dI)) (ci := 12) (v := .int ((0 : Int32))) (ty := .int) (C := RX12) (T := TX12) (N := 49) hx hb hts i_X12 tyX12 tyX12_ok nmX12 hown hK hP hD hS 0 rfl rfl 0 (by decide) (hts _ wf_X12_66) (fun _ h9 => h9) rfl (tyX12_ok 0 (by decide)) rfl rfl (Nat.le_of_ble_eq_true rfl) dX12_many_7 (fun H locs hP hD hS => ?_)
  have hP := tc_eP (pw12_0_0 ca q (si S 1 (0 : Int32)) (0 : Int32)) hP
  have hD := tc_eD (pw12_0_0 ca q (si S 1 (0 : Int32)) (0 : Int32)) hD
  refine lv_iload_n hx hb dX12_many_10 rfl (lv_at hl 1 rfl) ?_
  refine lv_i2l (v := a1.toInt64) hx hb dX12_many_11 rfl ?_
  refine lv_lconst (v := (0 : Int64)) hx hb dX12_many_12 (by decide) ?_
  refine lv_ldc2 (v := (9 : Int64)) hx hb hown (hts _ wk_X12_331) dX12_many_13 ?_
  obtain ⟨z1, hg, hf⟩ := tc_bi hf
  refine tc_iS0 (As := [.long (a1.toInt64), .long ((0 : Int64)), .long ((9 : Int64))]) (rest := []) X hP hD hS (mX12_isIn hg) okX12_isIn wl_X12_98 wt_X12_isIn ⟨rfl, rfl, Nat.le_of_ble_eq_true rfl, Nat.le_of_ble_eq_true rfl⟩ rfl hl.1 (Nat.le_of_ble_eq_true rfl) dX12_many_16 (fun H locs hP hD hS => ?_)
  refine lv_if_ne (tgt := 28) hx hb dX12_many_19 (by decide) (fun hc => ?_) (fun hc => ?_)
  · have hf := tc_neg hc hf
    refine lv_iload_n hx hb dX12_many_28 rfl (lv_at hl 1 rfl) ?_
    refine lv_bipush (v := (6 : Int32)) hx hb dX12_many_29 (by decide) ?_
    refine lv_icmp_ge (tgt := 41) hx hb dX12_many_31 (by decide) (fun hc => ?_) (fun hc => ?_)
    · have hf := tc_pos hc hf
      refine lv_iload_n hx hb dX12_many_41 rfl (lv_at hl 1 rfl) ?_
      refine lv_bipush (v := (6 : Int32)) hx hb dX12_many_42 (by decide) ?_
      refine lv_icmp_ne (tgt := 56) hx hb dX12_many_44 (by decide) (fun hc => ?_) (fun hc => ?_)
      · have hf := tc_neg hc hf
        refine lv_iload_n hx hb dX12_many_56 rfl (lv_at hl 1 rfl) ?_
        refine lv_bipush (v := (7 : Int32)) hx hb dX12_many_57 (by decide) ?_
        refine lv_icmp_ne (tgt := 69) hx hb dX12_many_59 (by decide) (fun hc => ?_) (fun hc => ?_)
        · have hf := tc_neg hc hf
          refine lv_iload_n hx hb dX12_many_69 rfl (lv_at hl 1 rfl) ?_
          refine lv_bipush (v := (8 : Int32)) hx hb dX12_many_70 (by decide) ?_
          refine lv_icmp_ne (tgt := 82) hx hb dX12_many_72 (by decide) (fun hc => ?_) (fun hc => ?_)
          · have hf := tc_neg hc hf
            refine lv_aload_n hx hb dX12_many_82 rfl (lv_at hl 0 rfl) ?_
            refine lv_iconst (v := (0 : Int32)) hx hb dX12_many_83 (by decide) ?_
            obtain ⟨z2, hg, hf⟩ := tc_bi hf
            refine tc_iVs (As := [.int ((0 : Int32))]) (rest := []) (b := q 0) X hP hD hS (mX12_talkersAt hg) okX12_talkersAt wl_X12_342 wi_X12_talkersAt ws_X12_X12_talkersAt_X12_talkersAt ⟨rfl, rfl, Nat.le_of_ble_eq_true rfl, Nat.le_of_ble_eq_true rfl⟩ 12 0 rfl rfl rfl hl.1 (Nat.le_of_ble_eq_true rfl) dX12_many_84 (fun H locs hP hD hS => ?_)
            obtain rfl := Option.some.inj hf
            exact tc_ri X hP hD hS rfl dX12_many_87 rfl rfl
          · have hf := tc_pos hc hf
            refine lv_aload_n hx hb dX12_many_75 rfl (lv_at hl 0 rfl) ?_
            obtain ⟨z3, hg, hf⟩ := tc_bi hf
            refine tc_iVs (As := []) (rest := []) (b := q 0) X hP hD hS (mX12_falling hg) okX12_falling wl_X12_339 wi_X12_falling ws_X12_X12_falling_X12_falling ⟨rfl, rfl, Nat.le_of_ble_eq_true rfl, Nat.le_of_ble_eq_true rfl⟩ 12 0 rfl rfl rfl hl.1 (Nat.le_of_ble_eq_true rfl) dX12_many_76 (fun H locs hP hD hS => ?_)
            refine lv_goto (tgt := 87) hx hb dX12_many_79 (by decide) ?_
            obtain rfl := Option.some.inj hf
            exact tc_ri X hP hD hS rfl dX12_many_87 rfl rfl
        · have hf := tc_pos hc hf
          refine lv_aload_n hx hb dX12_many_62 rfl (lv_at hl 0 rfl) ?_
          obtain ⟨z4, hg, hf⟩ := tc_bi hf
          refine tc_iVs (As := []) (rest := []) (b := q 0) X hP hD hS (mX12_propped hg) okX12_propped wl_X12_336 wi_X12_propped ws_X12_X12_propped_X12_propped ⟨rfl, rfl, Nat.le_of_ble_eq_true rfl, Nat.le_of_ble_eq_true rfl⟩ 12 0 rfl rfl rfl hl.1 (Nat.le_of_ble_eq_true rfl) dX12_many_63 (fun H locs hP hD hS => ?_)
          refine lv_goto (tgt := 87) hx hb dX12_many_66 (by decide) ?_
          obtain rfl := Option.some.inj hf
          exact tc_ri X hP hD hS rfl dX12_many_87 rfl rfl
      · have hf := tc_pos hc hf
        refine lv_aload_n hx hb dX12_many_47 rfl (lv_at hl 0 rfl) ?_
        refine lv_iconst (v := (0 : Int32)) hx hb dX12_many_48 (by decide) ?_
        refine lv_iconst (v := (0 : Int32)) hx hb dX12_many_49 (by decide) ?_
        obtain ⟨z5, hg, hf⟩ := tc_bi hf
        refine tc_iVs (As := [.int ((0 : Int32)), .int ((0 : Int32))]) (rest := []) (b := q 0) X hP hD hS (mX12_standing hg) okX12_standing wl_X12_328 wi_X12_standing ws_X12_X12_standing_X12_standing ⟨rfl, rfl, Nat.le_of_ble_eq_true rfl, Nat.le_of_ble_eq_true rfl⟩ 12 0 rfl rfl rfl hl.1 (Nat.le_of_ble_eq_true rfl) dX12_many_50 (fun H locs hP hD hS => ?_)
        refine lv_goto (tgt := 87) hx hb dX12_many_53 (by decide) ?_
        obtain rfl := Option.some.inj hf
        exact tc_ri X hP hD hS rfl dX12_many_87 rfl rfl
    · have hf := tc_neg hc hf
      refine lv_aload_n hx hb dX12_many_34 rfl (lv_at hl 0 rfl) ?_
      refine va_get (D := (dC, dI)) (ci := 12) (v := .ref (q 5)) (C := RX12) (T := TX12) (N := 49) hx hb hts i_X12 hown hK hP 0 rfl rfl 20 (by decide) (hts _ wf_X12_35) (fun _ h9 => h9) rfl dX12_many_35 ?_
      refine lv_iload_n hx hb dX12_many_38 rfl (lv_at hl 1 rfl) ?_
      obtain ⟨hi6, hf⟩ := tc_in hf
      refine va_iald hx hb hK hP 5 1 rfl rfl hi6 dX12_many_39 ?_
      obtain rfl := Option.some.inj hf
      exact tc_ri X hP hD hS rfl dX12_many_40 rfl rfl
  · have hf := tc_pos hc hf
    refine lv_aload_n hx hb dX12_many_22 rfl (lv_at hl 0 rfl) ?_
    refine lv_iconst (v := (5 : Int32)) hx hb dX12_many_23 (by decide) ?_
    obtain ⟨z7, hg, hf⟩ := tc_bi hf
    refine tc_iVs (As := [.int ((5 : Int32))]) (rest := []) (b := q 0) X hP hD hS (mX12_refuse hg) okX12_refuse wl_X12_333 wi_X12_refuse ws_X12_X12_refuse_X12_refuse ⟨rfl, rfl, Nat.le_of_ble_eq_true rfl, Nat.le_of_ble_eq_true rfl⟩ 12 0 rfl rfl rfl hl.1 (Nat.le_of_ble_eq_true rfl) dX12_many_24 (fun H locs hP hD hS => ?_)
    obtain rfl := Option.some.inj hf
    exact tc_ri X hP hD hS rfl dX12_many_27 rfl rfl
def fX12_claimsAt_4  (S : ms_T)  : Nat → Int32 → Int32 → Int32 → Option (Int32)
  | 0, _, _, _ => none
  | n + 1, v1, v2, v3 =>
    if (ia S 5 (1 : Int32)) ≤ v3 then
      some (v2)
    else
      if inb ((24 : Int32) + v3) 1820 = true then
        if (ia S 5 ((24 : Int32) + v3)) = v1 then
          fX12_claimsAt_4 S n v1 (v2 ||| ((1 : Int32) <<< (v3 &&& 31))) (v3 + (1 : Int32))
        else
          fX12_claimsAt_4 S n v1 (v2 ||| (0 : Int32)) (v3 + (1 : Int32))
      else none
def fX12_claimsAt  (S : ms_T) (a1 : Int32) : Option (Int32) :=
  fX12_claimsAt_4 S FU a1 (0 : Int32) (0 : Int32)
abbrev rmX12_claimsAt : Room := { frames := 0, cells := 0, slots := 0, locals := 0 }
theorem okX12_claimsAt : tc_ok yX12_claimsAt cX12_claimsAt 4 (some .int) 1 := ⟨wc_X12_claimsAt, wn_X12, by decide, by decide, by decide +kernel⟩
set_option maxRecDepth 20000 in
theorem tX12_claimsAt_4 {q : Nat → Nat}  (X : tc_X dC dI ca A RX12 cX12_claimsAt 4 (some .int) p s m args meth c) (z : Int32)  (S : ms_T)   : ∀ n : Nat, ∀ (v1 : Int32) (v2 : Int32) (v3 : Int32), fX12_claimsAt_4 S n v1 v2 v3 = some z → ∀ (H : Heap) (locs : List Loc) (ls : Array Slot), va_P (dC, dI) classes (w12 ca q S) H → va_D A (w12 ca q S) → va_S A s.heap H locs → lv_has ls 4 [(0, .ref (q 0)), (1, .int (v1)), (2, .int (v2)), (3, .int (v3))] → W p l e rmX12_claimsAt s m args below meth c H locs 0 0 (MQ below (tc_QI dC dI ca A (w12 ca q S) (z)) args s 0 0 A) (F0 m 4 ls []) := by
  obtain ⟨hx, hb, hr, hml, hown, hts, hlk, hK, hA, hG⟩ := id X
  intro n
  induction n with
  | zero => intro v1 v2 v3 hf; exact absurd (show none = some z from hf) (fun h => by cases h)
  | succ n ih =>
    intro v1 v2 v3 hf H locs ls hP hD hS hl
    rw [fX12_claimsAt_4] at hf
    refine lv_iload_n hx hb dX12_claimsAt_4 rfl (lv_at hl 3 rfl) ?_
    refine lv_aload_n hx hb dX12_claimsAt_5 rfl (lv_at hl 0 rfl) ?_
    refine va_get (D := (dC, dI)) (ci := 12) (v := .ref (q 5)) (C := RX12) (T := TX12) (N := 49) hx hb hts i_X12 hown hK hP 0 rfl rfl 20 (by decide) (hts _ wf_X12_35) (fun _ h9 => h9) rfl dX12_claimsAt_6 ?_
    refine lv_iconst (v := (1 : Int32)) hx hb dX12_claimsAt_9 (by decide) ?_
    refine va_iald hx hb hK hP 5 1 rfl rfl (inb_vp (by decide)) dX12_claimsAt_10 ?_
    refine lv_icmp_ge (tgt := 43) hx hb dX12_claimsAt_11 (by decide) (fun hc => ?_) (fun hc => ?_)
    · have hf := tc_pos hc hf
      refine lv_iload_n hx hb dX12_claimsAt_43 rfl (lv_at hl 2 rfl) ?_
      obtain rfl := Option.some.inj hf
      exact tc_ri X hP hD hS rfl dX12_claimsAt_44 rfl rfl
    · have hf := tc_neg hc hf
      refine lv_iload_n hx hb dX12_claimsAt_14 rfl (lv_at hl 2 rfl) ?_
      refine lv_aload_n hx hb dX12_claimsAt_15 rfl (lv_at hl 0 rfl) ?_
      refine va_get (D := (dC, dI)) (ci := 12) (v := .ref (q 5)) (C := RX12) (T := TX12) (N := 49) hx hb hts i_X12 hown hK hP 0 rfl rfl 20 (by decide) (hts _ wf_X12_35) (fun _ h9 => h9) rfl dX12_claimsAt_16 ?_
      refine lv_bipush (v := (24 : Int32)) hx hb dX12_claimsAt_19 (by decide) ?_
      refine lv_iload_n hx hb dX12_claimsAt_21 rfl (lv_at hl 3 rfl) ?_
      refine lv_iadd hx hb dX12_claimsAt_22 ?_
      obtain ⟨hi1, hf⟩ := tc_in hf
      refine va_iald hx hb hK hP 5 1 rfl rfl hi1 dX12_claimsAt_23 ?_
      refine lv_iload_n hx hb dX12_claimsAt_24 rfl (lv_at hl 1 rfl) ?_
      refine lv_icmp_ne (tgt := 34) hx hb dX12_claimsAt_25 (by decide) (fun hc => ?_) (fun hc => ?_)
      · have hf := tc_neg hc hf
        refine lv_iconst (v := (0 : Int32)) hx hb dX12_claimsAt_34 (by decide) ?_
        refine lv_ior hx hb dX12_claimsAt_35 ?_
        refine lv_istore_n (lv' := [(2, .int (v2 ||| (0 : Int32))), (0, .ref (q 0)), (1, .int (v1)), (3, .int (v3))]) hx hb dX12_claimsAt_36 rfl hl (by decide) rfl (fun ls hl => ?_)
        refine lv_iinc (v := v3 + (1 : Int32)) (lv' := [(3, .int (v3 + (1 : Int32))), (2, .int (v2 ||| (0 : Int32))), (0, .ref (q 0)), (1, .int (v1))]) hx hb dX12_claimsAt_37 hl (k := 3) rfl rfl (by decide) rfl (fun ls hl => ?_)
        refine lv_goto (tgt := 4) hx hb dX12_claimsAt_40 (by decide) ?_
        exact ih v1 (v2 ||| (0 : Int32)) (v3 + (1 : Int32)) hf _ _ _ hP hD hS (lv_sub hl [2, 3, 1, 0] rfl)
      · have hf := tc_pos hc hf
        refine lv_iconst (v := (1 : Int32)) hx hb dX12_claimsAt_28 (by decide) ?_
        refine lv_iload_n hx hb dX12_claimsAt_29 rfl (lv_at hl 3 rfl) ?_
        refine lv_ishl hx hb dX12_claimsAt_30 ?_
        refine lv_goto (tgt := 35) hx hb dX12_claimsAt_31 (by decide) ?_
        refine lv_ior hx hb dX12_claimsAt_35 ?_
        refine lv_istore_n (lv' := [(2, .int (v2 ||| ((1 : Int32) <<< (v3 &&& 31)))), (0, .ref (q 0)), (1, .int (v1)), (3, .int (v3))]) hx hb dX12_claimsAt_36 rfl hl (by decide) rfl (fun ls hl => ?_)
        refine lv_iinc (v := v3 + (1 : Int32)) (lv' := [(3, .int (v3 + (1 : Int32))), (2, .int (v2 ||| ((1 : Int32) <<< (v3 &&& 31)))), (0, .ref (q 0)), (1, .int (v1))]) hx hb dX12_claimsAt_37 hl (k := 3) rfl rfl (by decide) rfl (fun ls hl => ?_)
        refine lv_goto (tgt := 4) hx hb dX12_claimsAt_40 (by decide) ?_
        exact ih v1 (v2 ||| ((1 : Int32) <<< (v3 &&& 31))) (v3 + (1 : Int32)) hf _ _ _ hP hD hS (lv_sub hl [2, 3, 1, 0] rfl)
set_option maxRecDepth 20000 in
theorem mX12_claimsAt {q : Nat → Nat}  {S : ms_T} {a1 : Int32} {z : Int32}  (hf : fX12_claimsAt S a1 = some z) : tc_MI l dC dI ca yX12_claimsAt cX12_claimsAt 4 (some .int) rmX12_claimsAt [.ref (q 0), .int (a1)] (w12 ca q S) (w12 ca q S) (z) := by
  refine tc_metI (own := RX12) (by decide) rfl ?_ (Nat.le_of_ble_eq_true rfl)
  intro p e s m below meth c A X hP hD hS ls hl
  obtain ⟨hx, hb, hr, hml, hown, hts, hlk, hK, hA, hG⟩ := id X
  unfold fX12_claimsAt at hf
  have hl : lv_has ls 4 [(0, .ref (q 0)), (1, .int (a1))] := hl
  refine lv_iconst (v := (0 : Int32)) hx hb dX12_claimsAt_0 (by decide) ?_
  refine lv_istore_n (lv' := [(2, .int ((0 : Int32))), (0, .ref (q 0)), (1, .int (a1))]) hx hb dX12_claimsAt_1 rfl hl (by decide) rfl (fun ls hl => ?_)
  refine lv_iconst (v := (0 : Int32)) hx hb dX12_claimsAt_2 (by decide) ?_
  refine lv_istore_n (lv' := [(3, .int ((0 : Int32))), (2, .int ((0 : Int32))), (0, .ref (q 0)), (1, .int (a1))]) hx hb dX12_claimsAt_3 rfl hl (by decide) rfl (fun ls hl => ?_)
  exact tX12_claimsAt_4 X z S FU a1 (0 : Int32) (0 : Int32) hf _ _ _ hP hD hS (lv_sub hl [2, 3, 1, 0] rfl)
def fX12_topic  (S : ms_T) (a1 : Int32) (a2 : Int32) : Option (Int32 × ms_T) :=
  (fX12_isTopicAt (si (si S 1 (0 : Int32)) 0 (0 : Int32)) a1).bind fun z1 =>
  if z1 = 0 then
    (fX12_refuse (si (si S 1 (0 : Int32)) 0 (0 : Int32)) (2 : Int32)).bind fun z7 =>
    some (z7.1, z7.2)
  else
    (fX12_isIn a2.toInt64 (0 : Int64) (3 : Int64)).bind fun z2 =>
    if z2 = 0 then
      (fX12_refuse (si (si S 1 (0 : Int32)) 0 (0 : Int32)) (5 : Int32)).bind fun z6 =>
      some (z6.1, z6.2)
    else
      if (2 : Int32) ≤ a2 then
        if a2 = (2 : Int32) then
          (fX12_claimsAt (si (si S 1 (0 : Int32)) 0 (0 : Int32)) a1).bind fun z4 =>
          some (z4, si (si S 1 (0 : Int32)) 0 (0 : Int32))
        else
          (fX12_talkersAt (si (si S 1 (0 : Int32)) 0 (0 : Int32)) (a1 + (1 : Int32))).bind fun z3 =>
          some (z3, si (si S 1 (0 : Int32)) 0 (0 : Int32))
      else
        if inb (((6 : Int32) + ((9 : Int32) * a2)) + a1) 1820 = true then
          some (ia (si (si S 1 (0 : Int32)) 0 (0 : Int32)) 5 (((6 : Int32) + ((9 : Int32) * a2)) + a1), si (si S 1 (0 : Int32)) 0 (0 : Int32))
        else none
abbrev rmX12_topic : Room := { frames := 2, cells := 0, slots := 0, locals := 46 }
theorem okX12_topic : tc_ok yX12_topic cX12_topic 3 (some .int) 2 := ⟨wc_X12_topic, wn_X12, by decide, by decide, by decide +kernel⟩
set_option maxRecDepth 20000 in
theorem mX12_topic {q : Nat → Nat}  {S : ms_T} {a1 : Int32} {a2 : Int32} {z : Int32 × ms_T}  (hf : fX12_topic S a1 a2 = some z) : tc_MI l dC dI ca yX12_topic cX12_topic 3 (some .int) rmX12_topic [.ref (q 0), .int (a1), .int (a2)] (w12 ca q S) (w12 ca q z.2) (z.1) := by
  refine tc_metI (own := RX12) (by decide) rfl ?_ (Nat.le_of_ble_eq_true rfl)
  intro p e s m below meth c A X hP hD hS ls hl
  obtain ⟨hx, hb, hr, hml, hown, hts, hlk, hK, hA, hG⟩ := id X
  unfold fX12_topic at hf
  have hl : lv_has ls 3 [(0, .ref (q 0)), (1, .int (a1)), (2, .int (a2))] := hl
  refine lv_aload_n hx hb dX12_topic_0 rfl (lv_at hl 0 rfl) ?_
  refine lv_iconst (v := (0 : Int32)) hx hb dX12_topic_1 (by decide) ?_
  refine va_put (D := (dC, dI)) (ci := 12) (v := .int ((0 : Int32))) (ty := .int) (C := RX12) (T := TX12) (N := 49) hx hb hts i_X12 tyX12 tyX12_ok nmX12 hown hK hP hD hS 0 rfl rfl 1 (by decide) (hts _ wf_X12_63) (fun _ h9 => h9) rfl (tyX12_ok 1 (by decide)) rfl rfl (Nat.le_of_ble_eq_true rfl) dX12_topic_2 (fun H locs hP hD hS => ?_)
  have hP := tc_eP (pw12_0_1 ca q S (0 : Int32)) hP
  have hD := tc_eD (pw12_0_1 ca q S (0 : Int32)) hD
  refine lv_aload_n hx hb dX12_topic_5 rfl (lv_at hl 0 rfl) ?_
  refine lv_iconst (v := (0 : Int32)) hx hb dX12_topic_6 (by decide) ?_
  refine va_put (D := (dC, dI)) (ci := 12) (v := .int ((0 : Int32))) (ty := .int) (C := RX12) (T := TX12) (N := 49) hx hb hts i_X12 tyX12 tyX12_ok nmX12 hown hK hP hD hS 0 rfl rfl 0 (by decide) (hts _ wf_X12_66) (fun _ h9 => h9) rfl (tyX12_ok 0 (by decide)) rfl rfl (Nat.le_of_ble_eq_true rfl) dX12_topic_7 (fun H locs hP hD hS => ?_)
  have hP := tc_eP (pw12_0_0 ca q (si S 1 (0 : Int32)) (0 : Int32)) hP
  have hD := tc_eD (pw12_0_0 ca q (si S 1 (0 : Int32)) (0 : Int32)) hD
  refine lv_aload_n hx hb dX12_topic_10 rfl (lv_at hl 0 rfl) ?_
  refine lv_iload_n hx hb dX12_topic_11 rfl (lv_at hl 1 rfl) ?_
  obtain ⟨z1, hg, hf⟩ := tc_bi hf
  refine tc_iVs (As := [.int (a1)]) (rest := []) (b := q 0) X hP hD hS (mX12_isTopicAt hg) okX12_isTopicAt wl_X12_345 wi_X12_isTopicAt ws_X12_X12_isTopicAt_X12_isTopicAt ⟨rfl, rfl, Nat.le_of_ble_eq_true rfl, Nat.le_of_ble_eq_true rfl⟩ 12 0 rfl rfl rfl hl.1 (Nat.le_of_ble_eq_true rfl) dX12_topic_12 (fun H locs hP hD hS => ?_)
  refine lv_if_ne (tgt := 24) hx hb dX12_topic_15 (by decide) (fun hc => ?_) (fun hc => ?_)
  · have hf := tc_neg hc hf
    refine lv_iload_n hx hb dX12_topic_24 rfl (lv_at hl 2 rfl) ?_
    refine lv_i2l (v := a2.toInt64) hx hb dX12_topic_25 rfl ?_
    refine lv_lconst (v := (0 : Int64)) hx hb dX12_topic_26 (by decide) ?_
    refine lv_ldc2 (v := (3 : Int64)) hx hb hown (hts _ wk_X12_96) dX12_topic_27 ?_
    obtain ⟨z2, hg, hf⟩ := tc_bi hf
    refine tc_iS0 (As := [.long (a2.toInt64), .long ((0 : Int64)), .long ((3 : Int64))]) (rest := []) X hP hD hS (mX12_isIn hg) okX12_isIn wl_X12_98 wt_X12_isIn ⟨rfl, rfl, Nat.le_of_ble_eq_true rfl, Nat.le_of_ble_eq_true rfl⟩ rfl hl.1 (Nat.le_of_ble_eq_true rfl) dX12_topic_30 (fun H locs hP hD hS => ?_)
    refine lv_if_ne (tgt := 42) hx hb dX12_topic_33 (by decide) (fun hc => ?_) (fun hc => ?_)
    · have hf := tc_neg hc hf
      refine lv_iload_n hx hb dX12_topic_42 rfl (lv_at hl 2 rfl) ?_
      refine lv_iconst (v := (2 : Int32)) hx hb dX12_topic_43 (by decide) ?_
      refine lv_icmp_ge (tgt := 64) hx hb dX12_topic_44 (by decide) (fun hc => ?_) (fun hc => ?_)
      · have hf := tc_pos hc hf
        refine lv_iload_n hx hb dX12_topic_64 rfl (lv_at hl 2 rfl) ?_
        refine lv_iconst (v := (2 : Int32)) hx hb dX12_topic_65 (by decide) ?_
        refine lv_icmp_ne (tgt := 77) hx hb dX12_topic_66 (by decide) (fun hc => ?_) (fun hc => ?_)
        · have hf := tc_neg hc hf
          refine lv_aload_n hx hb dX12_topic_77 rfl (lv_at hl 0 rfl) ?_
          refine lv_iload_n hx hb dX12_topic_78 rfl (lv_at hl 1 rfl) ?_
          refine lv_iconst (v := (1 : Int32)) hx hb dX12_topic_79 (by decide) ?_
          refine lv_iadd hx hb dX12_topic_80 ?_
          obtain ⟨z3, hg, hf⟩ := tc_bi hf
          refine tc_iVs (As := [.int (a1 + (1 : Int32))]) (rest := []) (b := q 0) X hP hD hS (mX12_talkersAt hg) okX12_talkersAt wl_X12_342 wi_X12_talkersAt ws_X12_X12_talkersAt_X12_talkersAt ⟨rfl, rfl, Nat.le_of_ble_eq_true rfl, Nat.le_of_ble_eq_true rfl⟩ 12 0 rfl rfl rfl hl.1 (Nat.le_of_ble_eq_true rfl) dX12_topic_81 (fun H locs hP hD hS => ?_)
          obtain rfl := Option.some.inj hf
          exact tc_ri X hP hD hS rfl dX12_topic_84 rfl rfl
        · have hf := tc_pos hc hf
          refine lv_aload_n hx hb dX12_topic_69 rfl (lv_at hl 0 rfl) ?_
          refine lv_iload_n hx hb dX12_topic_70 rfl (lv_at hl 1 rfl) ?_
          obtain ⟨z4, hg, hf⟩ := tc_bi hf
          refine tc_iVs (As := [.int (a1)]) (rest := []) (b := q 0) X hP hD hS (mX12_claimsAt hg) okX12_claimsAt wl_X12_348 wi_X12_claimsAt ws_X12_X12_claimsAt_X12_claimsAt ⟨rfl, rfl, Nat.le_of_ble_eq_true rfl, Nat.le_of_ble_eq_true rfl⟩ 12 0 rfl rfl rfl hl.1 (Nat.le_of_ble_eq_true rfl) dX12_topic_71 (fun H locs hP hD hS => ?_)
          refine lv_goto (tgt := 84) hx hb dX12_topic_74 (by decide) ?_
          obtain rfl := Option.some.inj hf
          exact tc_ri X hP hD hS rfl dX12_topic_84 rfl rfl
      · have hf := tc_neg hc hf
        refine lv_aload_n hx hb dX12_topic_47 rfl (lv_at hl 0 rfl) ?_
        refine va_get (D := (dC, dI)) (ci := 12) (v := .ref (q 5)) (C := RX12) (T := TX12) (N := 49) hx hb hts i_X12 hown hK hP 0 rfl rfl 20 (by decide) (hts _ wf_X12_35) (fun _ h9 => h9) rfl dX12_topic_48 ?_
        refine lv_bipush (v := (6 : Int32)) hx hb dX12_topic_51 (by decide) ?_
        refine lv_bipush (v := (9 : Int32)) hx hb dX12_topic_53 (by decide) ?_
        refine lv_iload_n hx hb dX12_topic_55 rfl (lv_at hl 2 rfl) ?_
        refine lv_imul hx hb dX12_topic_56 ?_
        refine lv_iadd hx hb dX12_topic_57 ?_
        refine lv_iload_n hx hb dX12_topic_58 rfl (lv_at hl 1 rfl) ?_
        refine lv_iadd hx hb dX12_topic_59 ?_
        obtain ⟨hi5, hf⟩ := tc_in hf
        refine va_iald hx hb hK hP 5 1 rfl rfl hi5 dX12_topic_60 ?_
        refine lv_goto (tgt := 84) hx hb dX12_topic_61 (by decide) ?_
        obtain rfl := Option.some.inj hf
        exact tc_ri X hP hD hS rfl dX12_topic_84 rfl rfl
    · have hf := tc_pos hc hf
      refine lv_aload_n hx hb dX12_topic_36 rfl (lv_at hl 0 rfl) ?_
      refine lv_iconst (v := (5 : Int32)) hx hb dX12_topic_37 (by decide) ?_
      obtain ⟨z6, hg, hf⟩ := tc_bi hf
      refine tc_iVs (As := [.int ((5 : Int32))]) (rest := []) (b := q 0) X hP hD hS (mX12_refuse hg) okX12_refuse wl_X12_333 wi_X12_refuse ws_X12_X12_refuse_X12_refuse ⟨rfl, rfl, Nat.le_of_ble_eq_true rfl, Nat.le_of_ble_eq_true rfl⟩ 12 0 rfl rfl rfl hl.1 (Nat.le_of_ble_eq_true rfl) dX12_topic_38 (fun H locs hP hD hS => ?_)
      obtain rfl := Option.some.inj hf
      exact tc_ri X hP hD hS rfl dX12_topic_41 rfl rfl
  · have hf := tc_pos hc hf
    refine lv_aload_n hx hb dX12_topic_18 rfl (lv_at hl 0 rfl) ?_
    refine lv_iconst (v := (2 : Int32)) hx hb dX12_topic_19 (by decide) ?_
    obtain ⟨z7, hg, hf⟩ := tc_bi hf
    refine tc_iVs (As := [.int ((2 : Int32))]) (rest := []) (b := q 0) X hP hD hS (mX12_refuse hg) okX12_refuse wl_X12_333 wi_X12_refuse ws_X12_X12_refuse_X12_refuse ⟨rfl, rfl, Nat.le_of_ble_eq_true rfl, Nat.le_of_ble_eq_true rfl⟩ 12 0 rfl rfl rfl hl.1 (Nat.le_of_ble_eq_true rfl) dX12_topic_20 (fun H locs hP hD hS => ?_)
    obtain rfl := Option.some.inj hf
    exact tc_ri X hP hD hS rfl dX12_topic_23 rfl rfl
def fX12_claim  (S : ms_T) (a1 : Int32) (a2 : Int32) : Option (Int32 × ms_T) :=
  (fX12_isClaimAt (si (si S 1 (0 : Int32)) 0 (0 : Int32)) a1).bind fun z1 =>
  if z1 = 0 then
    (fX12_refuse (si (si S 1 (0 : Int32)) 0 (0 : Int32)) (2 : Int32)).bind fun z6 =>
    some (z6.1, z6.2)
  else
    (fX12_isIn a2.toInt64 (0 : Int64) (3 : Int64)).bind fun z2 =>
    if z2 = 0 then
      (fX12_refuse (si (si S 1 (0 : Int32)) 0 (0 : Int32)) (5 : Int32)).bind fun z5 =>
      some (z5.1, z5.2)
    else
      if (3 : Int32) ≤ a2 then
        (fX12_isHollow (si (si S 1 (0 : Int32)) 0 (0 : Int32)) a1).bind fun z3 =>
        if z3 = 0 then
          some ((1 : Int32), si (si S 1 (0 : Int32)) 0 (0 : Int32))
        else
          some ((0 : Int32), si (si S 1 (0 : Int32)) 0 (0 : Int32))
      else
        if inb (((24 : Int32) + ((8 : Int32) * a2)) + a1) 1820 = true then
          some (ia (si (si S 1 (0 : Int32)) 0 (0 : Int32)) 5 (((24 : Int32) + ((8 : Int32) * a2)) + a1), si (si S 1 (0 : Int32)) 0 (0 : Int32))
        else none
abbrev rmX12_claim : Room := { frames := 3, cells := 0, slots := 0, locals := 68 }
theorem okX12_claim : tc_ok yX12_claim cX12_claim 3 (some .int) 2 := ⟨wc_X12_claim, wn_X12, by decide, by decide, by decide +kernel⟩
set_option maxRecDepth 20000 in
theorem mX12_claim {q : Nat → Nat}  {S : ms_T} {a1 : Int32} {a2 : Int32} {z : Int32 × ms_T}  (hf : fX12_claim S a1 a2 = some z) : tc_MI l dC dI ca yX12_claim cX12_claim 3 (some .int) rmX12_claim [.ref (q 0), .int (a1), .int (a2)] (w12 ca q S) (w12 ca q z.2) (z.1) := by
  refine tc_metI (own := RX12) (by decide) rfl ?_ (Nat.le_of_ble_eq_true rfl)
  intro p e s m below meth c A X hP hD hS ls hl
  obtain ⟨hx, hb, hr, hml, hown, hts, hlk, hK, hA, hG⟩ := id X
  unfold fX12_claim at hf
  have hl : lv_has ls 3 [(0, .ref (q 0)), (1, .int (a1)), (2, .int (a2))] := hl
  refine lv_aload_n hx hb dX12_claim_0 rfl (lv_at hl 0 rfl) ?_
  refine lv_iconst (v := (0 : Int32)) hx hb dX12_claim_1 (by decide) ?_
  refine va_put (D := (dC, dI)) (ci := 12) (v := .int ((0 : Int32))) (ty := .int) (C := RX12) (T := TX12) (N := 49) hx hb hts i_X12 tyX12 tyX12_ok nmX12 hown hK hP hD hS 0 rfl rfl 1 (by decide) (hts _ wf_X12_63) (fun _ h9 => h9) rfl (tyX12_ok 1 (by decide)) rfl rfl (Nat.le_of_ble_eq_true rfl) dX12_claim_2 (fun H locs hP hD hS => ?_)
  have hP := tc_eP (pw12_0_1 ca q S (0 : Int32)) hP
  have hD := tc_eD (pw12_0_1 ca q S (0 : Int32)) hD
  refine lv_aload_n hx hb dX12_claim_5 rfl (lv_at hl 0 rfl) ?_
  refine lv_iconst (v := (0 : Int32)) hx hb dX12_claim_6 (by decide) ?_
  refine va_put (D := (dC, dI)) (ci := 12) (v := .int ((0 : Int32))) (ty := .int) (C := RX12) (T := TX12) (N := 49) hx hb hts i_X12 tyX12 tyX12_ok nmX12 hown hK hP hD hS 0 rfl rfl 0 (by decide) (hts _ wf_X12_66) (fun _ h9 => h9) rfl (tyX12_ok 0 (by decide)) rfl rfl (Nat.le_of_ble_eq_true rfl) dX12_claim_7 (fun H locs hP hD hS => ?_)
  have hP := tc_eP (pw12_0_0 ca q (si S 1 (0 : Int32)) (0 : Int32)) hP
  have hD := tc_eD (pw12_0_0 ca q (si S 1 (0 : Int32)) (0 : Int32)) hD
  refine lv_aload_n hx hb dX12_claim_10 rfl (lv_at hl 0 rfl) ?_
  refine lv_iload_n hx hb dX12_claim_11 rfl (lv_at hl 1 rfl) ?_
  obtain ⟨z1, hg, hf⟩ := tc_bi hf
  refine tc_iVs (As := [.int (a1)]) (rest := []) (b := q 0) X hP hD hS (mX12_isClaimAt hg) okX12_isClaimAt wl_X12_351 wi_X12_isClaimAt ws_X12_X12_isClaimAt_X12_isClaimAt ⟨rfl, rfl, Nat.le_of_ble_eq_true rfl, Nat.le_of_ble_eq_true rfl⟩ 12 0 rfl rfl rfl hl.1 (Nat.le_of_ble_eq_true rfl) dX12_claim_12 (fun H locs hP hD hS => ?_)
  refine lv_if_ne (tgt := 24) hx hb dX12_claim_15 (by decide) (fun hc => ?_) (fun hc => ?_)
  · have hf := tc_neg hc hf
    refine lv_iload_n hx hb dX12_claim_24 rfl (lv_at hl 2 rfl) ?_
    refine lv_i2l (v := a2.toInt64) hx hb dX12_claim_25 rfl ?_
    refine lv_lconst (v := (0 : Int64)) hx hb dX12_claim_26 (by decide) ?_
    refine lv_ldc2 (v := (3 : Int64)) hx hb hown (hts _ wk_X12_96) dX12_claim_27 ?_
    obtain ⟨z2, hg, hf⟩ := tc_bi hf
    refine tc_iS0 (As := [.long (a2.toInt64), .long ((0 : Int64)), .long ((3 : Int64))]) (rest := []) X hP hD hS (mX12_isIn hg) okX12_isIn wl_X12_98 wt_X12_isIn ⟨rfl, rfl, Nat.le_of_ble_eq_true rfl, Nat.le_of_ble_eq_true rfl⟩ rfl hl.1 (Nat.le_of_ble_eq_true rfl) dX12_claim_30 (fun H locs hP hD hS => ?_)
    refine lv_if_ne (tgt := 42) hx hb dX12_claim_33 (by decide) (fun hc => ?_) (fun hc => ?_)
    · have hf := tc_neg hc hf
      refine lv_iload_n hx hb dX12_claim_42 rfl (lv_at hl 2 rfl) ?_
      refine lv_iconst (v := (3 : Int32)) hx hb dX12_claim_43 (by decide) ?_
      refine lv_icmp_ge (tgt := 64) hx hb dX12_claim_44 (by decide) (fun hc => ?_) (fun hc => ?_)
      · have hf := tc_pos hc hf
        refine lv_aload_n hx hb dX12_claim_64 rfl (lv_at hl 0 rfl) ?_
        refine lv_iload_n hx hb dX12_claim_65 rfl (lv_at hl 1 rfl) ?_
        obtain ⟨z3, hg, hf⟩ := tc_bi hf
        refine tc_iVs (As := [.int (a1)]) (rest := []) (b := q 0) X hP hD hS (mX12_isHollow hg) okX12_isHollow wl_X12_354 wi_X12_isHollow ws_X12_X12_isHollow_X12_isHollow ⟨rfl, rfl, Nat.le_of_ble_eq_true rfl, Nat.le_of_ble_eq_true rfl⟩ 12 0 rfl rfl rfl hl.1 (Nat.le_of_ble_eq_true rfl) dX12_claim_66 (fun H locs hP hD hS => ?_)
        refine lv_if_eq (tgt := 76) hx hb dX12_claim_69 (by decide) (fun hc => ?_) (fun hc => ?_)
        · have hf := tc_pos hc hf
          refine lv_iconst (v := (1 : Int32)) hx hb dX12_claim_76 (by decide) ?_
          obtain rfl := Option.some.inj hf
          exact tc_ri X hP hD hS rfl dX12_claim_77 rfl rfl
        · have hf := tc_neg hc hf
          refine lv_iconst (v := (0 : Int32)) hx hb dX12_claim_72 (by decide) ?_
          refine lv_goto (tgt := 77) hx hb dX12_claim_73 (by decide) ?_
          obtain rfl := Option.some.inj hf
          exact tc_ri X hP hD hS rfl dX12_claim_77 rfl rfl
      · have hf := tc_neg hc hf
        refine lv_aload_n hx hb dX12_claim_47 rfl (lv_at hl 0 rfl) ?_
        refine va_get (D := (dC, dI)) (ci := 12) (v := .ref (q 5)) (C := RX12) (T := TX12) (N := 49) hx hb hts i_X12 hown hK hP 0 rfl rfl 20 (by decide) (hts _ wf_X12_35) (fun _ h9 => h9) rfl dX12_claim_48 ?_
        refine lv_bipush (v := (24 : Int32)) hx hb dX12_claim_51 (by decide) ?_
        refine lv_bipush (v := (8 : Int32)) hx hb dX12_claim_53 (by decide) ?_
        refine lv_iload_n hx hb dX12_claim_55 rfl (lv_at hl 2 rfl) ?_
        refine lv_imul hx hb dX12_claim_56 ?_
        refine lv_iadd hx hb dX12_claim_57 ?_
        refine lv_iload_n hx hb dX12_claim_58 rfl (lv_at hl 1 rfl) ?_
        refine lv_iadd hx hb dX12_claim_59 ?_
        obtain ⟨hi4, hf⟩ := tc_in hf
        refine va_iald hx hb hK hP 5 1 rfl rfl hi4 dX12_claim_60 ?_
        refine lv_goto (tgt := 77) hx hb dX12_claim_61 (by decide) ?_
        obtain rfl := Option.some.inj hf
        exact tc_ri X hP hD hS rfl dX12_claim_77 rfl rfl
    · have hf := tc_pos hc hf
      refine lv_aload_n hx hb dX12_claim_36 rfl (lv_at hl 0 rfl) ?_
      refine lv_iconst (v := (5 : Int32)) hx hb dX12_claim_37 (by decide) ?_
      obtain ⟨z5, hg, hf⟩ := tc_bi hf
      refine tc_iVs (As := [.int ((5 : Int32))]) (rest := []) (b := q 0) X hP hD hS (mX12_refuse hg) okX12_refuse wl_X12_333 wi_X12_refuse ws_X12_X12_refuse_X12_refuse ⟨rfl, rfl, Nat.le_of_ble_eq_true rfl, Nat.le_of_ble_eq_true rfl⟩ 12 0 rfl rfl rfl hl.1 (Nat.le_of_ble_eq_true rfl) dX12_claim_38 (fun H locs hP hD hS => ?_)
      obtain rfl := Option.some.inj hf
      exact tc_ri X hP hD hS rfl dX12_claim_41 rfl rfl
  · have hf := tc_pos hc hf
    refine lv_aload_n hx hb dX12_claim_18 rfl (lv_at hl 0 rfl) ?_
    refine lv_iconst (v := (2 : Int32)) hx hb dX12_claim_19 (by decide) ?_
    obtain ⟨z6, hg, hf⟩ := tc_bi hf
    refine tc_iVs (As := [.int ((2 : Int32))]) (rest := []) (b := q 0) X hP hD hS (mX12_refuse hg) okX12_refuse wl_X12_333 wi_X12_refuse ws_X12_X12_refuse_X12_refuse ⟨rfl, rfl, Nat.le_of_ble_eq_true rfl, Nat.le_of_ble_eq_true rfl⟩ 12 0 rfl rfl rfl hl.1 (Nat.le_of_ble_eq_true rfl) dX12_claim_20 (fun H locs hP hD hS => ?_)
    obtain rfl := Option.some.inj hf
    exact tc_ri X hP hD hS rfl dX12_claim_23 rfl rfl
def fX12_canSay  (S : ms_T) (a1 : Int32) (a2 : Int32) : Option (Int32) :=
  if inb ((60 : Int32) + a1) 1820 = true then
    if (ia S 5 ((60 : Int32) + a1)) = 0 then
      if inb ((54 : Int32) + a1) 1820 = true then
        if (ia S 5 ((54 : Int32) + a1)) ≤ 0 then
          some ((0 : Int32))
        else
          if inb ((24 : Int32) + a2) 1820 = true then
            if inb ((54 : Int32) + a1) 1820 = true then
              if (2 : Int32) ≤ (jabs (((ia S 5 ((24 : Int32) + a2)) + (1 : Int32)) - (ia S 5 ((54 : Int32) + a1)))) then
                some ((0 : Int32))
              else
                some ((1 : Int32))
            else none
          else none
      else none
    else
      some ((0 : Int32))
  else none
abbrev rmX12_canSay : Room := { frames := 1, cells := 0, slots := 0, locals := 23 }
theorem okX12_canSay : tc_ok yX12_canSay cX12_canSay 3 (some .boolean) 2 := ⟨wc_X12_canSay, wn_X12, by decide, by decide, by decide +kernel⟩
set_option maxRecDepth 20000 in
theorem mX12_canSay {q : Nat → Nat}  {S : ms_T} {a1 : Int32} {a2 : Int32} {z : Int32}  (hf : fX12_canSay S a1 a2 = some z) : tc_MI l dC dI ca yX12_canSay cX12_canSay 3 (some .boolean) rmX12_canSay [.ref (q 0), .int (a1), .int (a2)] (w12 ca q S) (w12 ca q S) (z) := by
  refine tc_metI (own := RX12) (by decide) rfl ?_ (Nat.le_of_ble_eq_true rfl)
  intro p e s m below meth c A X hP hD hS ls hl
  obtain ⟨hx, hb, hr, hml, hown, hts, hlk, hK, hA, hG⟩ := id X
  unfold fX12_canSay at hf
  have hl : lv_has ls 3 [(0, .ref (q 0)), (1, .int (a1)), (2, .int (a2))] := hl
  refine lv_aload_n hx hb dX12_canSay_0 rfl (lv_at hl 0 rfl) ?_
  refine va_get (D := (dC, dI)) (ci := 12) (v := .ref (q 5)) (C := RX12) (T := TX12) (N := 49) hx hb hts i_X12 hown hK hP 0 rfl rfl 20 (by decide) (hts _ wf_X12_35) (fun _ h9 => h9) rfl dX12_canSay_1 ?_
  refine lv_bipush (v := (60 : Int32)) hx hb dX12_canSay_4 (by decide) ?_
  refine lv_iload_n hx hb dX12_canSay_6 rfl (lv_at hl 1 rfl) ?_
  refine lv_iadd hx hb dX12_canSay_7 ?_
  obtain ⟨hi1, hf⟩ := tc_in hf
  refine va_iald hx hb hK hP 5 1 rfl rfl hi1 dX12_canSay_8 ?_
  refine lv_if_ne (tgt := 56) hx hb dX12_canSay_9 (by decide) (fun hc => ?_) (fun hc => ?_)
  · have hf := tc_neg hc hf
    refine lv_iconst (v := (0 : Int32)) hx hb dX12_canSay_56 (by decide) ?_
    obtain rfl := Option.some.inj hf
    exact tc_rz X hP hD hS rfl dX12_canSay_57 (by decide) rfl rfl
  · have hf := tc_pos hc hf
    refine lv_aload_n hx hb dX12_canSay_12 rfl (lv_at hl 0 rfl) ?_
    refine va_get (D := (dC, dI)) (ci := 12) (v := .ref (q 5)) (C := RX12) (T := TX12) (N := 49) hx hb hts i_X12 hown hK hP 0 rfl rfl 20 (by decide) (hts _ wf_X12_35) (fun _ h9 => h9) rfl dX12_canSay_13 ?_
    refine lv_bipush (v := (54 : Int32)) hx hb dX12_canSay_16 (by decide) ?_
    refine lv_iload_n hx hb dX12_canSay_18 rfl (lv_at hl 1 rfl) ?_
    refine lv_iadd hx hb dX12_canSay_19 ?_
    obtain ⟨hi2, hf⟩ := tc_in hf
    refine va_iald hx hb hK hP 5 1 rfl rfl hi2 dX12_canSay_20 ?_
    refine lv_if_le (tgt := 56) hx hb dX12_canSay_21 (by decide) (fun hc => ?_) (fun hc => ?_)
    · have hf := tc_pos hc hf
      refine lv_iconst (v := (0 : Int32)) hx hb dX12_canSay_56 (by decide) ?_
      obtain rfl := Option.some.inj hf
      exact tc_rz X hP hD hS rfl dX12_canSay_57 (by decide) rfl rfl
    · have hf := tc_neg hc hf
      refine lv_aload_n hx hb dX12_canSay_24 rfl (lv_at hl 0 rfl) ?_
      refine va_get (D := (dC, dI)) (ci := 12) (v := .ref (q 5)) (C := RX12) (T := TX12) (N := 49) hx hb hts i_X12 hown hK hP 0 rfl rfl 20 (by decide) (hts _ wf_X12_35) (fun _ h9 => h9) rfl dX12_canSay_25 ?_
      refine lv_bipush (v := (24 : Int32)) hx hb dX12_canSay_28 (by decide) ?_
      refine lv_iload_n hx hb dX12_canSay_30 rfl (lv_at hl 2 rfl) ?_
      refine lv_iadd hx hb dX12_canSay_31 ?_
      obtain ⟨hi3, hf⟩ := tc_in hf
      refine va_iald hx hb hK hP 5 1 rfl rfl hi3 dX12_canSay_32 ?_
      refine lv_iconst (v := (1 : Int32)) hx hb dX12_canSay_33 (by decide) ?_
      refine lv_iadd hx hb dX12_canSay_34 ?_
      refine lv_aload_n hx hb dX12_canSay_35 rfl (lv_at hl 0 rfl) ?_
      refine va_get (D := (dC, dI)) (ci := 12) (v := .ref (q 5)) (C := RX12) (T := TX12) (N := 49) hx hb hts i_X12 hown hK hP 0 rfl rfl 20 (by decide) (hts _ wf_X12_35) (fun _ h9 => h9) rfl dX12_canSay_36 ?_
      refine lv_bipush (v := (54 : Int32)) hx hb dX12_canSay_39 (by decide) ?_
      refine lv_iload_n hx hb dX12_canSay_41 rfl (lv_at hl 1 rfl) ?_
      refine lv_iadd hx hb dX12_canSay_42 ?_
      obtain ⟨hi4, hf⟩ := tc_in hf
      refine va_iald hx hb hK hP 5 1 rfl rfl hi4 dX12_canSay_43 ?_
      refine lv_isub hx hb dX12_canSay_44 ?_
      refine tc_mabs (rest := []) X hl.1 wl_X12_357 (Nat.le_of_ble_eq_true rfl) (Nat.le_of_ble_eq_true rfl) dX12_canSay_45 ?_
      refine lv_iconst (v := (2 : Int32)) hx hb dX12_canSay_48 (by decide) ?_
      refine lv_icmp_ge (tgt := 56) hx hb dX12_canSay_49 (by decide) (fun hc => ?_) (fun hc => ?_)
      · have hf := tc_pos hc hf
        refine lv_iconst (v := (0 : Int32)) hx hb dX12_canSay_56 (by decide) ?_
        obtain rfl := Option.some.inj hf
        exact tc_rz X hP hD hS rfl dX12_canSay_57 (by decide) rfl rfl
      · have hf := tc_neg hc hf
        refine lv_iconst (v := (1 : Int32)) hx hb dX12_canSay_52 (by decide) ?_
        refine lv_goto (tgt := 57) hx hb dX12_canSay_53 (by decide) ?_
        obtain rfl := Option.some.inj hf
        exact tc_rz X hP hD hS rfl dX12_canSay_57 (by decide) rfl rfl
def fX12_sayable_4  (S : ms_T)  : Nat → Int32 → Int32 → Int32 → Option (Int32)
  | 0, _, _, _ => none
  | n + 1, v1, v2, v3 =>
    if (ia S 5 (1 : Int32)) ≤ v3 then
      some (v2)
    else
      (fX12_canSay S v1 v3).bind fun z1 =>
      if z1 = 0 then
        fX12_sayable_4 S n v1 (v2 ||| (0 : Int32)) (v3 + (1 : Int32))
      else
        fX12_sayable_4 S n v1 (v2 ||| ((1 : Int32) <<< (v3 &&& 31))) (v3 + (1 : Int32))
def fX12_sayable  (S : ms_T) (a1 : Int32) : Option (Int32) :=
  fX12_sayable_4 S FU a1 (0 : Int32) (0 : Int32)
abbrev rmX12_sayable : Room := { frames := 2, cells := 0, slots := 0, locals := 45 }
theorem okX12_sayable : tc_ok yX12_sayable cX12_sayable 4 (some .int) 1 := ⟨wc_X12_sayable, wn_X12, by decide, by decide, by decide +kernel⟩
set_option maxRecDepth 20000 in
theorem tX12_sayable_4 {q : Nat → Nat}  (X : tc_X dC dI ca A RX12 cX12_sayable 4 (some .int) p s m args meth c) (z : Int32)  (S : ms_T)   : ∀ n : Nat, ∀ (v1 : Int32) (v2 : Int32) (v3 : Int32), fX12_sayable_4 S n v1 v2 v3 = some z → ∀ (H : Heap) (locs : List Loc) (ls : Array Slot), va_P (dC, dI) classes (w12 ca q S) H → va_D A (w12 ca q S) → va_S A s.heap H locs → lv_has ls 4 [(0, .ref (q 0)), (1, .int (v1)), (2, .int (v2)), (3, .int (v3))] → W p l e rmX12_sayable s m args below meth c H locs 0 0 (MQ below (tc_QI dC dI ca A (w12 ca q S) (z)) args s 0 0 A) (F0 m 4 ls []) := by
  obtain ⟨hx, hb, hr, hml, hown, hts, hlk, hK, hA, hG⟩ := id X
  intro n
  induction n with
  | zero => intro v1 v2 v3 hf; exact absurd (show none = some z from hf) (fun h => by cases h)
  | succ n ih =>
    intro v1 v2 v3 hf H locs ls hP hD hS hl
    rw [fX12_sayable_4] at hf
    refine lv_iload_n hx hb dX12_sayable_4 rfl (lv_at hl 3 rfl) ?_
    refine lv_aload_n hx hb dX12_sayable_5 rfl (lv_at hl 0 rfl) ?_
    refine va_get (D := (dC, dI)) (ci := 12) (v := .ref (q 5)) (C := RX12) (T := TX12) (N := 49) hx hb hts i_X12 hown hK hP 0 rfl rfl 20 (by decide) (hts _ wf_X12_35) (fun _ h9 => h9) rfl dX12_sayable_6 ?_
    refine lv_iconst (v := (1 : Int32)) hx hb dX12_sayable_9 (by decide) ?_
    refine va_iald hx hb hK hP 5 1 rfl rfl (inb_vp (by decide)) dX12_sayable_10 ?_
    refine lv_icmp_ge (tgt := 39) hx hb dX12_sayable_11 (by decide) (fun hc => ?_) (fun hc => ?_)
    · have hf := tc_pos hc hf
      refine lv_iload_n hx hb dX12_sayable_39 rfl (lv_at hl 2 rfl) ?_
      obtain rfl := Option.some.inj hf
      exact tc_ri X hP hD hS rfl dX12_sayable_40 rfl rfl
    · have hf := tc_neg hc hf
      refine lv_iload_n hx hb dX12_sayable_14 rfl (lv_at hl 2 rfl) ?_
      refine lv_aload_n hx hb dX12_sayable_15 rfl (lv_at hl 0 rfl) ?_
      refine lv_iload_n hx hb dX12_sayable_16 rfl (lv_at hl 1 rfl) ?_
      refine lv_iload_n hx hb dX12_sayable_17 rfl (lv_at hl 3 rfl) ?_
      obtain ⟨z1, hg, hf⟩ := tc_bi hf
      refine tc_iVs (As := [.int (v1), .int (v3)]) (rest := [.int (v2)]) (b := q 0) X hP hD hS (mX12_canSay hg) okX12_canSay wl_X12_359 wi_X12_canSay ws_X12_X12_canSay_X12_canSay ⟨rfl, rfl, Nat.le_of_ble_eq_true rfl, Nat.le_of_ble_eq_true rfl⟩ 12 0 rfl rfl rfl hl.1 (Nat.le_of_ble_eq_true rfl) dX12_sayable_18 (fun H locs hP hD hS => ?_)
      refine lv_if_eq (tgt := 30) hx hb dX12_sayable_21 (by decide) (fun hc => ?_) (fun hc => ?_)
      · have hf := tc_pos hc hf
        refine lv_iconst (v := (0 : Int32)) hx hb dX12_sayable_30 (by decide) ?_
        refine lv_ior hx hb dX12_sayable_31 ?_
        refine lv_istore_n (lv' := [(2, .int (v2 ||| (0 : Int32))), (0, .ref (q 0)), (1, .int (v1)), (3, .int (v3))]) hx hb dX12_sayable_32 rfl hl (by decide) rfl (fun ls hl => ?_)
        refine lv_iinc (v := v3 + (1 : Int32)) (lv' := [(3, .int (v3 + (1 : Int32))), (2, .int (v2 ||| (0 : Int32))), (0, .ref (q 0)), (1, .int (v1))]) hx hb dX12_sayable_33 hl (k := 3) rfl rfl (by decide) rfl (fun ls hl => ?_)
        refine lv_goto (tgt := 4) hx hb dX12_sayable_36 (by decide) ?_
        exact ih v1 (v2 ||| (0 : Int32)) (v3 + (1 : Int32)) hf _ _ _ hP hD hS (lv_sub hl [2, 3, 1, 0] rfl)
      · have hf := tc_neg hc hf
        refine lv_iconst (v := (1 : Int32)) hx hb dX12_sayable_24 (by decide) ?_
        refine lv_iload_n hx hb dX12_sayable_25 rfl (lv_at hl 3 rfl) ?_
        refine lv_ishl hx hb dX12_sayable_26 ?_
        refine lv_goto (tgt := 31) hx hb dX12_sayable_27 (by decide) ?_
        refine lv_ior hx hb dX12_sayable_31 ?_
        refine lv_istore_n (lv' := [(2, .int (v2 ||| ((1 : Int32) <<< (v3 &&& 31)))), (0, .ref (q 0)), (1, .int (v1)), (3, .int (v3))]) hx hb dX12_sayable_32 rfl hl (by decide) rfl (fun ls hl => ?_)
        refine lv_iinc (v := v3 + (1 : Int32)) (lv' := [(3, .int (v3 + (1 : Int32))), (2, .int (v2 ||| ((1 : Int32) <<< (v3 &&& 31)))), (0, .ref (q 0)), (1, .int (v1))]) hx hb dX12_sayable_33 hl (k := 3) rfl rfl (by decide) rfl (fun ls hl => ?_)
        refine lv_goto (tgt := 4) hx hb dX12_sayable_36 (by decide) ?_
        exact ih v1 (v2 ||| ((1 : Int32) <<< (v3 &&& 31))) (v3 + (1 : Int32)) hf _ _ _ hP hD hS (lv_sub hl [2, 3, 1, 0] rfl)
set_option maxRecDepth 20000 in
theorem mX12_sayable {q : Nat → Nat}  {S : ms_T} {a1 : Int32} {z : Int32}  (hf : fX12_sayable S a1 = some z) : tc_MI l dC dI ca yX12_sayable cX12_sayable 4 (some .int) rmX12_sayable [.ref (q 0), .int (a1)] (w12 ca q S) (w12 ca q S) (z) := by
  refine tc_metI (own := RX12) (by decide) rfl ?_ (Nat.le_of_ble_eq_true rfl)
  intro p e s m below meth c A X hP hD hS ls hl
  obtain ⟨hx, hb, hr, hml, hown, hts, hlk, hK, hA, hG⟩ := id X
  unfold fX12_sayable at hf
  have hl : lv_has ls 4 [(0, .ref (q 0)), (1, .int (a1))] := hl
  refine lv_iconst (v := (0 : Int32)) hx hb dX12_sayable_0 (by decide) ?_
  refine lv_istore_n (lv' := [(2, .int ((0 : Int32))), (0, .ref (q 0)), (1, .int (a1))]) hx hb dX12_sayable_1 rfl hl (by decide) rfl (fun ls hl => ?_)
  refine lv_iconst (v := (0 : Int32)) hx hb dX12_sayable_2 (by decide) ?_
  refine lv_istore_n (lv' := [(3, .int ((0 : Int32))), (2, .int ((0 : Int32))), (0, .ref (q 0)), (1, .int (a1))]) hx hb dX12_sayable_3 rfl hl (by decide) rfl (fun ls hl => ?_)
  exact tX12_sayable_4 X z S FU a1 (0 : Int32) (0 : Int32) hf _ _ _ hP hD hS (lv_sub hl [2, 3, 1, 0] rfl)
def fX12_talker  (S : ms_T) (a1 : Int32) (a2 : Int32) : Option (Int32 × ms_T) :=
  (fX12_isTalkerAt (si (si S 1 (0 : Int32)) 0 (0 : Int32)) a1).bind fun z1 =>
  if z1 = 0 then
    (fX12_refuse (si (si S 1 (0 : Int32)) 0 (0 : Int32)) (2 : Int32)).bind fun z6 =>
    some (z6.1, z6.2)
  else
    (fX12_isIn a2.toInt64 (0 : Int64) (4 : Int64)).bind fun z2 =>
    if z2 = 0 then
      (fX12_refuse (si (si S 1 (0 : Int32)) 0 (0 : Int32)) (5 : Int32)).bind fun z5 =>
      some (z5.1, z5.2)
    else
      if (4 : Int32) ≤ a2 then
        (fX12_sayable (si (si S 1 (0 : Int32)) 0 (0 : Int32)) a1).bind fun z3 =>
        some (z3, si (si S 1 (0 : Int32)) 0 (0 : Int32))
      else
        if inb (((48 : Int32) + ((6 : Int32) * a2)) + a1) 1820 = true then
          some (ia (si (si S 1 (0 : Int32)) 0 (0 : Int32)) 5 (((48 : Int32) + ((6 : Int32) * a2)) + a1), si (si S 1 (0 : Int32)) 0 (0 : Int32))
        else none
abbrev rmX12_talker : Room := { frames := 3, cells := 0, slots := 0, locals := 68 }
theorem okX12_talker : tc_ok yX12_talker cX12_talker 3 (some .int) 2 := ⟨wc_X12_talker, wn_X12, by decide, by decide, by decide +kernel⟩
set_option maxRecDepth 20000 in
theorem mX12_talker {q : Nat → Nat}  {S : ms_T} {a1 : Int32} {a2 : Int32} {z : Int32 × ms_T}  (hf : fX12_talker S a1 a2 = some z) : tc_MI l dC dI ca yX12_talker cX12_talker 3 (some .int) rmX12_talker [.ref (q 0), .int (a1), .int (a2)] (w12 ca q S) (w12 ca q z.2) (z.1) := by
  refine tc_metI (own := RX12) (by decide) rfl ?_ (Nat.le_of_ble_eq_true rfl)
  intro p e s m below meth c A X hP hD hS ls hl
  obtain ⟨hx, hb, hr, hml, hown, hts, hlk, hK, hA, hG⟩ := id X
  unfold fX12_talker at hf
  have hl : lv_has ls 3 [(0, .ref (q 0)), (1, .int (a1)), (2, .int (a2))] := hl
  refine lv_aload_n hx hb dX12_talker_0 rfl (lv_at hl 0 rfl) ?_
  refine lv_iconst (v := (0 : Int32)) hx hb dX12_talker_1 (by decide) ?_
  refine va_put (D := (dC, dI)) (ci := 12) (v := .int ((0 : Int32))) (ty := .int) (C := RX12) (T := TX12) (N := 49) hx hb hts i_X12 tyX12 tyX12_ok nmX12 hown hK hP hD hS 0 rfl rfl 1 (by decide) (hts _ wf_X12_63) (fun _ h9 => h9) rfl (tyX12_ok 1 (by decide)) rfl rfl (Nat.le_of_ble_eq_true rfl) dX12_talker_2 (fun H locs hP hD hS => ?_)
  have hP := tc_eP (pw12_0_1 ca q S (0 : Int32)) hP
  have hD := tc_eD (pw12_0_1 ca q S (0 : Int32)) hD
  refine lv_aload_n hx hb dX12_talker_5 rfl (lv_at hl 0 rfl) ?_
  refine lv_iconst (v := (0 : Int32)) hx hb dX12_talker_6 (by decide) ?_
  refine va_put (D := (dC, dI)) (ci := 12) (v := .int ((0 : Int32))) (ty := .int) (C := RX12) (T := TX12) (N := 49) hx hb hts i_X12 tyX12 tyX12_ok nmX12 hown hK hP hD hS 0 rfl rfl 0 (by decide) (hts _ wf_X12_66) (fun _ h9 => h9) rfl (tyX12_ok 0 (by decide)) rfl rfl (Nat.le_of_ble_eq_true rfl) dX12_talker_7 (fun H locs hP hD hS => ?_)
  have hP := tc_eP (pw12_0_0 ca q (si S 1 (0 : Int32)) (0 : Int32)) hP
  have hD := tc_eD (pw12_0_0 ca q (si S 1 (0 : Int32)) (0 : Int32)) hD
  refine lv_aload_n hx hb dX12_talker_10 rfl (lv_at hl 0 rfl) ?_
  refine lv_iload_n hx hb dX12_talker_11 rfl (lv_at hl 1 rfl) ?_
  obtain ⟨z1, hg, hf⟩ := tc_bi hf
  refine tc_iVs (As := [.int (a1)]) (rest := []) (b := q 0) X hP hD hS (mX12_isTalkerAt hg) okX12_isTalkerAt wl_X12_362 wi_X12_isTalkerAt ws_X12_X12_isTalkerAt_X12_isTalkerAt ⟨rfl, rfl, Nat.le_of_ble_eq_true rfl, Nat.le_of_ble_eq_true rfl⟩ 12 0 rfl rfl rfl hl.1 (Nat.le_of_ble_eq_true rfl) dX12_talker_12 (fun H locs hP hD hS => ?_)
  refine lv_if_ne (tgt := 24) hx hb dX12_talker_15 (by decide) (fun hc => ?_) (fun hc => ?_)
  · have hf := tc_neg hc hf
    refine lv_iload_n hx hb dX12_talker_24 rfl (lv_at hl 2 rfl) ?_
    refine lv_i2l (v := a2.toInt64) hx hb dX12_talker_25 rfl ?_
    refine lv_lconst (v := (0 : Int64)) hx hb dX12_talker_26 (by decide) ?_
    refine lv_ldc2 (v := (4 : Int64)) hx hb hown (hts _ wk_X12_365) dX12_talker_27 ?_
    obtain ⟨z2, hg, hf⟩ := tc_bi hf
    refine tc_iS0 (As := [.long (a2.toInt64), .long ((0 : Int64)), .long ((4 : Int64))]) (rest := []) X hP hD hS (mX12_isIn hg) okX12_isIn wl_X12_98 wt_X12_isIn ⟨rfl, rfl, Nat.le_of_ble_eq_true rfl, Nat.le_of_ble_eq_true rfl⟩ rfl hl.1 (Nat.le_of_ble_eq_true rfl) dX12_talker_30 (fun H locs hP hD hS => ?_)
    refine lv_if_ne (tgt := 42) hx hb dX12_talker_33 (by decide) (fun hc => ?_) (fun hc => ?_)
    · have hf := tc_neg hc hf
      refine lv_iload_n hx hb dX12_talker_42 rfl (lv_at hl 2 rfl) ?_
      refine lv_iconst (v := (4 : Int32)) hx hb dX12_talker_43 (by decide) ?_
      refine lv_icmp_ge (tgt := 64) hx hb dX12_talker_44 (by decide) (fun hc => ?_) (fun hc => ?_)
      · have hf := tc_pos hc hf
        refine lv_aload_n hx hb dX12_talker_64 rfl (lv_at hl 0 rfl) ?_
        refine lv_iload_n hx hb dX12_talker_65 rfl (lv_at hl 1 rfl) ?_
        obtain ⟨z3, hg, hf⟩ := tc_bi hf
        refine tc_iVs (As := [.int (a1)]) (rest := []) (b := q 0) X hP hD hS (mX12_sayable hg) okX12_sayable wl_X12_367 wi_X12_sayable ws_X12_X12_sayable_X12_sayable ⟨rfl, rfl, Nat.le_of_ble_eq_true rfl, Nat.le_of_ble_eq_true rfl⟩ 12 0 rfl rfl rfl hl.1 (Nat.le_of_ble_eq_true rfl) dX12_talker_66 (fun H locs hP hD hS => ?_)
        obtain rfl := Option.some.inj hf
        exact tc_ri X hP hD hS rfl dX12_talker_69 rfl rfl
      · have hf := tc_neg hc hf
        refine lv_aload_n hx hb dX12_talker_47 rfl (lv_at hl 0 rfl) ?_
        refine va_get (D := (dC, dI)) (ci := 12) (v := .ref (q 5)) (C := RX12) (T := TX12) (N := 49) hx hb hts i_X12 hown hK hP 0 rfl rfl 20 (by decide) (hts _ wf_X12_35) (fun _ h9 => h9) rfl dX12_talker_48 ?_
        refine lv_bipush (v := (48 : Int32)) hx hb dX12_talker_51 (by decide) ?_
        refine lv_bipush (v := (6 : Int32)) hx hb dX12_talker_53 (by decide) ?_
        refine lv_iload_n hx hb dX12_talker_55 rfl (lv_at hl 2 rfl) ?_
        refine lv_imul hx hb dX12_talker_56 ?_
        refine lv_iadd hx hb dX12_talker_57 ?_
        refine lv_iload_n hx hb dX12_talker_58 rfl (lv_at hl 1 rfl) ?_
        refine lv_iadd hx hb dX12_talker_59 ?_
        obtain ⟨hi4, hf⟩ := tc_in hf
        refine va_iald hx hb hK hP 5 1 rfl rfl hi4 dX12_talker_60 ?_
        refine lv_goto (tgt := 69) hx hb dX12_talker_61 (by decide) ?_
        obtain rfl := Option.some.inj hf
        exact tc_ri X hP hD hS rfl dX12_talker_69 rfl rfl
    · have hf := tc_pos hc hf
      refine lv_aload_n hx hb dX12_talker_36 rfl (lv_at hl 0 rfl) ?_
      refine lv_iconst (v := (5 : Int32)) hx hb dX12_talker_37 (by decide) ?_
      obtain ⟨z5, hg, hf⟩ := tc_bi hf
      refine tc_iVs (As := [.int ((5 : Int32))]) (rest := []) (b := q 0) X hP hD hS (mX12_refuse hg) okX12_refuse wl_X12_333 wi_X12_refuse ws_X12_X12_refuse_X12_refuse ⟨rfl, rfl, Nat.le_of_ble_eq_true rfl, Nat.le_of_ble_eq_true rfl⟩ 12 0 rfl rfl rfl hl.1 (Nat.le_of_ble_eq_true rfl) dX12_talker_38 (fun H locs hP hD hS => ?_)
      obtain rfl := Option.some.inj hf
      exact tc_ri X hP hD hS rfl dX12_talker_41 rfl rfl
  · have hf := tc_pos hc hf
    refine lv_aload_n hx hb dX12_talker_18 rfl (lv_at hl 0 rfl) ?_
    refine lv_iconst (v := (2 : Int32)) hx hb dX12_talker_19 (by decide) ?_
    obtain ⟨z6, hg, hf⟩ := tc_bi hf
    refine tc_iVs (As := [.int ((2 : Int32))]) (rest := []) (b := q 0) X hP hD hS (mX12_refuse hg) okX12_refuse wl_X12_333 wi_X12_refuse ws_X12_X12_refuse_X12_refuse ⟨rfl, rfl, Nat.le_of_ble_eq_true rfl, Nat.le_of_ble_eq_true rfl⟩ 12 0 rfl rfl rfl hl.1 (Nat.le_of_ble_eq_true rfl) dX12_talker_20 (fun H locs hP hD hS => ?_)
    obtain rfl := Option.some.inj hf
    exact tc_ri X hP hD hS rfl dX12_talker_23 rfl rfl
def fX12_feud  (S : ms_T) (a1 : Int32) (a2 : Int32) : Option (Int32 × ms_T) :=
  (fX12_isIn a1.toInt64 (0 : Int64) (((ia (si (si S 1 (0 : Int32)) 0 (0 : Int32)) 5 (3 : Int32)) - (1 : Int32)).toInt64)).bind fun z1 =>
  if z1 = 0 then
    (fX12_refuse (si (si S 1 (0 : Int32)) 0 (0 : Int32)) (2 : Int32)).bind fun z5 =>
    some (z5.1, z5.2)
  else
    (fX12_isIn a2.toInt64 (0 : Int64) (1 : Int64)).bind fun z2 =>
    if z2 = 0 then
      (fX12_refuse (si (si S 1 (0 : Int32)) 0 (0 : Int32)) (5 : Int32)).bind fun z3 =>
      some (z3.1, z3.2)
    else
      if inb (((72 : Int32) + ((10 : Int32) * a2)) + a1) 1820 = true then
        some (ia (si (si S 1 (0 : Int32)) 0 (0 : Int32)) 5 (((72 : Int32) + ((10 : Int32) * a2)) + a1), si (si S 1 (0 : Int32)) 0 (0 : Int32))
      else none
abbrev rmX12_feud : Room := { frames := 1, cells := 0, slots := 0, locals := 25 }
theorem okX12_feud : tc_ok yX12_feud cX12_feud 3 (some .int) 2 := ⟨wc_X12_feud, wn_X12, by decide, by decide, by decide +kernel⟩
set_option maxRecDepth 20000 in
theorem mX12_feud {q : Nat → Nat}  {S : ms_T} {a1 : Int32} {a2 : Int32} {z : Int32 × ms_T}  (hf : fX12_feud S a1 a2 = some z) : tc_MI l dC dI ca yX12_feud cX12_feud 3 (some .int) rmX12_feud [.ref (q 0), .int (a1), .int (a2)] (w12 ca q S) (w12 ca q z.2) (z.1) := by
  refine tc_metI (own := RX12) (by decide) rfl ?_ (Nat.le_of_ble_eq_true rfl)
  intro p e s m below meth c A X hP hD hS ls hl
  obtain ⟨hx, hb, hr, hml, hown, hts, hlk, hK, hA, hG⟩ := id X
  unfold fX12_feud at hf
  have hl : lv_has ls 3 [(0, .ref (q 0)), (1, .int (a1)), (2, .int (a2))] := hl
  refine lv_aload_n hx hb dX12_feud_0 rfl (lv_at hl 0 rfl) ?_
  refine lv_iconst (v := (0 : Int32)) hx hb dX12_feud_1 (by decide) ?_
  refine va_put (D := (dC, dI)) (ci := 12) (v := .int ((0 : Int32))) (ty := .int) (C := RX12) (T := TX12) (N := 49) hx hb hts i_X12 tyX12 tyX12_ok nmX12 hown hK hP hD hS 0 rfl rfl 1 (by decide) (hts _ wf_X12_63) (fun _ h9 => h9) rfl (tyX12_ok 1 (by decide)) rfl rfl (Nat.le_of_ble_eq_true rfl) dX12_feud_2 (fun H locs hP hD hS => ?_)
  have hP := tc_eP (pw12_0_1 ca q S (0 : Int32)) hP
  have hD := tc_eD (pw12_0_1 ca q S (0 : Int32)) hD
  refine lv_aload_n hx hb dX12_feud_5 rfl (lv_at hl 0 rfl) ?_
  refine lv_iconst (v := (0 : Int32)) hx hb dX12_feud_6 (by decide) ?_
  refine va_put (D := (dC, dI)) (ci := 12) (v := .int ((0 : Int32))) (ty := .int) (C := RX12) (T := TX12) (N := 49) hx hb hts i_X12 tyX12 tyX12_ok nmX12 hown hK hP hD hS 0 rfl rfl 0 (by decide) (hts _ wf_X12_66) (fun _ h9 => h9) rfl (tyX12_ok 0 (by decide)) rfl rfl (Nat.le_of_ble_eq_true rfl) dX12_feud_7 (fun H locs hP hD hS => ?_)
  have hP := tc_eP (pw12_0_0 ca q (si S 1 (0 : Int32)) (0 : Int32)) hP
  have hD := tc_eD (pw12_0_0 ca q (si S 1 (0 : Int32)) (0 : Int32)) hD
  refine lv_iload_n hx hb dX12_feud_10 rfl (lv_at hl 1 rfl) ?_
  refine lv_i2l (v := a1.toInt64) hx hb dX12_feud_11 rfl ?_
  refine lv_lconst (v := (0 : Int64)) hx hb dX12_feud_12 (by decide) ?_
  refine lv_aload_n hx hb dX12_feud_13 rfl (lv_at hl 0 rfl) ?_
  refine va_get (D := (dC, dI)) (ci := 12) (v := .ref (q 5)) (C := RX12) (T := TX12) (N := 49) hx hb hts i_X12 hown hK hP 0 rfl rfl 20 (by decide) (hts _ wf_X12_35) (fun _ h9 => h9) rfl dX12_feud_14 ?_
  refine lv_iconst (v := (3 : Int32)) hx hb dX12_feud_17 (by decide) ?_
  refine va_iald hx hb hK hP 5 1 rfl rfl (inb_vp (by decide)) dX12_feud_18 ?_
  refine lv_iconst (v := (1 : Int32)) hx hb dX12_feud_19 (by decide) ?_
  refine lv_isub hx hb dX12_feud_20 ?_
  refine lv_i2l (v := ((ia (si (si S 1 (0 : Int32)) 0 (0 : Int32)) 5 (3 : Int32)) - (1 : Int32)).toInt64) hx hb dX12_feud_21 rfl ?_
  obtain ⟨z1, hg, hf⟩ := tc_bi hf
  refine tc_iS0 (As := [.long (a1.toInt64), .long ((0 : Int64)), .long (((ia (si (si S 1 (0 : Int32)) 0 (0 : Int32)) 5 (3 : Int32)) - (1 : Int32)).toInt64)]) (rest := []) X hP hD hS (mX12_isIn hg) okX12_isIn wl_X12_98 wt_X12_isIn ⟨rfl, rfl, Nat.le_of_ble_eq_true rfl, Nat.le_of_ble_eq_true rfl⟩ rfl hl.1 (Nat.le_of_ble_eq_true rfl) dX12_feud_22 (fun H locs hP hD hS => ?_)
  refine lv_if_ne (tgt := 34) hx hb dX12_feud_25 (by decide) (fun hc => ?_) (fun hc => ?_)
  · have hf := tc_neg hc hf
    refine lv_iload_n hx hb dX12_feud_34 rfl (lv_at hl 2 rfl) ?_
    refine lv_i2l (v := a2.toInt64) hx hb dX12_feud_35 rfl ?_
    refine lv_lconst (v := (0 : Int64)) hx hb dX12_feud_36 (by decide) ?_
    refine lv_lconst (v := (1 : Int64)) hx hb dX12_feud_37 (by decide) ?_
    obtain ⟨z2, hg, hf⟩ := tc_bi hf
    refine tc_iS0 (As := [.long (a2.toInt64), .long ((0 : Int64)), .long ((1 : Int64))]) (rest := []) X hP hD hS (mX12_isIn hg) okX12_isIn wl_X12_98 wt_X12_isIn ⟨rfl, rfl, Nat.le_of_ble_eq_true rfl, Nat.le_of_ble_eq_true rfl⟩ rfl hl.1 (Nat.le_of_ble_eq_true rfl) dX12_feud_38 (fun H locs hP hD hS => ?_)
    refine lv_if_eq (tgt := 61) hx hb dX12_feud_41 (by decide) (fun hc => ?_) (fun hc => ?_)
    · have hf := tc_pos hc hf
      refine lv_aload_n hx hb dX12_feud_61 rfl (lv_at hl 0 rfl) ?_
      refine lv_iconst (v := (5 : Int32)) hx hb dX12_feud_62 (by decide) ?_
      obtain ⟨z3, hg, hf⟩ := tc_bi hf
      refine tc_iVs (As := [.int ((5 : Int32))]) (rest := []) (b := q 0) X hP hD hS (mX12_refuse hg) okX12_refuse wl_X12_333 wi_X12_refuse ws_X12_X12_refuse_X12_refuse ⟨rfl, rfl, Nat.le_of_ble_eq_true rfl, Nat.le_of_ble_eq_true rfl⟩ 12 0 rfl rfl rfl hl.1 (Nat.le_of_ble_eq_true rfl) dX12_feud_63 (fun H locs hP hD hS => ?_)
      obtain rfl := Option.some.inj hf
      exact tc_ri X hP hD hS rfl dX12_feud_66 rfl rfl
    · have hf := tc_neg hc hf
      refine lv_aload_n hx hb dX12_feud_44 rfl (lv_at hl 0 rfl) ?_
      refine va_get (D := (dC, dI)) (ci := 12) (v := .ref (q 5)) (C := RX12) (T := TX12) (N := 49) hx hb hts i_X12 hown hK hP 0 rfl rfl 20 (by decide) (hts _ wf_X12_35) (fun _ h9 => h9) rfl dX12_feud_45 ?_
      refine lv_bipush (v := (72 : Int32)) hx hb dX12_feud_48 (by decide) ?_
      refine lv_bipush (v := (10 : Int32)) hx hb dX12_feud_50 (by decide) ?_
      refine lv_iload_n hx hb dX12_feud_52 rfl (lv_at hl 2 rfl) ?_
      refine lv_imul hx hb dX12_feud_53 ?_
      refine lv_iadd hx hb dX12_feud_54 ?_
      refine lv_iload_n hx hb dX12_feud_55 rfl (lv_at hl 1 rfl) ?_
      refine lv_iadd hx hb dX12_feud_56 ?_
      obtain ⟨hi4, hf⟩ := tc_in hf
      refine va_iald hx hb hK hP 5 1 rfl rfl hi4 dX12_feud_57 ?_
      refine lv_goto (tgt := 66) hx hb dX12_feud_58 (by decide) ?_
      obtain rfl := Option.some.inj hf
      exact tc_ri X hP hD hS rfl dX12_feud_66 rfl rfl
  · have hf := tc_pos hc hf
    refine lv_aload_n hx hb dX12_feud_28 rfl (lv_at hl 0 rfl) ?_
    refine lv_iconst (v := (2 : Int32)) hx hb dX12_feud_29 (by decide) ?_
    obtain ⟨z5, hg, hf⟩ := tc_bi hf
    refine tc_iVs (As := [.int ((2 : Int32))]) (rest := []) (b := q 0) X hP hD hS (mX12_refuse hg) okX12_refuse wl_X12_333 wi_X12_refuse ws_X12_X12_refuse_X12_refuse ⟨rfl, rfl, Nat.le_of_ble_eq_true rfl, Nat.le_of_ble_eq_true rfl⟩ 12 0 rfl rfl rfl hl.1 (Nat.le_of_ble_eq_true rfl) dX12_feud_30 (fun H locs hP hD hS => ?_)
    obtain rfl := Option.some.inj hf
    exact tc_ri X hP hD hS rfl dX12_feud_33 rfl rfl
def fX12_copyHeights_62    : Nat → ms_T → Int32 → Int32 → Option (Int32 × ms_T)
  | 0, _, _, _ => none
  | n + 1, S, v1, v2 =>
    if (ia S 5 (2 : Int32)) ≤ v2 then
      some (ia S 5 (2 : Int32), S)
    else
      if inb ((54 : Int32) + v2) 1820 = true then
        (fX12_write S v1 v2 ((ia S 5 ((54 : Int32) + v2)).toInt64)).bind fun z5 =>
        fX12_copyHeights_62 n z5.2 v1 (v2 + (1 : Int32))
      else none
def fX12_copyHeights  (S : ms_T) (a1 : Int32) : Option (Int32 × ms_T) :=
  (fX12_isTray (si (si S 1 (0 : Int32)) 0 (0 : Int32)) a1).bind fun z1 =>
  if z1 = 0 then
    (fX12_refuse (si (si S 1 (0 : Int32)) 0 (0 : Int32)) (1 : Int32)).bind fun z8 =>
    some (z8.1, z8.2)
  else
    if inb a1 4 = true then
      if 0 ≤ (ia (si (si S 1 (0 : Int32)) 0 (0 : Int32)) 2 a1) then
        if inb a1 4 = true then
          if (ia (si (si S 1 (0 : Int32)) 0 (0 : Int32)) 5 (2 : Int32)) ≤ (ia (si (si S 1 (0 : Int32)) 0 (0 : Int32)) 2 a1) then
            fX12_copyHeights_62 FU (si (si S 1 (0 : Int32)) 0 (0 : Int32)) a1 (0 : Int32)
          else
            (fX12_refuse (si (si S 1 (0 : Int32)) 0 (0 : Int32)) (4 : Int32)).bind fun z6 =>
            some (z6.1, z6.2)
        else none
      else
        (fX12_refuse (si (si S 1 (0 : Int32)) 0 (0 : Int32)) (3 : Int32)).bind fun z7 =>
        some (z7.1, z7.2)
    else none
abbrev rmX12_copyHeights : Room := { frames := 3, cells := 0, slots := 0, locals := 68 }
theorem okX12_copyHeights : tc_ok yX12_copyHeights cX12_copyHeights 3 (some .int) 1 := ⟨wc_X12_copyHeights, wn_X12, by decide, by decide, by decide +kernel⟩
set_option maxRecDepth 20000 in
theorem tX12_copyHeights_62 {q : Nat → Nat}  (X : tc_X dC dI ca A RX12 cX12_copyHeights 3 (some .int) p s m args meth c) (z : Int32 × ms_T)     : ∀ n : Nat, ∀ (S : ms_T) (v1 : Int32) (v2 : Int32), fX12_copyHeights_62 n S v1 v2 = some z → ∀ (H : Heap) (locs : List Loc) (ls : Array Slot), va_P (dC, dI) classes (w12 ca q S) H → va_D A (w12 ca q S) → va_S A s.heap H locs → lv_has ls 3 [(0, .ref (q 0)), (1, .int (v1)), (2, .int (v2))] → W p l e rmX12_copyHeights s m args below meth c H locs 0 0 (MQ below (tc_QI dC dI ca A (w12 ca q z.2) (z.1)) args s 0 0 A) (F0 m 62 ls []) := by
  obtain ⟨hx, hb, hr, hml, hown, hts, hlk, hK, hA, hG⟩ := id X
  intro n
  induction n with
  | zero => intro S v1 v2 hf; exact absurd (show none = some z from hf) (fun h => by cases h)
  | succ n ih =>
    intro S v1 v2 hf H locs ls hP hD hS hl
    rw [fX12_copyHeights_62] at hf
    refine lv_iload_n hx hb dX12_copyHeights_62 rfl (lv_at hl 2 rfl) ?_
    refine lv_aload_n hx hb dX12_copyHeights_63 rfl (lv_at hl 0 rfl) ?_
    refine va_get (D := (dC, dI)) (ci := 12) (v := .ref (q 5)) (C := RX12) (T := TX12) (N := 49) hx hb hts i_X12 hown hK hP 0 rfl rfl 20 (by decide) (hts _ wf_X12_35) (fun _ h9 => h9) rfl dX12_copyHeights_64 ?_
    refine lv_iconst (v := (2 : Int32)) hx hb dX12_copyHeights_67 (by decide) ?_
    refine va_iald hx hb hK hP 5 1 rfl rfl (inb_vp (by decide)) dX12_copyHeights_68 ?_
    refine lv_icmp_ge (tgt := 95) hx hb dX12_copyHeights_69 (by decide) (fun hc => ?_) (fun hc => ?_)
    · have hf := tc_pos hc hf
      refine lv_aload_n hx hb dX12_copyHeights_95 rfl (lv_at hl 0 rfl) ?_
      refine va_get (D := (dC, dI)) (ci := 12) (v := .ref (q 5)) (C := RX12) (T := TX12) (N := 49) hx hb hts i_X12 hown hK hP 0 rfl rfl 20 (by decide) (hts _ wf_X12_35) (fun _ h9 => h9) rfl dX12_copyHeights_96 ?_
      refine lv_iconst (v := (2 : Int32)) hx hb dX12_copyHeights_99 (by decide) ?_
      refine va_iald hx hb hK hP 5 1 rfl rfl (inb_vp (by decide)) dX12_copyHeights_100 ?_
      obtain rfl := Option.some.inj hf
      exact tc_ri X hP hD hS rfl dX12_copyHeights_101 rfl rfl
    · have hf := tc_neg hc hf
      refine lv_aload_n hx hb dX12_copyHeights_72 rfl (lv_at hl 0 rfl) ?_
      refine lv_iload_n hx hb dX12_copyHeights_73 rfl (lv_at hl 1 rfl) ?_
      refine lv_iload_n hx hb dX12_copyHeights_74 rfl (lv_at hl 2 rfl) ?_
      refine lv_aload_n hx hb dX12_copyHeights_75 rfl (lv_at hl 0 rfl) ?_
      refine va_get (D := (dC, dI)) (ci := 12) (v := .ref (q 5)) (C := RX12) (T := TX12) (N := 49) hx hb hts i_X12 hown hK hP 0 rfl rfl 20 (by decide) (hts _ wf_X12_35) (fun _ h9 => h9) rfl dX12_copyHeights_76 ?_
      refine lv_bipush (v := (54 : Int32)) hx hb dX12_copyHeights_79 (by decide) ?_
      refine lv_iload_n hx hb dX12_copyHeights_81 rfl (lv_at hl 2 rfl) ?_
      refine lv_iadd hx hb dX12_copyHeights_82 ?_
      obtain ⟨hi4, hf⟩ := tc_in hf
      refine va_iald hx hb hK hP 5 1 rfl rfl hi4 dX12_copyHeights_83 ?_
      refine lv_i2l (v := (ia S 5 ((54 : Int32) + v2)).toInt64) hx hb dX12_copyHeights_84 rfl ?_
      obtain ⟨z5, hg, hf⟩ := tc_bi hf
      refine tc_iVs (As := [.int (v1), .int (v2), .long ((ia S 5 ((54 : Int32) + v2)).toInt64)]) (rest := []) (b := q 0) X hP hD hS (mX12_write hg) okX12_write wl_X12_373 wi_X12_write ws_X12_X12_write_X12_write ⟨rfl, rfl, Nat.le_of_ble_eq_true rfl, Nat.le_of_ble_eq_true rfl⟩ 12 0 rfl rfl rfl hl.1 (Nat.le_of_ble_eq_true rfl) dX12_copyHeights_85 (fun H locs hP hD hS => ?_)
      refine lv_pop hx hb dX12_copyHeights_88 rfl ?_
      refine lv_iinc (v := v2 + (1 : Int32)) (lv' := [(2, .int (v2 + (1 : Int32))), (0, .ref (q 0)), (1, .int (v1))]) hx hb dX12_copyHeights_89 hl (k := 2) rfl rfl (by decide) rfl (fun ls hl => ?_)
      refine lv_goto (tgt := 62) hx hb dX12_copyHeights_92 (by decide) ?_
      exact ih z5.2 v1 (v2 + (1 : Int32)) hf _ _ _ hP hD hS (lv_sub hl [1, 2, 0] rfl)
set_option maxRecDepth 20000 in
theorem mX12_copyHeights {q : Nat → Nat}  {S : ms_T} {a1 : Int32} {z : Int32 × ms_T}  (hf : fX12_copyHeights S a1 = some z) : tc_MI l dC dI ca yX12_copyHeights cX12_copyHeights 3 (some .int) rmX12_copyHeights [.ref (q 0), .int (a1)] (w12 ca q S) (w12 ca q z.2) (z.1) := by
  refine tc_metI (own := RX12) (by decide) rfl ?_ (Nat.le_of_ble_eq_true rfl)
  intro p e s m below meth c A X hP hD hS ls hl
  obtain ⟨hx, hb, hr, hml, hown, hts, hlk, hK, hA, hG⟩ := id X
  unfold fX12_copyHeights at hf
  have hl : lv_has ls 3 [(0, .ref (q 0)), (1, .int (a1))] := hl
  refine lv_aload_n hx hb dX12_copyHeights_0 rfl (lv_at hl 0 rfl) ?_
  refine lv_iconst (v := (0 : Int32)) hx hb dX12_copyHeights_1 (by decide) ?_
  refine va_put (D := (dC, dI)) (ci := 12) (v := .int ((0 : Int32))) (ty := .int) (C := RX12) (T := TX12) (N := 49) hx hb hts i_X12 tyX12 tyX12_ok nmX12 hown hK hP hD hS 0 rfl rfl 1 (by decide) (hts _ wf_X12_63) (fun _ h9 => h9) rfl (tyX12_ok 1 (by decide)) rfl rfl (Nat.le_of_ble_eq_true rfl) dX12_copyHeights_2 (fun H locs hP hD hS => ?_)
  have hP := tc_eP (pw12_0_1 ca q S (0 : Int32)) hP
  have hD := tc_eD (pw12_0_1 ca q S (0 : Int32)) hD
  refine lv_aload_n hx hb dX12_copyHeights_5 rfl (lv_at hl 0 rfl) ?_
  refine lv_iconst (v := (0 : Int32)) hx hb dX12_copyHeights_6 (by decide) ?_
  refine va_put (D := (dC, dI)) (ci := 12) (v := .int ((0 : Int32))) (ty := .int) (C := RX12) (T := TX12) (N := 49) hx hb hts i_X12 tyX12 tyX12_ok nmX12 hown hK hP hD hS 0 rfl rfl 0 (by decide) (hts _ wf_X12_66) (fun _ h9 => h9) rfl (tyX12_ok 0 (by decide)) rfl rfl (Nat.le_of_ble_eq_true rfl) dX12_copyHeights_7 (fun H locs hP hD hS => ?_)
  have hP := tc_eP (pw12_0_0 ca q (si S 1 (0 : Int32)) (0 : Int32)) hP
  have hD := tc_eD (pw12_0_0 ca q (si S 1 (0 : Int32)) (0 : Int32)) hD
  refine lv_aload_n hx hb dX12_copyHeights_10 rfl (lv_at hl 0 rfl) ?_
  refine lv_iload_n hx hb dX12_copyHeights_11 rfl (lv_at hl 1 rfl) ?_
  obtain ⟨z1, hg, hf⟩ := tc_bi hf
  refine tc_iVs (As := [.int (a1)]) (rest := []) (b := q 0) X hP hD hS (mX12_isTray hg) okX12_isTray wl_X12_370 wi_X12_isTray ws_X12_X12_isTray_X12_isTray ⟨rfl, rfl, Nat.le_of_ble_eq_true rfl, Nat.le_of_ble_eq_true rfl⟩ 12 0 rfl rfl rfl hl.1 (Nat.le_of_ble_eq_true rfl) dX12_copyHeights_12 (fun H locs hP hD hS => ?_)
  refine lv_if_ne (tgt := 24) hx hb dX12_copyHeights_15 (by decide) (fun hc => ?_) (fun hc => ?_)
  · have hf := tc_neg hc hf
    refine lv_aload_n hx hb dX12_copyHeights_24 rfl (lv_at hl 0 rfl) ?_
    refine va_get (D := (dC, dI)) (ci := 12) (v := .ref (q 2)) (C := RX12) (T := TX12) (N := 49) hx hb hts i_X12 hown hK hP 0 rfl rfl 5 (by decide) (hts _ wf_X12_17) (fun _ h9 => h9) rfl dX12_copyHeights_25 ?_
    refine lv_iload_n hx hb dX12_copyHeights_28 rfl (lv_at hl 1 rfl) ?_
    obtain ⟨hi2, hf⟩ := tc_in hf
    refine va_iald hx hb hK hP 2 1 rfl rfl hi2 dX12_copyHeights_29 ?_
    refine lv_if_ge (tgt := 39) hx hb dX12_copyHeights_30 (by decide) (fun hc => ?_) (fun hc => ?_)
    · have hf := tc_pos hc hf
      refine lv_aload_n hx hb dX12_copyHeights_39 rfl (lv_at hl 0 rfl) ?_
      refine va_get (D := (dC, dI)) (ci := 12) (v := .ref (q 2)) (C := RX12) (T := TX12) (N := 49) hx hb hts i_X12 hown hK hP 0 rfl rfl 5 (by decide) (hts _ wf_X12_17) (fun _ h9 => h9) rfl dX12_copyHeights_40 ?_
      refine lv_iload_n hx hb dX12_copyHeights_43 rfl (lv_at hl 1 rfl) ?_
      obtain ⟨hi3, hf⟩ := tc_in hf
      refine va_iald hx hb hK hP 2 1 rfl rfl hi3 dX12_copyHeights_44 ?_
      refine lv_aload_n hx hb dX12_copyHeights_45 rfl (lv_at hl 0 rfl) ?_
      refine va_get (D := (dC, dI)) (ci := 12) (v := .ref (q 5)) (C := RX12) (T := TX12) (N := 49) hx hb hts i_X12 hown hK hP 0 rfl rfl 20 (by decide) (hts _ wf_X12_35) (fun _ h9 => h9) rfl dX12_copyHeights_46 ?_
      refine lv_iconst (v := (2 : Int32)) hx hb dX12_copyHeights_49 (by decide) ?_
      refine va_iald hx hb hK hP 5 1 rfl rfl (inb_vp (by decide)) dX12_copyHeights_50 ?_
      refine lv_icmp_ge (tgt := 60) hx hb dX12_copyHeights_51 (by decide) (fun hc => ?_) (fun hc => ?_)
      · have hf := tc_pos hc hf
        refine lv_iconst (v := (0 : Int32)) hx hb dX12_copyHeights_60 (by decide) ?_
        refine lv_istore_n (lv' := [(2, .int ((0 : Int32))), (0, .ref (q 0)), (1, .int (a1))]) hx hb dX12_copyHeights_61 rfl hl (by decide) rfl (fun ls hl => ?_)
        exact tX12_copyHeights_62 X z FU (si (si S 1 (0 : Int32)) 0 (0 : Int32)) a1 (0 : Int32) hf _ _ _ hP hD hS (lv_sub hl [1, 2, 0] rfl)
      · have hf := tc_neg hc hf
        refine lv_aload_n hx hb dX12_copyHeights_54 rfl (lv_at hl 0 rfl) ?_
        refine lv_iconst (v := (4 : Int32)) hx hb dX12_copyHeights_55 (by decide) ?_
        obtain ⟨z6, hg, hf⟩ := tc_bi hf
        refine tc_iVs (As := [.int ((4 : Int32))]) (rest := []) (b := q 0) X hP hD hS (mX12_refuse hg) okX12_refuse wl_X12_333 wi_X12_refuse ws_X12_X12_refuse_X12_refuse ⟨rfl, rfl, Nat.le_of_ble_eq_true rfl, Nat.le_of_ble_eq_true rfl⟩ 12 0 rfl rfl rfl hl.1 (Nat.le_of_ble_eq_true rfl) dX12_copyHeights_56 (fun H locs hP hD hS => ?_)
        obtain rfl := Option.some.inj hf
        exact tc_ri X hP hD hS rfl dX12_copyHeights_59 rfl rfl
    · have hf := tc_neg hc hf
      refine lv_aload_n hx hb dX12_copyHeights_33 rfl (lv_at hl 0 rfl) ?_
      refine lv_iconst (v := (3 : Int32)) hx hb dX12_copyHeights_34 (by decide) ?_
      obtain ⟨z7, hg, hf⟩ := tc_bi hf
      refine tc_iVs (As := [.int ((3 : Int32))]) (rest := []) (b := q 0) X hP hD hS (mX12_refuse hg) okX12_refuse wl_X12_333 wi_X12_refuse ws_X12_X12_refuse_X12_refuse ⟨rfl, rfl, Nat.le_of_ble_eq_true rfl, Nat.le_of_ble_eq_true rfl⟩ 12 0 rfl rfl rfl hl.1 (Nat.le_of_ble_eq_true rfl) dX12_copyHeights_35 (fun H locs hP hD hS => ?_)
      obtain rfl := Option.some.inj hf
      exact tc_ri X hP hD hS rfl dX12_copyHeights_38 rfl rfl
  · have hf := tc_pos hc hf
    refine lv_aload_n hx hb dX12_copyHeights_18 rfl (lv_at hl 0 rfl) ?_
    refine lv_iconst (v := (1 : Int32)) hx hb dX12_copyHeights_19 (by decide) ?_
    obtain ⟨z8, hg, hf⟩ := tc_bi hf
    refine tc_iVs (As := [.int ((1 : Int32))]) (rest := []) (b := q 0) X hP hD hS (mX12_refuse hg) okX12_refuse wl_X12_333 wi_X12_refuse ws_X12_X12_refuse_X12_refuse ⟨rfl, rfl, Nat.le_of_ble_eq_true rfl, Nat.le_of_ble_eq_true rfl⟩ 12 0 rfl rfl rfl hl.1 (Nat.le_of_ble_eq_true rfl) dX12_copyHeights_20 (fun H locs hP hD hS => ?_)
    obtain rfl := Option.some.inj hf
    exact tc_ri X hP hD hS rfl dX12_copyHeights_23 rfl rfl
def fX12_says_52    (S : ms_T) (t0 : Int32) (t1 : Int32) : Option (Int32 × ms_T) :=
  if inb t1 1820 = true then
    some ((1 : Int32), sa (sa S 5 t1 t0) 5 (5 : Int32) ((ia (sa S 5 t1 t0) 5 (5 : Int32)) + (1 : Int32)))
  else none
def fX12_says  (S : ms_T) (a1 : Int32) (a2 : Int32) : Option (Int32 × ms_T) :=
  (fX12_canSay S a1 a2).bind fun z1 =>
  if z1 = 0 then
    some ((0 : Int32), S)
  else
    if inb ((24 : Int32) + a2) 1820 = true then
      if inb ((54 : Int32) + a1) 1820 = true then
        (fX12_isHollow (sa S 5 ((54 : Int32) + a1) ((ia S 5 ((24 : Int32) + a2)) + (1 : Int32))) a2).bind fun z4 =>
        if z4 = 0 then
          fX12_says_52 (sa S 5 ((54 : Int32) + a1) ((ia S 5 ((24 : Int32) + a2)) + (1 : Int32))) (0 : Int32) ((60 : Int32) + a1)
        else
          fX12_says_52 (sa S 5 ((54 : Int32) + a1) ((ia S 5 ((24 : Int32) + a2)) + (1 : Int32))) (1 : Int32) ((60 : Int32) + a1)
      else none
    else none
abbrev rmX12_says : Room := { frames := 3, cells := 0, slots := 0, locals := 68 }
theorem okX12_says : tc_ok yX12_says cX12_says 3 (some .boolean) 2 := ⟨wc_X12_says, wn_X12, by decide, by decide, by decide +kernel⟩
set_option maxRecDepth 20000 in
theorem tX12_says_52 {q : Nat → Nat}  (X : tc_X dC dI ca A RX12 cX12_says 3 (some .boolean) p s m args meth c) (z : Int32 × ms_T)     : ∀ (S : ms_T) (t0 : Int32) (t1 : Int32), fX12_says_52 S t0 t1 = some z → ∀ (H : Heap) (locs : List Loc) (ls : Array Slot), va_P (dC, dI) classes (w12 ca q S) H → va_D A (w12 ca q S) → va_S A s.heap H locs → lv_has ls 3 [(0, .ref (q 0))] → W p l e rmX12_says s m args below meth c H locs 0 0 (MQ below (tc_QI dC dI ca A (w12 ca q z.2) (z.1)) args s 0 0 A) (F0 m 52 ls [.int (t0), .int (t1), .ref (q 5)]) := by
  obtain ⟨hx, hb, hr, hml, hown, hts, hlk, hK, hA, hG⟩ := id X
  intro S t0 t1 hf H locs ls hP hD hS hl
  unfold fX12_says_52 at hf
  obtain ⟨hi5, hf⟩ := tc_in hf
  refine va_iast hx hb hK hP hD hS 5 1 rfl rfl hi5 dX12_says_52 (fun H locs hP hD hS => ?_)
  have hP := tc_eP (aw12_0_5 ca q S t1 t0) hP
  have hD := tc_eD (aw12_0_5 ca q S t1 t0) hD
  refine lv_aload_n hx hb dX12_says_53 rfl (lv_at hl 0 rfl) ?_
  refine va_get (D := (dC, dI)) (ci := 12) (v := .ref (q 5)) (C := RX12) (T := TX12) (N := 49) hx hb hts i_X12 hown hK hP 0 rfl rfl 20 (by decide) (hts _ wf_X12_35) (fun _ h9 => h9) rfl dX12_says_54 ?_
  refine lv_iconst (v := (5 : Int32)) hx hb dX12_says_57 (by decide) ?_
  refine lv_dup2_11 hx hb dX12_says_58 rfl rfl ?_
  refine va_iald hx hb hK hP 5 1 rfl rfl (inb_vp (by decide)) dX12_says_59 ?_
  refine lv_iconst (v := (1 : Int32)) hx hb dX12_says_60 (by decide) ?_
  refine lv_iadd hx hb dX12_says_61 ?_
  refine va_iast hx hb hK hP hD hS 5 1 rfl rfl (inb_vp (by decide)) dX12_says_62 (fun H locs hP hD hS => ?_)
  have hP := tc_eP (aw12_0_5 ca q (sa S 5 t1 t0) (5 : Int32) ((ia (sa S 5 t1 t0) 5 (5 : Int32)) + (1 : Int32))) hP
  have hD := tc_eD (aw12_0_5 ca q (sa S 5 t1 t0) (5 : Int32) ((ia (sa S 5 t1 t0) 5 (5 : Int32)) + (1 : Int32))) hD
  refine lv_iconst (v := (1 : Int32)) hx hb dX12_says_63 (by decide) ?_
  obtain rfl := Option.some.inj hf
  exact tc_rz X hP hD hS rfl dX12_says_64 (by decide) rfl rfl
set_option maxRecDepth 20000 in
theorem mX12_says {q : Nat → Nat}  {S : ms_T} {a1 : Int32} {a2 : Int32} {z : Int32 × ms_T}  (hf : fX12_says S a1 a2 = some z) : tc_MI l dC dI ca yX12_says cX12_says 3 (some .boolean) rmX12_says [.ref (q 0), .int (a1), .int (a2)] (w12 ca q S) (w12 ca q z.2) (z.1) := by
  refine tc_metI (own := RX12) (by decide) rfl ?_ (Nat.le_of_ble_eq_true rfl)
  intro p e s m below meth c A X hP hD hS ls hl
  obtain ⟨hx, hb, hr, hml, hown, hts, hlk, hK, hA, hG⟩ := id X
  unfold fX12_says at hf
  have hl : lv_has ls 3 [(0, .ref (q 0)), (1, .int (a1)), (2, .int (a2))] := hl
  refine lv_aload_n hx hb dX12_says_0 rfl (lv_at hl 0 rfl) ?_
  refine lv_iload_n hx hb dX12_says_1 rfl (lv_at hl 1 rfl) ?_
  refine lv_iload_n hx hb dX12_says_2 rfl (lv_at hl 2 rfl) ?_
  obtain ⟨z1, hg, hf⟩ := tc_bi hf
  refine tc_iVs (As := [.int (a1), .int (a2)]) (rest := []) (b := q 0) X hP hD hS (mX12_canSay hg) okX12_canSay wl_X12_359 wi_X12_canSay ws_X12_X12_canSay_X12_canSay ⟨rfl, rfl, Nat.le_of_ble_eq_true rfl, Nat.le_of_ble_eq_true rfl⟩ 12 0 rfl rfl rfl hl.1 (Nat.le_of_ble_eq_true rfl) dX12_says_3 (fun H locs hP hD hS => ?_)
  refine lv_if_ne (tgt := 11) hx hb dX12_says_6 (by decide) (fun hc => ?_) (fun hc => ?_)
  · have hf := tc_neg hc hf
    refine lv_aload_n hx hb dX12_says_11 rfl (lv_at hl 0 rfl) ?_
    refine va_get (D := (dC, dI)) (ci := 12) (v := .ref (q 5)) (C := RX12) (T := TX12) (N := 49) hx hb hts i_X12 hown hK hP 0 rfl rfl 20 (by decide) (hts _ wf_X12_35) (fun _ h9 => h9) rfl dX12_says_12 ?_
    refine lv_bipush (v := (54 : Int32)) hx hb dX12_says_15 (by decide) ?_
    refine lv_iload_n hx hb dX12_says_17 rfl (lv_at hl 1 rfl) ?_
    refine lv_iadd hx hb dX12_says_18 ?_
    refine lv_aload_n hx hb dX12_says_19 rfl (lv_at hl 0 rfl) ?_
    refine va_get (D := (dC, dI)) (ci := 12) (v := .ref (q 5)) (C := RX12) (T := TX12) (N := 49) hx hb hts i_X12 hown hK hP 0 rfl rfl 20 (by decide) (hts _ wf_X12_35) (fun _ h9 => h9) rfl dX12_says_20 ?_
    refine lv_bipush (v := (24 : Int32)) hx hb dX12_says_23 (by decide) ?_
    refine lv_iload_n hx hb dX12_says_25 rfl (lv_at hl 2 rfl) ?_
    refine lv_iadd hx hb dX12_says_26 ?_
    obtain ⟨hi2, hf⟩ := tc_in hf
    refine va_iald hx hb hK hP 5 1 rfl rfl hi2 dX12_says_27 ?_
    refine lv_iconst (v := (1 : Int32)) hx hb dX12_says_28 (by decide) ?_
    refine lv_iadd hx hb dX12_says_29 ?_
    obtain ⟨hi3, hf⟩ := tc_in hf
    refine va_iast hx hb hK hP hD hS 5 1 rfl rfl hi3 dX12_says_30 (fun H locs hP hD hS => ?_)
    have hP := tc_eP (aw12_0_5 ca q S ((54 : Int32) + a1) ((ia S 5 ((24 : Int32) + a2)) + (1 : Int32))) hP
    have hD := tc_eD (aw12_0_5 ca q S ((54 : Int32) + a1) ((ia S 5 ((24 : Int32) + a2)) + (1 : Int32))) hD
    refine lv_aload_n hx hb dX12_says_31 rfl (lv_at hl 0 rfl) ?_
    refine va_get (D := (dC, dI)) (ci := 12) (v := .ref (q 5)) (C := RX12) (T := TX12) (N := 49) hx hb hts i_X12 hown hK hP 0 rfl rfl 20 (by decide) (hts _ wf_X12_35) (fun _ h9 => h9) rfl dX12_says_32 ?_
    refine lv_bipush (v := (60 : Int32)) hx hb dX12_says_35 (by decide) ?_
    refine lv_iload_n hx hb dX12_says_37 rfl (lv_at hl 1 rfl) ?_
    refine lv_iadd hx hb dX12_says_38 ?_
    refine lv_aload_n hx hb dX12_says_39 rfl (lv_at hl 0 rfl) ?_
    refine lv_iload_n hx hb dX12_says_40 rfl (lv_at hl 2 rfl) ?_
    obtain ⟨z4, hg, hf⟩ := tc_bi hf
    refine tc_iVs (As := [.int (a2)]) (rest := [.int ((60 : Int32) + a1), .ref (q 5)]) (b := q 0) X hP hD hS (mX12_isHollow hg) okX12_isHollow wl_X12_354 wi_X12_isHollow ws_X12_X12_isHollow_X12_isHollow ⟨rfl, rfl, Nat.le_of_ble_eq_true rfl, Nat.le_of_ble_eq_true rfl⟩ 12 0 rfl rfl rfl hl.1 (Nat.le_of_ble_eq_true rfl) dX12_says_41 (fun H locs hP hD hS => ?_)
    refine lv_if_eq (tgt := 51) hx hb dX12_says_44 (by decide) (fun hc => ?_) (fun hc => ?_)
    · have hf := tc_pos hc hf
      refine lv_iconst (v := (0 : Int32)) hx hb dX12_says_51 (by decide) ?_
      exact tX12_says_52 X z (sa S 5 ((54 : Int32) + a1) ((ia S 5 ((24 : Int32) + a2)) + (1 : Int32))) (0 : Int32) ((60 : Int32) + a1) hf _ _ _ hP hD hS (lv_sub hl [0] rfl)
    · have hf := tc_neg hc hf
      refine lv_iconst (v := (1 : Int32)) hx hb dX12_says_47 (by decide) ?_
      refine lv_goto (tgt := 52) hx hb dX12_says_48 (by decide) ?_
      exact tX12_says_52 X z (sa S 5 ((54 : Int32) + a1) ((ia S 5 ((24 : Int32) + a2)) + (1 : Int32))) (1 : Int32) ((60 : Int32) + a1) hf _ _ _ hP hD hS (lv_sub hl [0] rfl)
  · have hf := tc_pos hc hf
    refine lv_iconst (v := (0 : Int32)) hx hb dX12_says_9 (by decide) ?_
    obtain rfl := Option.some.inj hf
    exact tc_rz X hP hD hS rfl dX12_says_10 (by decide) rfl rfl
def fX12_say_26    (S : ms_T) : Option (Int32 × ms_T) :=
  (fX12_refuse S (2 : Int32)).bind fun z2 =>
  some (z2.1, z2.2)
def fX12_say  (S : ms_T) (a1 : Int32) (a2 : Int32) : Option (Int32 × ms_T) :=
  (fX12_isTalkerAt (si (si S 1 (0 : Int32)) 0 (0 : Int32)) a1).bind fun z1 =>
  if z1 = 0 then
    fX12_say_26 (si (si S 1 (0 : Int32)) 0 (0 : Int32))
  else
    (fX12_isClaimAt (si (si S 1 (0 : Int32)) 0 (0 : Int32)) a2).bind fun z3 =>
    if z3 = 0 then
      fX12_say_26 (si (si S 1 (0 : Int32)) 0 (0 : Int32))
    else
      (fX12_says (si (si S 1 (0 : Int32)) 0 (0 : Int32)) a1 a2).bind fun z4 =>
      if z4.1 = 0 then
        (fX12_refuse z4.2 (9 : Int32)).bind fun z5 =>
        some (z5.1, z5.2)
      else
        if inb ((54 : Int32) + a1) 1820 = true then
          some (ia z4.2 5 ((54 : Int32) + a1), z4.2)
        else none
abbrev rmX12_say : Room := { frames := 4, cells := 0, slots := 0, locals := 90 }
theorem okX12_say : tc_ok yX12_say cX12_say 3 (some .int) 2 := ⟨wc_X12_say, wn_X12, by decide, by decide, by decide +kernel⟩
set_option maxRecDepth 20000 in
theorem tX12_say_26 {q : Nat → Nat}  (X : tc_X dC dI ca A RX12 cX12_say 3 (some .int) p s m args meth c) (z : Int32 × ms_T)     : ∀ (S : ms_T), fX12_say_26 S = some z → ∀ (H : Heap) (locs : List Loc) (ls : Array Slot), va_P (dC, dI) classes (w12 ca q S) H → va_D A (w12 ca q S) → va_S A s.heap H locs → lv_has ls 3 [(0, .ref (q 0))] → W p l e rmX12_say s m args below meth c H locs 0 0 (MQ below (tc_QI dC dI ca A (w12 ca q z.2) (z.1)) args s 0 0 A) (F0 m 26 ls []) := by
  obtain ⟨hx, hb, hr, hml, hown, hts, hlk, hK, hA, hG⟩ := id X
  intro S hf H locs ls hP hD hS hl
  unfold fX12_say_26 at hf
  refine lv_aload_n hx hb dX12_say_26 rfl (lv_at hl 0 rfl) ?_
  refine lv_iconst (v := (2 : Int32)) hx hb dX12_say_27 (by decide) ?_
  obtain ⟨z2, hg, hf⟩ := tc_bi hf
  refine tc_iVs (As := [.int ((2 : Int32))]) (rest := []) (b := q 0) X hP hD hS (mX12_refuse hg) okX12_refuse wl_X12_333 wi_X12_refuse ws_X12_X12_refuse_X12_refuse ⟨rfl, rfl, Nat.le_of_ble_eq_true rfl, Nat.le_of_ble_eq_true rfl⟩ 12 0 rfl rfl rfl hl.1 (Nat.le_of_ble_eq_true rfl) dX12_say_28 (fun H locs hP hD hS => ?_)
  obtain rfl := Option.some.inj hf
  exact tc_ri X hP hD hS rfl dX12_say_31 rfl rfl
set_option maxRecDepth 20000 in
theorem mX12_say {q : Nat → Nat}  {S : ms_T} {a1 : Int32} {a2 : Int32} {z : Int32 × ms_T}  (hf : fX12_say S a1 a2 = some z) : tc_MI l dC dI ca yX12_say cX12_say 3 (some .int) rmX12_say [.ref (q 0), .int (a1), .int (a2)] (w12 ca q S) (w12 ca q z.2) (z.1) := by
  refine tc_metI (own := RX12) (by decide) rfl ?_ (Nat.le_of_ble_eq_true rfl)
  intro p e s m below meth c A X hP hD hS ls hl
  obtain ⟨hx, hb, hr, hml, hown, hts, hlk, hK, hA, hG⟩ := id X
  unfold fX12_say at hf
  have hl : lv_has ls 3 [(0, .ref (q 0)), (1, .int (a1)), (2, .int (a2))] := hl
  refine lv_aload_n hx hb dX12_say_0 rfl (lv_at hl 0 rfl) ?_
  refine lv_iconst (v := (0 : Int32)) hx hb dX12_say_1 (by decide) ?_
  refine va_put (D := (dC, dI)) (ci := 12) (v := .int ((0 : Int32))) (ty := .int) (C := RX12) (T := TX12) (N := 49) hx hb hts i_X12 tyX12 tyX12_ok nmX12 hown hK hP hD hS 0 rfl rfl 1 (by decide) (hts _ wf_X12_63) (fun _ h9 => h9) rfl (tyX12_ok 1 (by decide)) rfl rfl (Nat.le_of_ble_eq_true rfl) dX12_say_2 (fun H locs hP hD hS => ?_)
  have hP := tc_eP (pw12_0_1 ca q S (0 : Int32)) hP
  have hD := tc_eD (pw12_0_1 ca q S (0 : Int32)) hD
  refine lv_aload_n hx hb dX12_say_5 rfl (lv_at hl 0 rfl) ?_
  refine lv_iconst (v := (0 : Int32)) hx hb dX12_say_6 (by decide) ?_
  refine va_put (D := (dC, dI)) (ci := 12) (v := .int ((0 : Int32))) (ty := .int) (C := RX12) (T := TX12) (N := 49) hx hb hts i_X12 tyX12 tyX12_ok nmX12 hown hK hP hD hS 0 rfl rfl 0 (by decide) (hts _ wf_X12_66) (fun _ h9 => h9) rfl (tyX12_ok 0 (by decide)) rfl rfl (Nat.le_of_ble_eq_true rfl) dX12_say_7 (fun H locs hP hD hS => ?_)
  have hP := tc_eP (pw12_0_0 ca q (si S 1 (0 : Int32)) (0 : Int32)) hP
  have hD := tc_eD (pw12_0_0 ca q (si S 1 (0 : Int32)) (0 : Int32)) hD
  refine lv_aload_n hx hb dX12_say_10 rfl (lv_at hl 0 rfl) ?_
  refine lv_iload_n hx hb dX12_say_11 rfl (lv_at hl 1 rfl) ?_
  obtain ⟨z1, hg, hf⟩ := tc_bi hf
  refine tc_iVs (As := [.int (a1)]) (rest := []) (b := q 0) X hP hD hS (mX12_isTalkerAt hg) okX12_isTalkerAt wl_X12_362 wi_X12_isTalkerAt ws_X12_X12_isTalkerAt_X12_isTalkerAt ⟨rfl, rfl, Nat.le_of_ble_eq_true rfl, Nat.le_of_ble_eq_true rfl⟩ 12 0 rfl rfl rfl hl.1 (Nat.le_of_ble_eq_true rfl) dX12_say_12 (fun H locs hP hD hS => ?_)
  refine lv_if_eq (tgt := 26) hx hb dX12_say_15 (by decide) (fun hc => ?_) (fun hc => ?_)
  · have hf := tc_pos hc hf
    exact tX12_say_26 X z (si (si S 1 (0 : Int32)) 0 (0 : Int32)) hf _ _ _ hP hD hS (lv_sub hl [0] rfl)
  · have hf := tc_neg hc hf
    refine lv_aload_n hx hb dX12_say_18 rfl (lv_at hl 0 rfl) ?_
    refine lv_iload_n hx hb dX12_say_19 rfl (lv_at hl 2 rfl) ?_
    obtain ⟨z3, hg, hf⟩ := tc_bi hf
    refine tc_iVs (As := [.int (a2)]) (rest := []) (b := q 0) X hP hD hS (mX12_isClaimAt hg) okX12_isClaimAt wl_X12_351 wi_X12_isClaimAt ws_X12_X12_isClaimAt_X12_isClaimAt ⟨rfl, rfl, Nat.le_of_ble_eq_true rfl, Nat.le_of_ble_eq_true rfl⟩ 12 0 rfl rfl rfl hl.1 (Nat.le_of_ble_eq_true rfl) dX12_say_20 (fun H locs hP hD hS => ?_)
    refine lv_if_ne (tgt := 32) hx hb dX12_say_23 (by decide) (fun hc => ?_) (fun hc => ?_)
    · have hf := tc_neg hc hf
      refine lv_aload_n hx hb dX12_say_32 rfl (lv_at hl 0 rfl) ?_
      refine lv_iload_n hx hb dX12_say_33 rfl (lv_at hl 1 rfl) ?_
      refine lv_iload_n hx hb dX12_say_34 rfl (lv_at hl 2 rfl) ?_
      obtain ⟨z4, hg, hf⟩ := tc_bi hf
      refine tc_iVs (As := [.int (a1), .int (a2)]) (rest := []) (b := q 0) X hP hD hS (mX12_says hg) okX12_says wl_X12_377 wi_X12_says ws_X12_X12_says_X12_says ⟨rfl, rfl, Nat.le_of_ble_eq_true rfl, Nat.le_of_ble_eq_true rfl⟩ 12 0 rfl rfl rfl hl.1 (Nat.le_of_ble_eq_true rfl) dX12_say_35 (fun H locs hP hD hS => ?_)
      refine lv_if_eq (tgt := 53) hx hb dX12_say_38 (by decide) (fun hc => ?_) (fun hc => ?_)
      · have hf := tc_pos hc hf
        refine lv_aload_n hx hb dX12_say_53 rfl (lv_at hl 0 rfl) ?_
        refine lv_bipush (v := (9 : Int32)) hx hb dX12_say_54 (by decide) ?_
        obtain ⟨z5, hg, hf⟩ := tc_bi hf
        refine tc_iVs (As := [.int ((9 : Int32))]) (rest := []) (b := q 0) X hP hD hS (mX12_refuse hg) okX12_refuse wl_X12_333 wi_X12_refuse ws_X12_X12_refuse_X12_refuse ⟨rfl, rfl, Nat.le_of_ble_eq_true rfl, Nat.le_of_ble_eq_true rfl⟩ 12 0 rfl rfl rfl hl.1 (Nat.le_of_ble_eq_true rfl) dX12_say_56 (fun H locs hP hD hS => ?_)
        obtain rfl := Option.some.inj hf
        exact tc_ri X hP hD hS rfl dX12_say_59 rfl rfl
      · have hf := tc_neg hc hf
        refine lv_aload_n hx hb dX12_say_41 rfl (lv_at hl 0 rfl) ?_
        refine va_get (D := (dC, dI)) (ci := 12) (v := .ref (q 5)) (C := RX12) (T := TX12) (N := 49) hx hb hts i_X12 hown hK hP 0 rfl rfl 20 (by decide) (hts _ wf_X12_35) (fun _ h9 => h9) rfl dX12_say_42 ?_
        refine lv_bipush (v := (54 : Int32)) hx hb dX12_say_45 (by decide) ?_
        refine lv_iload_n hx hb dX12_say_47 rfl (lv_at hl 1 rfl) ?_
        refine lv_iadd hx hb dX12_say_48 ?_
        obtain ⟨hi6, hf⟩ := tc_in hf
        refine va_iald hx hb hK hP 5 1 rfl rfl hi6 dX12_say_49 ?_
        refine lv_goto (tgt := 59) hx hb dX12_say_50 (by decide) ?_
        obtain rfl := Option.some.inj hf
        exact tc_ri X hP hD hS rfl dX12_say_59 rfl rfl
    · have hf := tc_pos hc hf
      exact tX12_say_26 X z (si (si S 1 (0 : Int32)) 0 (0 : Int32)) hf _ _ _ hP hD hS (lv_sub hl [0] rfl)
def fX12_lowers  (S : ms_T) (a1 : Int32) (a2 : Int32) : Option (ms_T) :=
  if inb ((54 : Int32) + a1) 1820 = true then
    if inb ((54 : Int32) + a1) 1820 = true then
      if inb ((54 : Int32) + a1) 1820 = true then
        if (ia (sa S 5 ((54 : Int32) + a1) (jmax (0 : Int32) ((ia S 5 ((54 : Int32) + a1)) - a2))) 5 ((54 : Int32) + a1)) = 0 then
          if inb ((60 : Int32) + a1) 1820 = true then
            some (sa (sa S 5 ((54 : Int32) + a1) (jmax (0 : Int32) ((ia S 5 ((54 : Int32) + a1)) - a2))) 5 ((60 : Int32) + a1) (0 : Int32))
          else none
        else
          some (sa S 5 ((54 : Int32) + a1) (jmax (0 : Int32) ((ia S 5 ((54 : Int32) + a1)) - a2)))
      else none
    else none
  else none
abbrev rmX12_lowers : Room := { frames := 1, cells := 0, slots := 0, locals := 23 }
theorem okX12_lowers : tc_ok yX12_lowers cX12_lowers 3 none 2 := ⟨wc_X12_lowers, wn_X12, by decide, by decide, by decide +kernel⟩
set_option maxRecDepth 20000 in
theorem mX12_lowers {q : Nat → Nat}  {S : ms_T} {a1 : Int32} {a2 : Int32} {z : ms_T}  (hf : fX12_lowers S a1 a2 = some z) : tc_MV l dC dI ca yX12_lowers cX12_lowers 3 none rmX12_lowers [.ref (q 0), .int (a1), .int (a2)] (w12 ca q S) (w12 ca q z) := by
  refine tc_metV (own := RX12) (by decide) rfl ?_ (Nat.le_of_ble_eq_true rfl)
  intro p e s m below meth c A X hP hD hS ls hl
  obtain ⟨hx, hb, hr, hml, hown, hts, hlk, hK, hA, hG⟩ := id X
  unfold fX12_lowers at hf
  have hl : lv_has ls 3 [(0, .ref (q 0)), (1, .int (a1)), (2, .int (a2))] := hl
  refine lv_aload_n hx hb dX12_lowers_0 rfl (lv_at hl 0 rfl) ?_
  refine va_get (D := (dC, dI)) (ci := 12) (v := .ref (q 5)) (C := RX12) (T := TX12) (N := 49) hx hb hts i_X12 hown hK hP 0 rfl rfl 20 (by decide) (hts _ wf_X12_35) (fun _ h9 => h9) rfl dX12_lowers_1 ?_
  refine lv_bipush (v := (54 : Int32)) hx hb dX12_lowers_4 (by decide) ?_
  refine lv_iload_n hx hb dX12_lowers_6 rfl (lv_at hl 1 rfl) ?_
  refine lv_iadd hx hb dX12_lowers_7 ?_
  refine lv_iconst (v := (0 : Int32)) hx hb dX12_lowers_8 (by decide) ?_
  refine lv_aload_n hx hb dX12_lowers_9 rfl (lv_at hl 0 rfl) ?_
  refine va_get (D := (dC, dI)) (ci := 12) (v := .ref (q 5)) (C := RX12) (T := TX12) (N := 49) hx hb hts i_X12 hown hK hP 0 rfl rfl 20 (by decide) (hts _ wf_X12_35) (fun _ h9 => h9) rfl dX12_lowers_10 ?_
  refine lv_bipush (v := (54 : Int32)) hx hb dX12_lowers_13 (by decide) ?_
  refine lv_iload_n hx hb dX12_lowers_15 rfl (lv_at hl 1 rfl) ?_
  refine lv_iadd hx hb dX12_lowers_16 ?_
  obtain ⟨hi1, hf⟩ := tc_in hf
  refine va_iald hx hb hK hP 5 1 rfl rfl hi1 dX12_lowers_17 ?_
  refine lv_iload_n hx hb dX12_lowers_18 rfl (lv_at hl 2 rfl) ?_
  refine lv_isub hx hb dX12_lowers_19 ?_
  refine tc_mmax (rest := [.int ((54 : Int32) + a1), .ref (q 5)]) X hl.1 wl_X12_247 (Nat.le_of_ble_eq_true rfl) (Nat.le_of_ble_eq_true rfl) dX12_lowers_20 ?_
  obtain ⟨hi2, hf⟩ := tc_in hf
  refine va_iast hx hb hK hP hD hS 5 1 rfl rfl hi2 dX12_lowers_23 (fun H locs hP hD hS => ?_)
  have hP := tc_eP (aw12_0_5 ca q S ((54 : Int32) + a1) (jmax (0 : Int32) ((ia S 5 ((54 : Int32) + a1)) - a2))) hP
  have hD := tc_eD (aw12_0_5 ca q S ((54 : Int32) + a1) (jmax (0 : Int32) ((ia S 5 ((54 : Int32) + a1)) - a2))) hD
  refine lv_aload_n hx hb dX12_lowers_24 rfl (lv_at hl 0 rfl) ?_
  refine va_get (D := (dC, dI)) (ci := 12) (v := .ref (q 5)) (C := RX12) (T := TX12) (N := 49) hx hb hts i_X12 hown hK hP 0 rfl rfl 20 (by decide) (hts _ wf_X12_35) (fun _ h9 => h9) rfl dX12_lowers_25 ?_
  refine lv_bipush (v := (54 : Int32)) hx hb dX12_lowers_28 (by decide) ?_
  refine lv_iload_n hx hb dX12_lowers_30 rfl (lv_at hl 1 rfl) ?_
  refine lv_iadd hx hb dX12_lowers_31 ?_
  obtain ⟨hi3, hf⟩ := tc_in hf
  refine va_iald hx hb hK hP 5 1 rfl rfl hi3 dX12_lowers_32 ?_
  refine lv_if_ne (tgt := 46) hx hb dX12_lowers_33 (by decide) (fun hc => ?_) (fun hc => ?_)
  · have hf := tc_neg hc hf
    obtain rfl := Option.some.inj hf
    exact tc_rv X hP hD hS rfl dX12_lowers_46 rfl
  · have hf := tc_pos hc hf
    refine lv_aload_n hx hb dX12_lowers_36 rfl (lv_at hl 0 rfl) ?_
    refine va_get (D := (dC, dI)) (ci := 12) (v := .ref (q 5)) (C := RX12) (T := TX12) (N := 49) hx hb hts i_X12 hown hK hP 0 rfl rfl 20 (by decide) (hts _ wf_X12_35) (fun _ h9 => h9) rfl dX12_lowers_37 ?_
    refine lv_bipush (v := (60 : Int32)) hx hb dX12_lowers_40 (by decide) ?_
    refine lv_iload_n hx hb dX12_lowers_42 rfl (lv_at hl 1 rfl) ?_
    refine lv_iadd hx hb dX12_lowers_43 ?_
    refine lv_iconst (v := (0 : Int32)) hx hb dX12_lowers_44 (by decide) ?_
    obtain ⟨hi4, hf⟩ := tc_in hf
    refine va_iast hx hb hK hP hD hS 5 1 rfl rfl hi4 dX12_lowers_45 (fun H locs hP hD hS => ?_)
    have hP := tc_eP (aw12_0_5 ca q (sa S 5 ((54 : Int32) + a1) (jmax (0 : Int32) ((ia S 5 ((54 : Int32) + a1)) - a2))) ((60 : Int32) + a1) (0 : Int32)) hP
    have hD := tc_eD (aw12_0_5 ca q (sa S 5 ((54 : Int32) + a1) (jmax (0 : Int32) ((ia S 5 ((54 : Int32) + a1)) - a2))) ((60 : Int32) + a1) (0 : Int32)) hD
    obtain rfl := Option.some.inj hf
    exact tc_rv X hP hD hS rfl dX12_lowers_46 rfl
def fX12_drops  (S : ms_T) (a1 : Int32) (a2 : Int32) : Option (Int32 × ms_T) :=
  if inb ((60 : Int32) + a1) 1820 = true then
    if (ia S 5 ((60 : Int32) + a1)) = 0 then
      some ((0 : Int32), S)
    else
      (fX12_lowers S a1 a2).bind fun z2 =>
      some ((1 : Int32), z2)
  else none
abbrev rmX12_drops : Room := { frames := 2, cells := 0, slots := 0, locals := 45 }
theorem okX12_drops : tc_ok yX12_drops cX12_drops 3 (some .boolean) 2 := ⟨wc_X12_drops, wn_X12, by decide, by decide, by decide +kernel⟩
set_option maxRecDepth 20000 in
theorem mX12_drops {q : Nat → Nat}  {S : ms_T} {a1 : Int32} {a2 : Int32} {z : Int32 × ms_T}  (hf : fX12_drops S a1 a2 = some z) : tc_MI l dC dI ca yX12_drops cX12_drops 3 (some .boolean) rmX12_drops [.ref (q 0), .int (a1), .int (a2)] (w12 ca q S) (w12 ca q z.2) (z.1) := by
  refine tc_metI (own := RX12) (by decide) rfl ?_ (Nat.le_of_ble_eq_true rfl)
  intro p e s m below meth c A X hP hD hS ls hl
  obtain ⟨hx, hb, hr, hml, hown, hts, hlk, hK, hA, hG⟩ := id X
  unfold fX12_drops at hf
  have hl : lv_has ls 3 [(0, .ref (q 0)), (1, .int (a1)), (2, .int (a2))] := hl
  refine lv_aload_n hx hb dX12_drops_0 rfl (lv_at hl 0 rfl) ?_
  refine va_get (D := (dC, dI)) (ci := 12) (v := .ref (q 5)) (C := RX12) (T := TX12) (N := 49) hx hb hts i_X12 hown hK hP 0 rfl rfl 20 (by decide) (hts _ wf_X12_35) (fun _ h9 => h9) rfl dX12_drops_1 ?_
  refine lv_bipush (v := (60 : Int32)) hx hb dX12_drops_4 (by decide) ?_
  refine lv_iload_n hx hb dX12_drops_6 rfl (lv_at hl 1 rfl) ?_
  refine lv_iadd hx hb dX12_drops_7 ?_
  obtain ⟨hi1, hf⟩ := tc_in hf
  refine va_iald hx hb hK hP 5 1 rfl rfl hi1 dX12_drops_8 ?_
  refine lv_if_ne (tgt := 14) hx hb dX12_drops_9 (by decide) (fun hc => ?_) (fun hc => ?_)
  · have hf := tc_neg hc hf
    refine lv_aload_n hx hb dX12_drops_14 rfl (lv_at hl 0 rfl) ?_
    refine lv_iload_n hx hb dX12_drops_15 rfl (lv_at hl 1 rfl) ?_
    refine lv_iload_n hx hb dX12_drops_16 rfl (lv_at hl 2 rfl) ?_
    obtain ⟨z2, hg, hf⟩ := tc_bi hf
    refine tc_vVs (As := [.int (a1), .int (a2)]) (rest := []) (b := q 0) X hP hD hS (mX12_lowers hg) okX12_lowers wl_X12_380 wi_X12_lowers ws_X12_X12_lowers_X12_lowers ⟨rfl, rfl, Nat.le_of_ble_eq_true rfl, Nat.le_of_ble_eq_true rfl⟩ 12 0 rfl rfl rfl hl.1 (Nat.le_of_ble_eq_true rfl) dX12_drops_17 (fun H locs hP hD hS => ?_)
    refine lv_iconst (v := (1 : Int32)) hx hb dX12_drops_20 (by decide) ?_
    obtain rfl := Option.some.inj hf
    exact tc_rz X hP hD hS rfl dX12_drops_21 (by decide) rfl rfl
  · have hf := tc_pos hc hf
    refine lv_iconst (v := (0 : Int32)) hx hb dX12_drops_12 (by decide) ?_
    obtain rfl := Option.some.inj hf
    exact tc_rz X hP hD hS rfl dX12_drops_13 (by decide) rfl rfl
def fX12_drop  (S : ms_T) (a1 : Int32) (a2 : Int32) : Option (Int32 × ms_T) :=
  (fX12_isTalkerAt (si (si S 1 (0 : Int32)) 0 (0 : Int32)) a1).bind fun z1 =>
  if z1 = 0 then
    (fX12_refuse (si (si S 1 (0 : Int32)) 0 (0 : Int32)) (2 : Int32)).bind fun z7 =>
    some (z7.1, z7.2)
  else
    (fX12_isIn a2.toInt64 (1 : Int64) (9 : Int64)).bind fun z2 =>
    if z2 = 0 then
      (fX12_refuse (si (si S 1 (0 : Int32)) 0 (0 : Int32)) (5 : Int32)).bind fun z6 =>
      some (z6.1, z6.2)
    else
      (fX12_drops (si (si S 1 (0 : Int32)) 0 (0 : Int32)) a1 a2).bind fun z3 =>
      if z3.1 = 0 then
        (fX12_refuse z3.2 (9 : Int32)).bind fun z4 =>
        some (z4.1, z4.2)
      else
        if inb ((54 : Int32) + a1) 1820 = true then
          some (ia z3.2 5 ((54 : Int32) + a1), z3.2)
        else none
abbrev rmX12_drop : Room := { frames := 3, cells := 0, slots := 0, locals := 67 }
theorem okX12_drop : tc_ok yX12_drop cX12_drop 3 (some .int) 2 := ⟨wc_X12_drop, wn_X12, by decide, by decide, by decide +kernel⟩
set_option maxRecDepth 20000 in
theorem mX12_drop {q : Nat → Nat}  {S : ms_T} {a1 : Int32} {a2 : Int32} {z : Int32 × ms_T}  (hf : fX12_drop S a1 a2 = some z) : tc_MI l dC dI ca yX12_drop cX12_drop 3 (some .int) rmX12_drop [.ref (q 0), .int (a1), .int (a2)] (w12 ca q S) (w12 ca q z.2) (z.1) := by
  refine tc_metI (own := RX12) (by decide) rfl ?_ (Nat.le_of_ble_eq_true rfl)
  intro p e s m below meth c A X hP hD hS ls hl
  obtain ⟨hx, hb, hr, hml, hown, hts, hlk, hK, hA, hG⟩ := id X
  unfold fX12_drop at hf
  have hl : lv_has ls 3 [(0, .ref (q 0)), (1, .int (a1)), (2, .int (a2))] := hl
  refine lv_aload_n hx hb dX12_drop_0 rfl (lv_at hl 0 rfl) ?_
  refine lv_iconst (v := (0 : Int32)) hx hb dX12_drop_1 (by decide) ?_
  refine va_put (D := (dC, dI)) (ci := 12) (v := .int ((0 : Int32))) (ty := .int) (C := RX12) (T := TX12) (N := 49) hx hb hts i_X12 tyX12 tyX12_ok nmX12 hown hK hP hD hS 0 rfl rfl 1 (by decide) (hts _ wf_X12_63) (fun _ h9 => h9) rfl (tyX12_ok 1 (by decide)) rfl rfl (Nat.le_of_ble_eq_true rfl) dX12_drop_2 (fun H locs hP hD hS => ?_)
  have hP := tc_eP (pw12_0_1 ca q S (0 : Int32)) hP
  have hD := tc_eD (pw12_0_1 ca q S (0 : Int32)) hD
  refine lv_aload_n hx hb dX12_drop_5 rfl (lv_at hl 0 rfl) ?_
  refine lv_iconst (v := (0 : Int32)) hx hb dX12_drop_6 (by decide) ?_
  refine va_put (D := (dC, dI)) (ci := 12) (v := .int ((0 : Int32))) (ty := .int) (C := RX12) (T := TX12) (N := 49) hx hb hts i_X12 tyX12 tyX12_ok nmX12 hown hK hP hD hS 0 rfl rfl 0 (by decide) (hts _ wf_X12_66) (fun _ h9 => h9) rfl (tyX12_ok 0 (by decide)) rfl rfl (Nat.le_of_ble_eq_true rfl) dX12_drop_7 (fun H locs hP hD hS => ?_)
  have hP := tc_eP (pw12_0_0 ca q (si S 1 (0 : Int32)) (0 : Int32)) hP
  have hD := tc_eD (pw12_0_0 ca q (si S 1 (0 : Int32)) (0 : Int32)) hD
  refine lv_aload_n hx hb dX12_drop_10 rfl (lv_at hl 0 rfl) ?_
  refine lv_iload_n hx hb dX12_drop_11 rfl (lv_at hl 1 rfl) ?_
  obtain ⟨z1, hg, hf⟩ := tc_bi hf
  refine tc_iVs (As := [.int (a1)]) (rest := []) (b := q 0) X hP hD hS (mX12_isTalkerAt hg) okX12_isTalkerAt wl_X12_362 wi_X12_isTalkerAt ws_X12_X12_isTalkerAt_X12_isTalkerAt ⟨rfl, rfl, Nat.le_of_ble_eq_true rfl, Nat.le_of_ble_eq_true rfl⟩ 12 0 rfl rfl rfl hl.1 (Nat.le_of_ble_eq_true rfl) dX12_drop_12 (fun H locs hP hD hS => ?_)
  refine lv_if_ne (tgt := 24) hx hb dX12_drop_15 (by decide) (fun hc => ?_) (fun hc => ?_)
  · have hf := tc_neg hc hf
    refine lv_iload_n hx hb dX12_drop_24 rfl (lv_at hl 2 rfl) ?_
    refine lv_i2l (v := a2.toInt64) hx hb dX12_drop_25 rfl ?_
    refine lv_lconst (v := (1 : Int64)) hx hb dX12_drop_26 (by decide) ?_
    refine lv_ldc2 (v := (9 : Int64)) hx hb hown (hts _ wk_X12_331) dX12_drop_27 ?_
    obtain ⟨z2, hg, hf⟩ := tc_bi hf
    refine tc_iS0 (As := [.long (a2.toInt64), .long ((1 : Int64)), .long ((9 : Int64))]) (rest := []) X hP hD hS (mX12_isIn hg) okX12_isIn wl_X12_98 wt_X12_isIn ⟨rfl, rfl, Nat.le_of_ble_eq_true rfl, Nat.le_of_ble_eq_true rfl⟩ rfl hl.1 (Nat.le_of_ble_eq_true rfl) dX12_drop_30 (fun H locs hP hD hS => ?_)
    refine lv_if_ne (tgt := 42) hx hb dX12_drop_33 (by decide) (fun hc => ?_) (fun hc => ?_)
    · have hf := tc_neg hc hf
      refine lv_aload_n hx hb dX12_drop_42 rfl (lv_at hl 0 rfl) ?_
      refine lv_iload_n hx hb dX12_drop_43 rfl (lv_at hl 1 rfl) ?_
      refine lv_iload_n hx hb dX12_drop_44 rfl (lv_at hl 2 rfl) ?_
      obtain ⟨z3, hg, hf⟩ := tc_bi hf
      refine tc_iVs (As := [.int (a1), .int (a2)]) (rest := []) (b := q 0) X hP hD hS (mX12_drops hg) okX12_drops wl_X12_383 wi_X12_drops ws_X12_X12_drops_X12_drops ⟨rfl, rfl, Nat.le_of_ble_eq_true rfl, Nat.le_of_ble_eq_true rfl⟩ 12 0 rfl rfl rfl hl.1 (Nat.le_of_ble_eq_true rfl) dX12_drop_45 (fun H locs hP hD hS => ?_)
      refine lv_if_eq (tgt := 63) hx hb dX12_drop_48 (by decide) (fun hc => ?_) (fun hc => ?_)
      · have hf := tc_pos hc hf
        refine lv_aload_n hx hb dX12_drop_63 rfl (lv_at hl 0 rfl) ?_
        refine lv_bipush (v := (9 : Int32)) hx hb dX12_drop_64 (by decide) ?_
        obtain ⟨z4, hg, hf⟩ := tc_bi hf
        refine tc_iVs (As := [.int ((9 : Int32))]) (rest := []) (b := q 0) X hP hD hS (mX12_refuse hg) okX12_refuse wl_X12_333 wi_X12_refuse ws_X12_X12_refuse_X12_refuse ⟨rfl, rfl, Nat.le_of_ble_eq_true rfl, Nat.le_of_ble_eq_true rfl⟩ 12 0 rfl rfl rfl hl.1 (Nat.le_of_ble_eq_true rfl) dX12_drop_66 (fun H locs hP hD hS => ?_)
        obtain rfl := Option.some.inj hf
        exact tc_ri X hP hD hS rfl dX12_drop_69 rfl rfl
      · have hf := tc_neg hc hf
        refine lv_aload_n hx hb dX12_drop_51 rfl (lv_at hl 0 rfl) ?_
        refine va_get (D := (dC, dI)) (ci := 12) (v := .ref (q 5)) (C := RX12) (T := TX12) (N := 49) hx hb hts i_X12 hown hK hP 0 rfl rfl 20 (by decide) (hts _ wf_X12_35) (fun _ h9 => h9) rfl dX12_drop_52 ?_
        refine lv_bipush (v := (54 : Int32)) hx hb dX12_drop_55 (by decide) ?_
        refine lv_iload_n hx hb dX12_drop_57 rfl (lv_at hl 1 rfl) ?_
        refine lv_iadd hx hb dX12_drop_58 ?_
        obtain ⟨hi5, hf⟩ := tc_in hf
        refine va_iald hx hb hK hP 5 1 rfl rfl hi5 dX12_drop_59 ?_
        refine lv_goto (tgt := 69) hx hb dX12_drop_60 (by decide) ?_
        obtain rfl := Option.some.inj hf
        exact tc_ri X hP hD hS rfl dX12_drop_69 rfl rfl
    · have hf := tc_pos hc hf
      refine lv_aload_n hx hb dX12_drop_36 rfl (lv_at hl 0 rfl) ?_
      refine lv_iconst (v := (5 : Int32)) hx hb dX12_drop_37 (by decide) ?_
      obtain ⟨z6, hg, hf⟩ := tc_bi hf
      refine tc_iVs (As := [.int ((5 : Int32))]) (rest := []) (b := q 0) X hP hD hS (mX12_refuse hg) okX12_refuse wl_X12_333 wi_X12_refuse ws_X12_X12_refuse_X12_refuse ⟨rfl, rfl, Nat.le_of_ble_eq_true rfl, Nat.le_of_ble_eq_true rfl⟩ 12 0 rfl rfl rfl hl.1 (Nat.le_of_ble_eq_true rfl) dX12_drop_38 (fun H locs hP hD hS => ?_)
      obtain rfl := Option.some.inj hf
      exact tc_ri X hP hD hS rfl dX12_drop_41 rfl rfl
  · have hf := tc_pos hc hf
    refine lv_aload_n hx hb dX12_drop_18 rfl (lv_at hl 0 rfl) ?_
    refine lv_iconst (v := (2 : Int32)) hx hb dX12_drop_19 (by decide) ?_
    obtain ⟨z7, hg, hf⟩ := tc_bi hf
    refine tc_iVs (As := [.int ((2 : Int32))]) (rest := []) (b := q 0) X hP hD hS (mX12_refuse hg) okX12_refuse wl_X12_333 wi_X12_refuse ws_X12_X12_refuse_X12_refuse ⟨rfl, rfl, Nat.le_of_ble_eq_true rfl, Nat.le_of_ble_eq_true rfl⟩ 12 0 rfl rfl rfl hl.1 (Nat.le_of_ble_eq_true rfl) dX12_drop_20 (fun H locs hP hD hS => ?_)
    obtain rfl := Option.some.inj hf
    exact tc_ri X hP hD hS rfl dX12_drop_23 rfl rfl
def fX12_landing  (S : ms_T) (a1 : Int32) : Option (Int32) :=
  if a1 = 0 then
    some ((0 : Int32))
  else
    if inb (((15 : Int32) + a1) - (1 : Int32)) 1820 = true then
      some (jmax (0 : Int32) (a1 - (ia S 5 (((15 : Int32) + a1) - (1 : Int32)))))
    else none
abbrev rmX12_landing : Room := { frames := 1, cells := 0, slots := 0, locals := 23 }
theorem okX12_landing : tc_ok yX12_landing cX12_landing 2 (some .int) 1 := ⟨wc_X12_landing, wn_X12, by decide, by decide, by decide +kernel⟩
set_option maxRecDepth 20000 in
theorem mX12_landing {q : Nat → Nat}  {S : ms_T} {a1 : Int32} {z : Int32}  (hf : fX12_landing S a1 = some z) : tc_MI l dC dI ca yX12_landing cX12_landing 2 (some .int) rmX12_landing [.ref (q 0), .int (a1)] (w12 ca q S) (w12 ca q S) (z) := by
  refine tc_metI (own := RX12) (by decide) rfl ?_ (Nat.le_of_ble_eq_true rfl)
  intro p e s m below meth c A X hP hD hS ls hl
  obtain ⟨hx, hb, hr, hml, hown, hts, hlk, hK, hA, hG⟩ := id X
  unfold fX12_landing at hf
  have hl : lv_has ls 2 [(0, .ref (q 0)), (1, .int (a1))] := hl
  refine lv_iload_n hx hb dX12_landing_0 rfl (lv_at hl 1 rfl) ?_
  refine lv_if_ne (tgt := 8) hx hb dX12_landing_1 (by decide) (fun hc => ?_) (fun hc => ?_)
  · have hf := tc_neg hc hf
    refine lv_iconst (v := (0 : Int32)) hx hb dX12_landing_8 (by decide) ?_
    refine lv_iload_n hx hb dX12_landing_9 rfl (lv_at hl 1 rfl) ?_
    refine lv_aload_n hx hb dX12_landing_10 rfl (lv_at hl 0 rfl) ?_
    refine va_get (D := (dC, dI)) (ci := 12) (v := .ref (q 5)) (C := RX12) (T := TX12) (N := 49) hx hb hts i_X12 hown hK hP 0 rfl rfl 20 (by decide) (hts _ wf_X12_35) (fun _ h9 => h9) rfl dX12_landing_11 ?_
    refine lv_bipush (v := (15 : Int32)) hx hb dX12_landing_14 (by decide) ?_
    refine lv_iload_n hx hb dX12_landing_16 rfl (lv_at hl 1 rfl) ?_
    refine lv_iadd hx hb dX12_landing_17 ?_
    refine lv_iconst (v := (1 : Int32)) hx hb dX12_landing_18 (by decide) ?_
    refine lv_isub hx hb dX12_landing_19 ?_
    obtain ⟨hi1, hf⟩ := tc_in hf
    refine va_iald hx hb hK hP 5 1 rfl rfl hi1 dX12_landing_20 ?_
    refine lv_isub hx hb dX12_landing_21 ?_
    refine tc_mmax (rest := []) X hl.1 wl_X12_247 (Nat.le_of_ble_eq_true rfl) (Nat.le_of_ble_eq_true rfl) dX12_landing_22 ?_
    obtain rfl := Option.some.inj hf
    exact tc_ri X hP hD hS rfl dX12_landing_25 rfl rfl
  · have hf := tc_pos hc hf
    refine lv_iconst (v := (0 : Int32)) hx hb dX12_landing_4 (by decide) ?_
    refine lv_goto (tgt := 25) hx hb dX12_landing_5 (by decide) ?_
    obtain rfl := Option.some.inj hf
    exact tc_ri X hP hD hS rfl dX12_landing_25 rfl rfl
def fX12_pulls_43    (S : ms_T) (v1 : Int32) (t0 : Int32) (t1 : Int32) : Option (Int32 × ms_T) :=
  if inb t1 1820 = true then
    if inb ((60 : Int32) + v1) 1820 = true then
      some ((1 : Int32), sa (sa S 5 t1 t0) 5 ((60 : Int32) + v1) (0 : Int32))
    else none
  else none
def fX12_pulls  (S : ms_T) (a1 : Int32) (a2 : Int32) : Option (Int32 × ms_T) :=
  if inb ((60 : Int32) + a1) 1820 = true then
    if (ia S 5 ((60 : Int32) + a1)) = 0 then
      some ((0 : Int32), S)
    else
      if a2 = 0 then
        fX12_pulls_43 S a1 (0 : Int32) ((54 : Int32) + a1)
      else
        if inb ((54 : Int32) + a1) 1820 = true then
          (fX12_landing S (ia S 5 ((54 : Int32) + a1))).bind fun z5 =>
          fX12_pulls_43 S a1 z5 ((54 : Int32) + a1)
        else none
  else none
abbrev rmX12_pulls : Room := { frames := 2, cells := 0, slots := 0, locals := 44 }
theorem okX12_pulls : tc_ok yX12_pulls cX12_pulls 3 (some .boolean) 2 := ⟨wc_X12_pulls, wn_X12, by decide, by decide, by decide +kernel⟩
set_option maxRecDepth 20000 in
theorem tX12_pulls_43 {q : Nat → Nat}  (X : tc_X dC dI ca A RX12 cX12_pulls 3 (some .boolean) p s m args meth c) (z : Int32 × ms_T)     : ∀ (S : ms_T) (v1 : Int32) (t0 : Int32) (t1 : Int32), fX12_pulls_43 S v1 t0 t1 = some z → ∀ (H : Heap) (locs : List Loc) (ls : Array Slot), va_P (dC, dI) classes (w12 ca q S) H → va_D A (w12 ca q S) → va_S A s.heap H locs → lv_has ls 3 [(0, .ref (q 0)), (1, .int (v1))] → W p l e rmX12_pulls s m args below meth c H locs 0 0 (MQ below (tc_QI dC dI ca A (w12 ca q z.2) (z.1)) args s 0 0 A) (F0 m 43 ls [.int (t0), .int (t1), .ref (q 5)]) := by
  obtain ⟨hx, hb, hr, hml, hown, hts, hlk, hK, hA, hG⟩ := id X
  intro S v1 t0 t1 hf H locs ls hP hD hS hl
  unfold fX12_pulls_43 at hf
  obtain ⟨hi2, hf⟩ := tc_in hf
  refine va_iast hx hb hK hP hD hS 5 1 rfl rfl hi2 dX12_pulls_43 (fun H locs hP hD hS => ?_)
  have hP := tc_eP (aw12_0_5 ca q S t1 t0) hP
  have hD := tc_eD (aw12_0_5 ca q S t1 t0) hD
  refine lv_aload_n hx hb dX12_pulls_44 rfl (lv_at hl 0 rfl) ?_
  refine va_get (D := (dC, dI)) (ci := 12) (v := .ref (q 5)) (C := RX12) (T := TX12) (N := 49) hx hb hts i_X12 hown hK hP 0 rfl rfl 20 (by decide) (hts _ wf_X12_35) (fun _ h9 => h9) rfl dX12_pulls_45 ?_
  refine lv_bipush (v := (60 : Int32)) hx hb dX12_pulls_48 (by decide) ?_
  refine lv_iload_n hx hb dX12_pulls_50 rfl (lv_at hl 1 rfl) ?_
  refine lv_iadd hx hb dX12_pulls_51 ?_
  refine lv_iconst (v := (0 : Int32)) hx hb dX12_pulls_52 (by decide) ?_
  obtain ⟨hi3, hf⟩ := tc_in hf
  refine va_iast hx hb hK hP hD hS 5 1 rfl rfl hi3 dX12_pulls_53 (fun H locs hP hD hS => ?_)
  have hP := tc_eP (aw12_0_5 ca q (sa S 5 t1 t0) ((60 : Int32) + v1) (0 : Int32)) hP
  have hD := tc_eD (aw12_0_5 ca q (sa S 5 t1 t0) ((60 : Int32) + v1) (0 : Int32)) hD
  refine lv_iconst (v := (1 : Int32)) hx hb dX12_pulls_54 (by decide) ?_
  obtain rfl := Option.some.inj hf
  exact tc_rz X hP hD hS rfl dX12_pulls_55 (by decide) rfl rfl
set_option maxRecDepth 20000 in
theorem mX12_pulls {q : Nat → Nat}  {S : ms_T} {a1 : Int32} {a2 : Int32} {z : Int32 × ms_T}  (hf : fX12_pulls S a1 a2 = some z) : tc_MI l dC dI ca yX12_pulls cX12_pulls 3 (some .boolean) rmX12_pulls [.ref (q 0), .int (a1), .int (a2)] (w12 ca q S) (w12 ca q z.2) (z.1) := by
  refine tc_metI (own := RX12) (by decide) rfl ?_ (Nat.le_of_ble_eq_true rfl)
  intro p e s m below meth c A X hP hD hS ls hl
  obtain ⟨hx, hb, hr, hml, hown, hts, hlk, hK, hA, hG⟩ := id X
  unfold fX12_pulls at hf
  have hl : lv_has ls 3 [(0, .ref (q 0)), (1, .int (a1)), (2, .int (a2))] := hl
  refine lv_aload_n hx hb dX12_pulls_0 rfl (lv_at hl 0 rfl) ?_
  refine va_get (D := (dC, dI)) (ci := 12) (v := .ref (q 5)) (C := RX12) (T := TX12) (N := 49) hx hb hts i_X12 hown hK hP 0 rfl rfl 20 (by decide) (hts _ wf_X12_35) (fun _ h9 => h9) rfl dX12_pulls_1 ?_
  refine lv_bipush (v := (60 : Int32)) hx hb dX12_pulls_4 (by decide) ?_
  refine lv_iload_n hx hb dX12_pulls_6 rfl (lv_at hl 1 rfl) ?_
  refine lv_iadd hx hb dX12_pulls_7 ?_
  obtain ⟨hi1, hf⟩ := tc_in hf
  refine va_iald hx hb hK hP 5 1 rfl rfl hi1 dX12_pulls_8 ?_
  refine lv_if_ne (tgt := 14) hx hb dX12_pulls_9 (by decide) (fun hc => ?_) (fun hc => ?_)
  · have hf := tc_neg hc hf
    refine lv_aload_n hx hb dX12_pulls_14 rfl (lv_at hl 0 rfl) ?_
    refine va_get (D := (dC, dI)) (ci := 12) (v := .ref (q 5)) (C := RX12) (T := TX12) (N := 49) hx hb hts i_X12 hown hK hP 0 rfl rfl 20 (by decide) (hts _ wf_X12_35) (fun _ h9 => h9) rfl dX12_pulls_15 ?_
    refine lv_bipush (v := (54 : Int32)) hx hb dX12_pulls_18 (by decide) ?_
    refine lv_iload_n hx hb dX12_pulls_20 rfl (lv_at hl 1 rfl) ?_
    refine lv_iadd hx hb dX12_pulls_21 ?_
    refine lv_iload_n hx hb dX12_pulls_22 rfl (lv_at hl 2 rfl) ?_
    refine lv_if_eq (tgt := 42) hx hb dX12_pulls_23 (by decide) (fun hc => ?_) (fun hc => ?_)
    · have hf := tc_pos hc hf
      refine lv_iconst (v := (0 : Int32)) hx hb dX12_pulls_42 (by decide) ?_
      exact tX12_pulls_43 X z S a1 (0 : Int32) ((54 : Int32) + a1) hf _ _ _ hP hD hS (lv_sub hl [0, 1] rfl)
    · have hf := tc_neg hc hf
      refine lv_aload_n hx hb dX12_pulls_26 rfl (lv_at hl 0 rfl) ?_
      refine lv_aload_n hx hb dX12_pulls_27 rfl (lv_at hl 0 rfl) ?_
      refine va_get (D := (dC, dI)) (ci := 12) (v := .ref (q 5)) (C := RX12) (T := TX12) (N := 49) hx hb hts i_X12 hown hK hP 0 rfl rfl 20 (by decide) (hts _ wf_X12_35) (fun _ h9 => h9) rfl dX12_pulls_28 ?_
      refine lv_bipush (v := (54 : Int32)) hx hb dX12_pulls_31 (by decide) ?_
      refine lv_iload_n hx hb dX12_pulls_33 rfl (lv_at hl 1 rfl) ?_
      refine lv_iadd hx hb dX12_pulls_34 ?_
      obtain ⟨hi4, hf⟩ := tc_in hf
      refine va_iald hx hb hK hP 5 1 rfl rfl hi4 dX12_pulls_35 ?_
      obtain ⟨z5, hg, hf⟩ := tc_bi hf
      refine tc_iVs (As := [.int (ia S 5 ((54 : Int32) + a1))]) (rest := [.int ((54 : Int32) + a1), .ref (q 5)]) (b := q 0) X hP hD hS (mX12_landing hg) okX12_landing wl_X12_386 wi_X12_landing ws_X12_X12_landing_X12_landing ⟨rfl, rfl, Nat.le_of_ble_eq_true rfl, Nat.le_of_ble_eq_true rfl⟩ 12 0 rfl rfl rfl hl.1 (Nat.le_of_ble_eq_true rfl) dX12_pulls_36 (fun H locs hP hD hS => ?_)
      refine lv_goto (tgt := 43) hx hb dX12_pulls_39 (by decide) ?_
      exact tX12_pulls_43 X z S a1 z5 ((54 : Int32) + a1) hf _ _ _ hP hD hS (lv_sub hl [0, 1] rfl)
  · have hf := tc_pos hc hf
    refine lv_iconst (v := (0 : Int32)) hx hb dX12_pulls_12 (by decide) ?_
    obtain rfl := Option.some.inj hf
    exact tc_rz X hP hD hS rfl dX12_pulls_13 (by decide) rfl rfl
def fX12_pull  (S : ms_T) (a1 : Int32) (a2 : Int32) : Option (Int32 × ms_T) :=
  (fX12_isTalkerAt (si (si S 1 (0 : Int32)) 0 (0 : Int32)) a1).bind fun z1 =>
  if z1 = 0 then
    (fX12_refuse (si (si S 1 (0 : Int32)) 0 (0 : Int32)) (2 : Int32)).bind fun z5 =>
    some (z5.1, z5.2)
  else
    (fX12_pulls (si (si S 1 (0 : Int32)) 0 (0 : Int32)) a1 a2).bind fun z2 =>
    if z2.1 = 0 then
      (fX12_refuse z2.2 (9 : Int32)).bind fun z3 =>
      some (z3.1, z3.2)
    else
      if inb ((54 : Int32) + a1) 1820 = true then
        some (ia z2.2 5 ((54 : Int32) + a1), z2.2)
      else none
abbrev rmX12_pull : Room := { frames := 3, cells := 0, slots := 0, locals := 66 }
theorem okX12_pull : tc_ok yX12_pull cX12_pull 3 (some .int) 2 := ⟨wc_X12_pull, wn_X12, by decide, by decide, by decide +kernel⟩
set_option maxRecDepth 20000 in
theorem mX12_pull {q : Nat → Nat}  {S : ms_T} {a1 : Int32} {a2 : Int32} {z : Int32 × ms_T}  (hf : fX12_pull S a1 a2 = some z) : tc_MI l dC dI ca yX12_pull cX12_pull 3 (some .int) rmX12_pull [.ref (q 0), .int (a1), .int (a2)] (w12 ca q S) (w12 ca q z.2) (z.1) := by
  refine tc_metI (own := RX12) (by decide) rfl ?_ (Nat.le_of_ble_eq_true rfl)
  intro p e s m below meth c A X hP hD hS ls hl
  obtain ⟨hx, hb, hr, hml, hown, hts, hlk, hK, hA, hG⟩ := id X
  unfold fX12_pull at hf
  have hl : lv_has ls 3 [(0, .ref (q 0)), (1, .int (a1)), (2, .int (a2))] := hl
  refine lv_aload_n hx hb dX12_pull_0 rfl (lv_at hl 0 rfl) ?_
  refine lv_iconst (v := (0 : Int32)) hx hb dX12_pull_1 (by decide) ?_
  refine va_put (D := (dC, dI)) (ci := 12) (v := .int ((0 : Int32))) (ty := .int) (C := RX12) (T := TX12) (N := 49) hx hb hts i_X12 tyX12 tyX12_ok nmX12 hown hK hP hD hS 0 rfl rfl 1 (by decide) (hts _ wf_X12_63) (fun _ h9 => h9) rfl (tyX12_ok 1 (by decide)) rfl rfl (Nat.le_of_ble_eq_true rfl) dX12_pull_2 (fun H locs hP hD hS => ?_)
  have hP := tc_eP (pw12_0_1 ca q S (0 : Int32)) hP
  have hD := tc_eD (pw12_0_1 ca q S (0 : Int32)) hD
  refine lv_aload_n hx hb dX12_pull_5 rfl (lv_at hl 0 rfl) ?_
  refine lv_iconst (v := (0 : Int32)) hx hb dX12_pull_6 (by decide) ?_
  refine va_put (D := (dC, dI)) (ci := 12) (v := .int ((0 : Int32))) (ty := .int) (C := RX12) (T := TX12) (N := 49) hx hb hts i_X12 tyX12 tyX12_ok nmX12 hown hK hP hD hS 0 rfl rfl 0 (by decide) (hts _ wf_X12_66) (fun _ h9 => h9) rfl (tyX12_ok 0 (by decide)) rfl rfl (Nat.le_of_ble_eq_true rfl) dX12_pull_7 (fun H locs hP hD hS => ?_)
  have hP := tc_eP (pw12_0_0 ca q (si S 1 (0 : Int32)) (0 : Int32)) hP
  have hD := tc_eD (pw12_0_0 ca q (si S 1 (0 : Int32)) (0 : Int32)) hD
  refine lv_aload_n hx hb dX12_pull_10 rfl (lv_at hl 0 rfl) ?_
  refine lv_iload_n hx hb dX12_pull_11 rfl (lv_at hl 1 rfl) ?_
  obtain ⟨z1, hg, hf⟩ := tc_bi hf
  refine tc_iVs (As := [.int (a1)]) (rest := []) (b := q 0) X hP hD hS (mX12_isTalkerAt hg) okX12_isTalkerAt wl_X12_362 wi_X12_isTalkerAt ws_X12_X12_isTalkerAt_X12_isTalkerAt ⟨rfl, rfl, Nat.le_of_ble_eq_true rfl, Nat.le_of_ble_eq_true rfl⟩ 12 0 rfl rfl rfl hl.1 (Nat.le_of_ble_eq_true rfl) dX12_pull_12 (fun H locs hP hD hS => ?_)
  refine lv_if_ne (tgt := 24) hx hb dX12_pull_15 (by decide) (fun hc => ?_) (fun hc => ?_)
  · have hf := tc_neg hc hf
    refine lv_aload_n hx hb dX12_pull_24 rfl (lv_at hl 0 rfl) ?_
    refine lv_iload_n hx hb dX12_pull_25 rfl (lv_at hl 1 rfl) ?_
    refine lv_iload_n hx hb dX12_pull_26 rfl (lv_at hl 2 rfl) ?_
    obtain ⟨z2, hg, hf⟩ := tc_bi hf
    refine tc_iVs (As := [.int (a1), .int (a2)]) (rest := []) (b := q 0) X hP hD hS (mX12_pulls hg) okX12_pulls wl_X12_389 wi_X12_pulls ws_X12_X12_pulls_X12_pulls ⟨rfl, rfl, Nat.le_of_ble_eq_true rfl, Nat.le_of_ble_eq_true rfl⟩ 12 0 rfl rfl rfl hl.1 (Nat.le_of_ble_eq_true rfl) dX12_pull_27 (fun H locs hP hD hS => ?_)
    refine lv_if_eq (tgt := 45) hx hb dX12_pull_30 (by decide) (fun hc => ?_) (fun hc => ?_)
    · have hf := tc_pos hc hf
      refine lv_aload_n hx hb dX12_pull_45 rfl (lv_at hl 0 rfl) ?_
      refine lv_bipush (v := (9 : Int32)) hx hb dX12_pull_46 (by decide) ?_
      obtain ⟨z3, hg, hf⟩ := tc_bi hf
      refine tc_iVs (As := [.int ((9 : Int32))]) (rest := []) (b := q 0) X hP hD hS (mX12_refuse hg) okX12_refuse wl_X12_333 wi_X12_refuse ws_X12_X12_refuse_X12_refuse ⟨rfl, rfl, Nat.le_of_ble_eq_true rfl, Nat.le_of_ble_eq_true rfl⟩ 12 0 rfl rfl rfl hl.1 (Nat.le_of_ble_eq_true rfl) dX12_pull_48 (fun H locs hP hD hS => ?_)
      obtain rfl := Option.some.inj hf
      exact tc_ri X hP hD hS rfl dX12_pull_51 rfl rfl
    · have hf := tc_neg hc hf
      refine lv_aload_n hx hb dX12_pull_33 rfl (lv_at hl 0 rfl) ?_
      refine va_get (D := (dC, dI)) (ci := 12) (v := .ref (q 5)) (C := RX12) (T := TX12) (N := 49) hx hb hts i_X12 hown hK hP 0 rfl rfl 20 (by decide) (hts _ wf_X12_35) (fun _ h9 => h9) rfl dX12_pull_34 ?_
      refine lv_bipush (v := (54 : Int32)) hx hb dX12_pull_37 (by decide) ?_
      refine lv_iload_n hx hb dX12_pull_39 rfl (lv_at hl 1 rfl) ?_
      refine lv_iadd hx hb dX12_pull_40 ?_
      obtain ⟨hi4, hf⟩ := tc_in hf
      refine va_iald hx hb hK hP 5 1 rfl rfl hi4 dX12_pull_41 ?_
      refine lv_goto (tgt := 51) hx hb dX12_pull_42 (by decide) ?_
      obtain rfl := Option.some.inj hf
      exact tc_ri X hP hD hS rfl dX12_pull_51 rfl rfl
  · have hf := tc_pos hc hf
    refine lv_aload_n hx hb dX12_pull_18 rfl (lv_at hl 0 rfl) ?_
    refine lv_iconst (v := (2 : Int32)) hx hb dX12_pull_19 (by decide) ?_
    obtain ⟨z5, hg, hf⟩ := tc_bi hf
    refine tc_iVs (As := [.int ((2 : Int32))]) (rest := []) (b := q 0) X hP hD hS (mX12_refuse hg) okX12_refuse wl_X12_333 wi_X12_refuse ws_X12_X12_refuse_X12_refuse ⟨rfl, rfl, Nat.le_of_ble_eq_true rfl, Nat.le_of_ble_eq_true rfl⟩ 12 0 rfl rfl rfl hl.1 (Nat.le_of_ble_eq_true rfl) dX12_pull_20 (fun H locs hP hD hS => ?_)
    obtain rfl := Option.some.inj hf
    exact tc_ri X hP hD hS rfl dX12_pull_23 rfl rfl
def fX12_becomes  (S : ms_T) (a1 : Int32) (a2 : Int32) : Option (Int32 × ms_T) :=
  if inb a1 1820 = true then
    if (ia S 5 a1) = a2 then
      some ((0 : Int32), S)
    else
      if inb a1 1820 = true then
        some ((1 : Int32), sa S 5 a1 a2)
      else none
  else none
abbrev rmX12_becomes : Room := { frames := 0, cells := 0, slots := 0, locals := 0 }
theorem okX12_becomes : tc_ok yX12_becomes cX12_becomes 3 (some .boolean) 2 := ⟨wc_X12_becomes, wn_X12, by decide, by decide, by decide +kernel⟩
set_option maxRecDepth 20000 in
theorem mX12_becomes {q : Nat → Nat}  {S : ms_T} {a1 : Int32} {a2 : Int32} {z : Int32 × ms_T}  (hf : fX12_becomes S a1 a2 = some z) : tc_MI l dC dI ca yX12_becomes cX12_becomes 3 (some .boolean) rmX12_becomes [.ref (q 0), .int (a1), .int (a2)] (w12 ca q S) (w12 ca q z.2) (z.1) := by
  refine tc_metI (own := RX12) (by decide) rfl ?_ (Nat.le_of_ble_eq_true rfl)
  intro p e s m below meth c A X hP hD hS ls hl
  obtain ⟨hx, hb, hr, hml, hown, hts, hlk, hK, hA, hG⟩ := id X
  unfold fX12_becomes at hf
  have hl : lv_has ls 3 [(0, .ref (q 0)), (1, .int (a1)), (2, .int (a2))] := hl
  refine lv_aload_n hx hb dX12_becomes_0 rfl (lv_at hl 0 rfl) ?_
  refine va_get (D := (dC, dI)) (ci := 12) (v := .ref (q 5)) (C := RX12) (T := TX12) (N := 49) hx hb hts i_X12 hown hK hP 0 rfl rfl 20 (by decide) (hts _ wf_X12_35) (fun _ h9 => h9) rfl dX12_becomes_1 ?_
  refine lv_iload_n hx hb dX12_becomes_4 rfl (lv_at hl 1 rfl) ?_
  obtain ⟨hi1, hf⟩ := tc_in hf
  refine va_iald hx hb hK hP 5 1 rfl rfl hi1 dX12_becomes_5 ?_
  refine lv_iload_n hx hb dX12_becomes_6 rfl (lv_at hl 2 rfl) ?_
  refine lv_icmp_ne (tgt := 12) hx hb dX12_becomes_7 (by decide) (fun hc => ?_) (fun hc => ?_)
  · have hf := tc_neg hc hf
    refine lv_aload_n hx hb dX12_becomes_12 rfl (lv_at hl 0 rfl) ?_
    refine va_get (D := (dC, dI)) (ci := 12) (v := .ref (q 5)) (C := RX12) (T := TX12) (N := 49) hx hb hts i_X12 hown hK hP 0 rfl rfl 20 (by decide) (hts _ wf_X12_35) (fun _ h9 => h9) rfl dX12_becomes_13 ?_
    refine lv_iload_n hx hb dX12_becomes_16 rfl (lv_at hl 1 rfl) ?_
    refine lv_iload_n hx hb dX12_becomes_17 rfl (lv_at hl 2 rfl) ?_
    obtain ⟨hi2, hf⟩ := tc_in hf
    refine va_iast hx hb hK hP hD hS 5 1 rfl rfl hi2 dX12_becomes_18 (fun H locs hP hD hS => ?_)
    have hP := tc_eP (aw12_0_5 ca q S a1 a2) hP
    have hD := tc_eD (aw12_0_5 ca q S a1 a2) hD
    refine lv_iconst (v := (1 : Int32)) hx hb dX12_becomes_19 (by decide) ?_
    obtain rfl := Option.some.inj hf
    exact tc_rz X hP hD hS rfl dX12_becomes_20 (by decide) rfl rfl
  · have hf := tc_pos hc hf
    refine lv_iconst (v := (0 : Int32)) hx hb dX12_becomes_10 (by decide) ?_
    obtain rfl := Option.some.inj hf
    exact tc_rz X hP hD hS rfl dX12_becomes_11 (by decide) rfl rfl
end G
