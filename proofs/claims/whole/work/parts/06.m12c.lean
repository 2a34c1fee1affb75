section G
variable {p : Program} {l : Launch} {e : Env} {s : State} {m : MethodId} {args : Array Value} {below : List Frame} {meth : Method} {c : Code} {dC : Nat → ClassId} {dI : Nat → Nat → Nat} {ca : Nat → ClassId} {A : Nat → Prop}
def fX12_prop  (S : ms_T) (a1 : Int32) : Option (Int32 × ms_T) :=
  (fX12_isClaimAt (si (si S 1 (0 : Int32)) 0 (0 : Int32)) a1).bind fun z1 =>
  if z1 = 0 then
    (fX12_refuse (si (si S 1 (0 : Int32)) 0 (0 : Int32)) (2 : Int32)).bind fun z6 =>
    some (z6.1, z6.2)
  else
    (fX12_becomes (si (si S 1 (0 : Int32)) 0 (0 : Int32)) ((40 : Int32) + a1) (1 : Int32)).bind fun z2 =>
    if z2.1 = 0 then
      (fX12_refuse z2.2 (9 : Int32)).bind fun z3 =>
      some (z3.1, z3.2)
    else
      (fX12_standing z2.2 (0 : Int32) (0 : Int32)).bind fun z4 =>
      (fX12_sizeOf z4).bind fun z5 =>
      some (z5, z2.2)
abbrev rmX12_prop : Room := { frames := 2, cells := 0, slots := 0, locals := 47 }
theorem okX12_prop : tc_ok yX12_prop cX12_prop 2 (some .int) 1 := ⟨wc_X12_prop, wn_X12, by decide, by decide, by decide +kernel⟩
set_option maxRecDepth 20000 in
theorem mX12_prop {q : Nat → Nat}  {S : ms_T} {a1 : Int32} {z : Int32 × ms_T}  (hf : fX12_prop S a1 = some z) : tc_MI l dC dI ca yX12_prop cX12_prop 2 (some .int) rmX12_prop [.ref (q 0), .int (a1)] (w12 ca q S) (w12 ca q z.2) (z.1) := by
  refine tc_metI (own := RX12) (by decide) rfl ?_ (Nat.le_of_ble_eq_true rfl)
  intro p e s m below meth c A X hP hD hS ls hl
  obtain ⟨hx, hb, hr, hml, hown, hts, hlk, hK, hA, hG⟩ := id X
  unfold fX12_prop at hf
  have hl : lv_has ls 2 [(0, .ref (q 0)), (1, .int (a1))] := hl
  refine lv_aload_n hx hb dX12_prop_0 rfl (lv_at hl 0 rfl) ?_
  refine lv_iconst (v := (0 : Int32)) hx hb dX12_prop_1 (by decide) ?_
  refine va_put (D := (dC, dI)) (ci := 12) (v := .int ((0 : Int32))) (ty := .int) (C := RX12) (T := TX12) (N := 49) hx hb hts i_X12 tyX12 tyX12_ok nmX12 hown hK hP hD hS 0 rfl rfl 1 (by decide) (hts _ wf_X12_63) (fun _ h9 => h9) rfl (tyX12_ok 1 (by decide)) rfl rfl (Nat.le_of_ble_eq_true rfl) dX12_prop_2 (fun H locs hP hD hS => ?_)
  have hP := tc_eP (pw12_0_1 ca q S (0 : Int32)) hP
  have hD := tc_eD (pw12_0_1 ca q S (0 : Int32)) hD
  refine lv_aload_n hx hb dX12_prop_5 rfl (lv_at hl 0 rfl) ?_
  refine lv_iconst (v := (0 : Int32)) hx hb dX12_prop_6 (by decide) ?_
  refine va_put (D := (dC, dI)) (ci := 12) (v := .int ((0 : Int32))) (ty := .int) (C := RX12) (T := TX12) (N := 49) hx hb hts i_X12 tyX12 tyX12_ok nmX12 hown hK hP hD hS 0 rfl rfl 0 (by decide) (hts _ wf_X12_66) (fun _ h9 => h9) rfl (tyX12_ok 0 (by decide)) rfl rfl (Nat.le_of_ble_eq_true rfl) dX12_prop_7 (fun H locs hP hD hS => ?_)
  have hP := tc_eP (pw12_0_0 ca q (si S 1 (0 : Int32)) (0 : Int32)) hP
  have hD := tc_eD (pw12_0_0 ca q (si S 1 (0 : Int32)) (0 : Int32)) hD
  refine lv_aload_n hx hb dX12_prop_10 rfl (lv_at hl 0 rfl) ?_
  refine lv_iload_n hx hb dX12_prop_11 rfl (lv_at hl 1 rfl) ?_
  obtain ⟨z1, hg, hf⟩ := tc_bi hf
  refine tc_iVs (As := [.int (a1)]) (rest := []) (b := q 0) X hP hD hS (mX12_isClaimAt hg) okX12_isClaimAt wl_X12_351 wi_X12_isClaimAt ws_X12_X12_isClaimAt_X12_isClaimAt ⟨rfl, rfl, Nat.le_of_ble_eq_true rfl, Nat.le_of_ble_eq_true rfl⟩ 12 0 rfl rfl rfl hl.1 (Nat.le_of_ble_eq_true rfl) dX12_prop_12 (fun H locs hP hD hS => ?_)
  refine lv_if_ne (tgt := 24) hx hb dX12_prop_15 (by decide) (fun hc => ?_) (fun hc => ?_)
  · have hf := tc_neg hc hf
    refine lv_aload_n hx hb dX12_prop_24 rfl (lv_at hl 0 rfl) ?_
    refine lv_bipush (v := (40 : Int32)) hx hb dX12_prop_25 (by decide) ?_
    refine lv_iload_n hx hb dX12_prop_27 rfl (lv_at hl 1 rfl) ?_
    refine lv_iadd hx hb dX12_prop_28 ?_
    refine lv_iconst (v := (1 : Int32)) hx hb dX12_prop_29 (by decide) ?_
    obtain ⟨z2, hg, hf⟩ := tc_bi hf
    refine tc_iVs (As := [.int ((40 : Int32) + a1), .int ((1 : Int32))]) (rest := []) (b := q 0) X hP hD hS (mX12_becomes hg) okX12_becomes wl_X12_393 wi_X12_becomes ws_X12_X12_becomes_X12_becomes ⟨rfl, rfl, Nat.le_of_ble_eq_true rfl, Nat.le_of_ble_eq_true rfl⟩ 12 0 rfl rfl rfl hl.1 (Nat.le_of_ble_eq_true rfl) dX12_prop_30 (fun H locs hP hD hS => ?_)
    refine lv_if_eq (tgt := 48) hx hb dX12_prop_33 (by decide) (fun hc => ?_) (fun hc => ?_)
    · have hf := tc_pos hc hf
      refine lv_aload_n hx hb dX12_prop_48 rfl (lv_at hl 0 rfl) ?_
      refine lv_bipush (v := (9 : Int32)) hx hb dX12_prop_49 (by decide) ?_
      obtain ⟨z3, hg, hf⟩ := tc_bi hf
      refine tc_iVs (As := [.int ((9 : Int32))]) (rest := []) (b := q 0) X hP hD hS (mX12_refuse hg) okX12_refuse wl_X12_333 wi_X12_refuse ws_X12_X12_refuse_X12_refuse ⟨rfl, rfl, Nat.le_of_ble_eq_true rfl, Nat.le_of_ble_eq_true rfl⟩ 12 0 rfl rfl rfl hl.1 (Nat.le_of_ble_eq_true rfl) dX12_prop_51 (fun H locs hP hD hS => ?_)
      obtain rfl := Option.some.inj hf
      exact tc_ri X hP hD hS rfl dX12_prop_54 rfl rfl
    · have hf := tc_neg hc hf
      refine lv_aload_n hx hb dX12_prop_36 rfl (lv_at hl 0 rfl) ?_
      refine lv_iconst (v := (0 : Int32)) hx hb dX12_prop_37 (by decide) ?_
      refine lv_iconst (v := (0 : Int32)) hx hb dX12_prop_38 (by decide) ?_
      obtain ⟨z4, hg, hf⟩ := tc_bi hf
      refine tc_iVs (As := [.int ((0 : Int32)), .int ((0 : Int32))]) (rest := []) (b := q 0) X hP hD hS (mX12_standing hg) okX12_standing wl_X12_328 wi_X12_standing ws_X12_X12_standing_X12_standing ⟨rfl, rfl, Nat.le_of_ble_eq_true rfl, Nat.le_of_ble_eq_true rfl⟩ 12 0 rfl rfl rfl hl.1 (Nat.le_of_ble_eq_true rfl) dX12_prop_39 (fun H locs hP hD hS => ?_)
      obtain ⟨z5, hg, hf⟩ := tc_bi hf
      refine tc_iS0 (As := [.int (z4)]) (rest := []) X hP hD hS (mX12_sizeOf hg) okX12_sizeOf wl_X12_396 wt_X12_sizeOf ⟨rfl, rfl, Nat.le_of_ble_eq_true rfl, Nat.le_of_ble_eq_true rfl⟩ rfl hl.1 (Nat.le_of_ble_eq_true rfl) dX12_prop_42 (fun H locs hP hD hS => ?_)
      refine lv_goto (tgt := 54) hx hb dX12_prop_45 (by decide) ?_
      obtain rfl := Option.some.inj hf
      exact tc_ri X hP hD hS rfl dX12_prop_54 rfl rfl
  · have hf := tc_pos hc hf
    refine lv_aload_n hx hb dX12_prop_18 rfl (lv_at hl 0 rfl) ?_
    refine lv_iconst (v := (2 : Int32)) hx hb dX12_prop_19 (by decide) ?_
    obtain ⟨z6, hg, hf⟩ := tc_bi hf
    refine tc_iVs (As := [.int ((2 : Int32))]) (rest := []) (b := q 0) X hP hD hS (mX12_refuse hg) okX12_refuse wl_X12_333 wi_X12_refuse ws_X12_X12_refuse_X12_refuse ⟨rfl, rfl, Nat.le_of_ble_eq_true rfl, Nat.le_of_ble_eq_true rfl⟩ 12 0 rfl rfl rfl hl.1 (Nat.le_of_ble_eq_true rfl) dX12_prop_20 (fun H locs hP hD hS => ?_)
    obtain rfl := Option.some.inj hf
    exact tc_ri X hP hD hS rfl dX12_prop_23 rfl rfl
def fX12_cut  (S : ms_T) (a1 : Int32) : Option (Int32 × ms_T) :=
  (fX12_isClaimAt (si (si S 1 (0 : Int32)) 0 (0 : Int32)) a1).bind fun z1 =>
  if z1 = 0 then
    (fX12_refuse (si (si S 1 (0 : Int32)) 0 (0 : Int32)) (2 : Int32)).bind fun z6 =>
    some (z6.1, z6.2)
  else
    (fX12_becomes (si (si S 1 (0 : Int32)) 0 (0 : Int32)) ((40 : Int32) + a1) (0 : Int32)).bind fun z2 =>
    if z2.1 = 0 then
      (fX12_refuse z2.2 (9 : Int32)).bind fun z3 =>
      some (z3.1, z3.2)
    else
      (fX12_standing z2.2 (0 : Int32) (0 : Int32)).bind fun z4 =>
      (fX12_sizeOf z4).bind fun z5 =>
      some (z5, z2.2)
abbrev rmX12_cut : Room := { frames := 2, cells := 0, slots := 0, locals := 47 }
theorem okX12_cut : tc_ok yX12_cut cX12_cut 2 (some .int) 1 := ⟨wc_X12_cut, wn_X12, by decide, by decide, by decide +kernel⟩
set_option maxRecDepth 20000 in
theorem mX12_cut {q : Nat → Nat}  {S : ms_T} {a1 : Int32} {z : Int32 × ms_T}  (hf : fX12_cut S a1 = some z) : tc_MI l dC dI ca yX12_cut cX12_cut 2 (some .int) rmX12_cut [.ref (q 0), .int (a1)] (w12 ca q S) (w12 ca q z.2) (z.1) := by
  refine tc_metI (own := RX12) (by decide) rfl ?_ (Nat.le_of_ble_eq_true rfl)
  intro p e s m below meth c A X hP hD hS ls hl
  obtain ⟨hx, hb, hr, hml, hown, hts, hlk, hK, hA, hG⟩ := id X
  unfold fX12_cut at hf
  have hl : lv_has ls 2 [(0, .ref (q 0)), (1, .int (a1))] := hl
  refine lv_aload_n hx hb dX12_cut_0 rfl (lv_at hl 0 rfl) ?_
  refine lv_iconst (v := (0 : Int32)) hx hb dX12_cut_1 (by decide) ?_
  refine va_put (D := (dC, dI)) (ci := 12) (v := .int ((0 : Int32))) (ty := .int) (C := RX12) (T := TX12) (N := 49) hx hb hts i_X12 tyX12 tyX12_ok nmX12 hown hK hP hD hS 0 rfl rfl 1 (by decide) (hts _ wf_X12_63) (fun _ h9 => h9) rfl (tyX12_ok 1 (by decide)) rfl rfl (Nat.le_of_ble_eq_true rfl) dX12_cut_2 (fun H locs hP hD hS => ?_)
  have hP := tc_eP (pw12_0_1 ca q S (0 : Int32)) hP
  have hD := tc_eD (pw12_0_1 ca q S (0 : Int32)) hD
  refine lv_aload_n hx hb dX12_cut_5 rfl (lv_at hl 0 rfl) ?_
  refine lv_iconst (v := (0 : Int32)) hx hb dX12_cut_6 (by decide) ?_
  refine va_put (D := (dC, dI)) (ci := 12) (v := .int ((0 : Int32))) (ty := .int) (C := RX12) (T := TX12) (N := 49) hx hb hts i_X12 tyX12 tyX12_ok nmX12 hown hK hP hD hS 0 rfl rfl 0 (by decide) (hts _ wf_X12_66) (fun _ h9 => h9) rfl (tyX12_ok 0 (by decide)) rfl rfl (Nat.le_of_ble_eq_true rfl) dX12_cut_7 (fun H locs hP hD hS => ?_)
  have hP := tc_eP (pw12_0_0 ca q (si S 1 (0 : Int32)) (0 : Int32)) hP
  have hD := tc_eD (pw12_0_0 ca q (si S 1 (0 : Int32)) (0 : Int32)) hD
  refine lv_aload_n hx hb dX12_cut_10 rfl (lv_at hl 0 rfl) ?_
  refine lv_iload_n hx hb dX12_cut_11 rfl (lv_at hl 1 rfl) ?_
  obtain ⟨z1, hg, hf⟩ := tc_bi hf
  refine tc_iVs (As := [.int (a1)]) (rest := []) (b := q 0) X hP hD hS (mX12_isClaimAt hg) okX12_isClaimAt wl_X12_351 wi_X12_isClaimAt ws_X12_X12_isClaimAt_X12_isClaimAt ⟨rfl, rfl, Nat.le_of_ble_eq_true rfl, Nat.le_of_ble_eq_true rfl⟩ 12 0 rfl rfl rfl hl.1 (Nat.le_of_ble_eq_true rfl) dX12_cut_12 (fun H locs hP hD hS => ?_)
  refine lv_if_ne (tgt := 24) hx hb dX12_cut_15 (by decide) (fun hc => ?_) (fun hc => ?_)
  · have hf := tc_neg hc hf
    refine lv_aload_n hx hb dX12_cut_24 rfl (lv_at hl 0 rfl) ?_
    refine lv_bipush (v := (40 : Int32)) hx hb dX12_cut_25 (by decide) ?_
    refine lv_iload_n hx hb dX12_cut_27 rfl (lv_at hl 1 rfl) ?_
    refine lv_iadd hx hb dX12_cut_28 ?_
    refine lv_iconst (v := (0 : Int32)) hx hb dX12_cut_29 (by decide) ?_
    obtain ⟨z2, hg, hf⟩ := tc_bi hf
    refine tc_iVs (As := [.int ((40 : Int32) + a1), .int ((0 : Int32))]) (rest := []) (b := q 0) X hP hD hS (mX12_becomes hg) okX12_becomes wl_X12_393 wi_X12_becomes ws_X12_X12_becomes_X12_becomes ⟨rfl, rfl, Nat.le_of_ble_eq_true rfl, Nat.le_of_ble_eq_true rfl⟩ 12 0 rfl rfl rfl hl.1 (Nat.le_of_ble_eq_true rfl) dX12_cut_30 (fun H locs hP hD hS => ?_)
    refine lv_if_eq (tgt := 48) hx hb dX12_cut_33 (by decide) (fun hc => ?_) (fun hc => ?_)
    · have hf := tc_pos hc hf
      refine lv_aload_n hx hb dX12_cut_48 rfl (lv_at hl 0 rfl) ?_
      refine lv_bipush (v := (9 : Int32)) hx hb dX12_cut_49 (by decide) ?_
      obtain ⟨z3, hg, hf⟩ := tc_bi hf
      refine tc_iVs (As := [.int ((9 : Int32))]) (rest := []) (b := q 0) X hP hD hS (mX12_refuse hg) okX12_refuse wl_X12_333 wi_X12_refuse ws_X12_X12_refuse_X12_refuse ⟨rfl, rfl, Nat.le_of_ble_eq_true rfl, Nat.le_of_ble_eq_true rfl⟩ 12 0 rfl rfl rfl hl.1 (Nat.le_of_ble_eq_true rfl) dX12_cut_51 (fun H locs hP hD hS => ?_)
      obtain rfl := Option.some.inj hf
      exact tc_ri X hP hD hS rfl dX12_cut_54 rfl rfl
    · have hf := tc_neg hc hf
      refine lv_aload_n hx hb dX12_cut_36 rfl (lv_at hl 0 rfl) ?_
      refine lv_iconst (v := (0 : Int32)) hx hb dX12_cut_37 (by decide) ?_
      refine lv_iconst (v := (0 : Int32)) hx hb dX12_cut_38 (by decide) ?_
      obtain ⟨z4, hg, hf⟩ := tc_bi hf
      refine tc_iVs (As := [.int ((0 : Int32)), .int ((0 : Int32))]) (rest := []) (b := q 0) X hP hD hS (mX12_standing hg) okX12_standing wl_X12_328 wi_X12_standing ws_X12_X12_standing_X12_standing ⟨rfl, rfl, Nat.le_of_ble_eq_true rfl, Nat.le_of_ble_eq_true rfl⟩ 12 0 rfl rfl rfl hl.1 (Nat.le_of_ble_eq_true rfl) dX12_cut_39 (fun H locs hP hD hS => ?_)
      obtain ⟨z5, hg, hf⟩ := tc_bi hf
      refine tc_iS0 (As := [.int (z4)]) (rest := []) X hP hD hS (mX12_sizeOf hg) okX12_sizeOf wl_X12_396 wt_X12_sizeOf ⟨rfl, rfl, Nat.le_of_ble_eq_true rfl, Nat.le_of_ble_eq_true rfl⟩ rfl hl.1 (Nat.le_of_ble_eq_true rfl) dX12_cut_42 (fun H locs hP hD hS => ?_)
      refine lv_goto (tgt := 54) hx hb dX12_cut_45 (by decide) ?_
      obtain rfl := Option.some.inj hf
      exact tc_ri X hP hD hS rfl dX12_cut_54 rfl rfl
  · have hf := tc_pos hc hf
    refine lv_aload_n hx hb dX12_cut_18 rfl (lv_at hl 0 rfl) ?_
    refine lv_iconst (v := (2 : Int32)) hx hb dX12_cut_19 (by decide) ?_
    obtain ⟨z6, hg, hf⟩ := tc_bi hf
    refine tc_iVs (As := [.int ((2 : Int32))]) (rest := []) (b := q 0) X hP hD hS (mX12_refuse hg) okX12_refuse wl_X12_333 wi_X12_refuse ws_X12_X12_refuse_X12_refuse ⟨rfl, rfl, Nat.le_of_ble_eq_true rfl, Nat.le_of_ble_eq_true rfl⟩ 12 0 rfl rfl rfl hl.1 (Nat.le_of_ble_eq_true rfl) dX12_cut_20 (fun H locs hP hD hS => ?_)
    obtain rfl := Option.some.inj hf
    exact tc_ri X hP hD hS rfl dX12_cut_23 rfl rfl
def fX12_lift_26    (S : ms_T) : Option (Int32 × ms_T) :=
  (fX12_refuse S (2 : Int32)).bind fun z2 =>
  some (z2.1, z2.2)
def fX12_lift  (S : ms_T) (a1 : Int32) (a2 : Int32) : Option (Int32 × ms_T) :=
  (fX12_isTalkerAt (si (si S 1 (0 : Int32)) 0 (0 : Int32)) a1).bind fun z1 =>
  if z1 = 0 then
    fX12_lift_26 (si (si S 1 (0 : Int32)) 0 (0 : Int32))
  else
    (fX12_isHeight (si (si S 1 (0 : Int32)) 0 (0 : Int32)) a2).bind fun z3 =>
    if z3 = 0 then
      fX12_lift_26 (si (si S 1 (0 : Int32)) 0 (0 : Int32))
    else
      if a2 = 0 then
        (fX12_refuse (si (si S 1 (0 : Int32)) 0 (0 : Int32)) (5 : Int32)).bind fun z7 =>
        some (z7.1, z7.2)
      else
        if inb ((54 : Int32) + a1) 1820 = true then
          if inb ((54 : Int32) + a1) 1820 = true then
            if inb ((60 : Int32) + a1) 1820 = true then
              some (ia (si (si S 1 (0 : Int32)) 0 (0 : Int32)) 5 ((54 : Int32) + a1), sa (sa (si (si S 1 (0 : Int32)) 0 (0 : Int32)) 5 ((54 : Int32) + a1) a2) 5 ((60 : Int32) + a1) (0 : Int32))
            else none
          else none
        else none
abbrev rmX12_lift : Room := { frames := 2, cells := 0, slots := 0, locals := 46 }
theorem okX12_lift : tc_ok yX12_lift cX12_lift 4 (some .int) 2 := ⟨wc_X12_lift, wn_X12, by decide, by decide, by decide +kernel⟩
set_option maxRecDepth 20000 in
theorem tX12_lift_26 {q : Nat → Nat}  (X : tc_X dC dI ca A RX12 cX12_lift 4 (some .int) p s m args meth c) (z : Int32 × ms_T)     : ∀ (S : ms_T), fX12_lift_26 S = some z → ∀ (H : Heap) (locs : List Loc) (ls : Array Slot), va_P (dC, dI) classes (w12 ca q S) H → va_D A (w12 ca q S) → va_S A s.heap H locs → lv_has ls 4 [(0, .ref (q 0))] → W p l e rmX12_lift s m args below meth c H locs 0 0 (MQ below (tc_QI dC dI ca A (w12 ca q z.2) (z.1)) args s 0 0 A) (F0 m 26 ls []) := by
  obtain ⟨hx, hb, hr, hml, hown, hts, hlk, hK, hA, hG⟩ := id X
  intro S hf H locs ls hP hD hS hl
  unfold fX12_lift_26 at hf
  refine lv_aload_n hx hb dX12_lift_26 rfl (lv_at hl 0 rfl) ?_
  refine lv_iconst (v := (2 : Int32)) hx hb dX12_lift_27 (by decide) ?_
  obtain ⟨z2, hg, hf⟩ := tc_bi hf
  refine tc_iVs (As := [.int ((2 : Int32))]) (rest := []) (b := q 0) X hP hD hS (mX12_refuse hg) okX12_refuse wl_X12_333 wi_X12_refuse ws_X12_X12_refuse_X12_refuse ⟨rfl, rfl, Nat.le_of_ble_eq_true rfl, Nat.le_of_ble_eq_true rfl⟩ 12 0 rfl rfl rfl hl.1 (Nat.le_of_ble_eq_true rfl) dX12_lift_28 (fun H locs hP hD hS => ?_)
  obtain rfl := Option.some.inj hf
  exact tc_ri X hP hD hS rfl dX12_lift_31 rfl rfl
set_option maxRecDepth 20000 in
theorem mX12_lift {q : Nat → Nat}  {S : ms_T} {a1 : Int32} {a2 : Int32} {z : Int32 × ms_T}  (hf : fX12_lift S a1 a2 = some z) : tc_MI l dC dI ca yX12_lift cX12_lift 4 (some .int) rmX12_lift [.ref (q 0), .int (a1), .int (a2)] (w12 ca q S) (w12 ca q z.2) (z.1) := by
  refine tc_metI (own := RX12) (by decide) rfl ?_ (Nat.le_of_ble_eq_true rfl)
  intro p e s m below meth c A X hP hD hS ls hl
  obtain ⟨hx, hb, hr, hml, hown, hts, hlk, hK, hA, hG⟩ := id X
  unfold fX12_lift at hf
  have hl : lv_has ls 4 [(0, .ref (q 0)), (1, .int (a1)), (2, .int (a2))] := hl
  refine lv_aload_n hx hb dX12_lift_0 rfl (lv_at hl 0 rfl) ?_
  refine lv_iconst (v := (0 : Int32)) hx hb dX12_lift_1 (by decide) ?_
  refine va_put (D := (dC, dI)) (ci := 12) (v := .int ((0 : Int32))) (ty := .int) (C := RX12) (T := TX12) (N := 49) hx hb hts i_X12 tyX12 tyX12_ok nmX12 hown hK hP hD hS 0 rfl rfl 1 (by decide) (hts _ wf_X12_63) (fun _ h9 => h9) rfl (tyX12_ok 1 (by decide)) rfl rfl (Nat.le_of_ble_eq_true rfl) dX12_lift_2 (fun H locs hP hD hS => ?_)
  have hP := tc_eP (pw12_0_1 ca q S (0 : Int32)) hP
  have hD := tc_eD (pw12_0_1 ca q S (0 : Int32)) hD
  refine lv_aload_n hx hb dX12_lift_5 rfl (lv_at hl 0 rfl) ?_
  refine lv_iconst (v := (0 : Int32)) hx hb dX12_lift_6 (by decide) ?_
  refine va_put (D := (dC, dI)) (ci := 12) (v := .int ((0 : Int32))) (ty := .int) (C := RX12) (T := TX12) (N := 49) hx hb hts i_X12 tyX12 tyX12_ok nmX12 hown hK hP hD hS 0 rfl rfl 0 (by decide) (hts _ wf_X12_66) (fun _ h9 => h9) rfl (tyX12_ok 0 (by decide)) rfl rfl (Nat.le_of_ble_eq_true rfl) dX12_lift_7 (fun H locs hP hD hS => ?_)
  have hP := tc_eP (pw12_0_0 ca q (si S 1 (0 : Int32)) (0 : Int32)) hP
  have hD := tc_eD (pw12_0_0 ca q (si S 1 (0 : Int32)) (0 : Int32)) hD
  refine lv_aload_n hx hb dX12_lift_10 rfl (lv_at hl 0 rfl) ?_
  refine lv_iload_n hx hb dX12_lift_11 rfl (lv_at hl 1 rfl) ?_
  obtain ⟨z1, hg, hf⟩ := tc_bi hf
  refine tc_iVs (As := [.int (a1)]) (rest := []) (b := q 0) X hP hD hS (mX12_isTalkerAt hg) okX12_isTalkerAt wl_X12_362 wi_X12_isTalkerAt ws_X12_X12_isTalkerAt_X12_isTalkerAt ⟨rfl, rfl, Nat.le_of_ble_eq_true rfl, Nat.le_of_ble_eq_true rfl⟩ 12 0 rfl rfl rfl hl.1 (Nat.le_of_ble_eq_true rfl) dX12_lift_12 (fun H locs hP hD hS => ?_)
  refine lv_if_eq (tgt := 26) hx hb dX12_lift_15 (by decide) (fun hc => ?_) (fun hc => ?_)
  · have hf := tc_pos hc hf
    exact tX12_lift_26 X z (si (si S 1 (0 : Int32)) 0 (0 : Int32)) hf _ _ _ hP hD hS (lv_sub hl [0] rfl)
  · have hf := tc_neg hc hf
    refine lv_aload_n hx hb dX12_lift_18 rfl (lv_at hl 0 rfl) ?_
    refine lv_iload_n hx hb dX12_lift_19 rfl (lv_at hl 2 rfl) ?_
    obtain ⟨z3, hg, hf⟩ := tc_bi hf
    refine tc_iVs (As := [.int (a2)]) (rest := []) (b := q 0) X hP hD hS (mX12_isHeight hg) okX12_isHeight wl_X12_399 wi_X12_isHeight ws_X12_X12_isHeight_X12_isHeight ⟨rfl, rfl, Nat.le_of_ble_eq_true rfl, Nat.le_of_ble_eq_true rfl⟩ 12 0 rfl rfl rfl hl.1 (Nat.le_of_ble_eq_true rfl) dX12_lift_20 (fun H locs hP hD hS => ?_)
    refine lv_if_ne (tgt := 32) hx hb dX12_lift_23 (by decide) (fun hc => ?_) (fun hc => ?_)
    · have hf := tc_neg hc hf
      refine lv_iload_n hx hb dX12_lift_32 rfl (lv_at hl 2 rfl) ?_
      refine lv_if_ne (tgt := 42) hx hb dX12_lift_33 (by decide) (fun hc => ?_) (fun hc => ?_)
      · have hf := tc_neg hc hf
        refine lv_aload_n hx hb dX12_lift_42 rfl (lv_at hl 0 rfl) ?_
        refine va_get (D := (dC, dI)) (ci := 12) (v := .ref (q 5)) (C := RX12) (T := TX12) (N := 49) hx hb hts i_X12 hown hK hP 0 rfl rfl 20 (by decide) (hts _ wf_X12_35) (fun _ h9 => h9) rfl dX12_lift_43 ?_
        refine lv_bipush (v := (54 : Int32)) hx hb dX12_lift_46 (by decide) ?_
        refine lv_iload_n hx hb dX12_lift_48 rfl (lv_at hl 1 rfl) ?_
        refine lv_iadd hx hb dX12_lift_49 ?_
        obtain ⟨hi4, hf⟩ := tc_in hf
        refine va_iald hx hb hK hP 5 1 rfl rfl hi4 dX12_lift_50 ?_
        refine lv_istore_n (lv' := [(3, .int (ia (si (si S 1 (0 : Int32)) 0 (0 : Int32)) 5 ((54 : Int32) + a1))), (0, .ref (q 0)), (1, .int (a1)), (2, .int (a2))]) hx hb dX12_lift_51 rfl hl (by decide) rfl (fun ls hl => ?_)
        refine lv_aload_n hx hb dX12_lift_52 rfl (lv_at hl 1 rfl) ?_
        refine va_get (D := (dC, dI)) (ci := 12) (v := .ref (q 5)) (C := RX12) (T := TX12) (N := 49) hx hb hts i_X12 hown hK hP 0 rfl rfl 20 (by decide) (hts _ wf_X12_35) (fun _ h9 => h9) rfl dX12_lift_53 ?_
        refine lv_bipush (v := (54 : Int32)) hx hb dX12_lift_56 (by decide) ?_
        refine lv_iload_n hx hb dX12_lift_58 rfl (lv_at hl 2 rfl) ?_
        refine lv_iadd hx hb dX12_lift_59 ?_
        refine lv_iload_n hx hb dX12_lift_60 rfl (lv_at hl 3 rfl) ?_
        obtain ⟨hi5, hf⟩ := tc_in hf
        refine va_iast hx hb hK hP hD hS 5 1 rfl rfl hi5 dX12_lift_61 (fun H locs hP hD hS => ?_)
        have hP := tc_eP (aw12_0_5 ca q (si (si S 1 (0 : Int32)) 0 (0 : Int32)) ((54 : Int32) + a1) a2) hP
        have hD := tc_eD (aw12_0_5 ca q (si (si S 1 (0 : Int32)) 0 (0 : Int32)) ((54 : Int32) + a1) a2) hD
        refine lv_aload_n hx hb dX12_lift_62 rfl (lv_at hl 1 rfl) ?_
        refine va_get (D := (dC, dI)) (ci := 12) (v := .ref (q 5)) (C := RX12) (T := TX12) (N := 49) hx hb hts i_X12 hown hK hP 0 rfl rfl 20 (by decide) (hts _ wf_X12_35) (fun _ h9 => h9) rfl dX12_lift_63 ?_
        refine lv_bipush (v := (60 : Int32)) hx hb dX12_lift_66 (by decide) ?_
        refine lv_iload_n hx hb dX12_lift_68 rfl (lv_at hl 2 rfl) ?_
        refine lv_iadd hx hb dX12_lift_69 ?_
        refine lv_iconst (v := (0 : Int32)) hx hb dX12_lift_70 (by decide) ?_
        obtain ⟨hi6, hf⟩ := tc_in hf
        refine va_iast hx hb hK hP hD hS 5 1 rfl rfl hi6 dX12_lift_71 (fun H locs hP hD hS => ?_)
        have hP := tc_eP (aw12_0_5 ca q (sa (si (si S 1 (0 : Int32)) 0 (0 : Int32)) 5 ((54 : Int32) + a1) a2) ((60 : Int32) + a1) (0 : Int32)) hP
        have hD := tc_eD (aw12_0_5 ca q (sa (si (si S 1 (0 : Int32)) 0 (0 : Int32)) 5 ((54 : Int32) + a1) a2) ((60 : Int32) + a1) (0 : Int32)) hD
        refine lv_iload_n hx hb dX12_lift_72 rfl (lv_at hl 0 rfl) ?_
        obtain rfl := Option.some.inj hf
        exact tc_ri X hP hD hS rfl dX12_lift_73 rfl rfl
      · have hf := tc_pos hc hf
        refine lv_aload_n hx hb dX12_lift_36 rfl (lv_at hl 0 rfl) ?_
        refine lv_iconst (v := (5 : Int32)) hx hb dX12_lift_37 (by decide) ?_
        obtain ⟨z7, hg, hf⟩ := tc_bi hf
        refine tc_iVs (As := [.int ((5 : Int32))]) (rest := []) (b := q 0) X hP hD hS (mX12_refuse hg) okX12_refuse wl_X12_333 wi_X12_refuse ws_X12_X12_refuse_X12_refuse ⟨rfl, rfl, Nat.le_of_ble_eq_true rfl, Nat.le_of_ble_eq_true rfl⟩ 12 0 rfl rfl rfl hl.1 (Nat.le_of_ble_eq_true rfl) dX12_lift_38 (fun H locs hP hD hS => ?_)
        obtain rfl := Option.some.inj hf
        exact tc_ri X hP hD hS rfl dX12_lift_41 rfl rfl
    · have hf := tc_pos hc hf
      exact tX12_lift_26 X z (si (si S 1 (0 : Int32)) 0 (0 : Int32)) hf _ _ _ hP hD hS (lv_sub hl [0] rfl)
def fX12_rewrite_56    (S : ms_T) : Option (Int32 × ms_T) :=
  (fX12_refuse S (5 : Int32)).bind fun z3 =>
  some (z3.1, z3.2)
def fX12_rewrite_50    (S : ms_T) (v1 : Int32) (v2 : Int32) (v3 : Int32) (t0 : Int64) (t1 : Int64) (t2 : Int64) : Option (Int32 × ms_T) :=
  (fX12_isIn t2 t1 t0).bind fun z4 =>
  if z4 = 0 then
    fX12_rewrite_56 S
  else
    if inb (((6 : Int32) + ((9 : Int32) * v2)) + v1) 1820 = true then
      if inb (((6 : Int32) + ((9 : Int32) * v2)) + v1) 1820 = true then
        some (ia S 5 (((6 : Int32) + ((9 : Int32) * v2)) + v1), sa S 5 (((6 : Int32) + ((9 : Int32) * v2)) + v1) v3)
      else none
    else none
def fX12_rewrite  (S : ms_T) (a1 : Int32) (a2 : Int32) (a3 : Int32) : Option (Int32 × ms_T) :=
  (fX12_isTopicAt (si (si S 1 (0 : Int32)) 0 (0 : Int32)) a1).bind fun z1 =>
  if z1 = 0 then
    (fX12_refuse (si (si S 1 (0 : Int32)) 0 (0 : Int32)) (2 : Int32)).bind fun z7 =>
    some (z7.1, z7.2)
  else
    (fX12_isIn a2.toInt64 (0 : Int64) (1 : Int64)).bind fun z2 =>
    if z2 = 0 then
      fX12_rewrite_56 (si (si S 1 (0 : Int32)) 0 (0 : Int32))
    else
      if a2 = 0 then
        fX12_rewrite_50 (si (si S 1 (0 : Int32)) 0 (0 : Int32)) a1 a2 a3 (20 : Int64) (0 : Int64) a3.toInt64
      else
        fX12_rewrite_50 (si (si S 1 (0 : Int32)) 0 (0 : Int32)) a1 a2 a3 (3 : Int64) (0 : Int64) a3.toInt64
abbrev rmX12_rewrite : Room := { frames := 2, cells := 0, slots := 0, locals := 46 }
theorem okX12_rewrite : tc_ok yX12_rewrite cX12_rewrite 5 (some .int) 3 := ⟨wc_X12_rewrite, wn_X12, by decide, by decide, by decide +kernel⟩
set_option maxRecDepth 20000 in
theorem tX12_rewrite_56 {q : Nat → Nat}  (X : tc_X dC dI ca A RX12 cX12_rewrite 5 (some .int) p s m args meth c) (z : Int32 × ms_T)     : ∀ (S : ms_T), fX12_rewrite_56 S = some z → ∀ (H : Heap) (locs : List Loc) (ls : Array Slot), va_P (dC, dI) classes (w12 ca q S) H → va_D A (w12 ca q S) → va_S A s.heap H locs → lv_has ls 5 [(0, .ref (q 0))] → W p l e rmX12_rewrite s m args below meth c H locs 0 0 (MQ below (tc_QI dC dI ca A (w12 ca q z.2) (z.1)) args s 0 0 A) (F0 m 56 ls []) := by
  obtain ⟨hx, hb, hr, hml, hown, hts, hlk, hK, hA, hG⟩ := id X
  intro S hf H locs ls hP hD hS hl
  unfold fX12_rewrite_56 at hf
  refine lv_aload_n hx hb dX12_rewrite_56 rfl (lv_at hl 0 rfl) ?_
  refine lv_iconst (v := (5 : Int32)) hx hb dX12_rewrite_57 (by decide) ?_
  obtain ⟨z3, hg, hf⟩ := tc_bi hf
  refine tc_iVs (As := [.int ((5 : Int32))]) (rest := []) (b := q 0) X hP hD hS (mX12_refuse hg) okX12_refuse wl_X12_333 wi_X12_refuse ws_X12_X12_refuse_X12_refuse ⟨rfl, rfl, Nat.le_of_ble_eq_true rfl, Nat.le_of_ble_eq_true rfl⟩ 12 0 rfl rfl rfl hl.1 (Nat.le_of_ble_eq_true rfl) dX12_rewrite_58 (fun H locs hP hD hS => ?_)
  obtain rfl := Option.some.inj hf
  exact tc_ri X hP hD hS rfl dX12_rewrite_61 rfl rfl
set_option maxRecDepth 20000 in
theorem tX12_rewrite_50 {q : Nat → Nat}  (X : tc_X dC dI ca A RX12 cX12_rewrite 5 (some .int) p s m args meth c) (z : Int32 × ms_T)     : ∀ (S : ms_T) (v1 : Int32) (v2 : Int32) (v3 : Int32) (t0 : Int64) (t1 : Int64) (t2 : Int64), fX12_rewrite_50 S v1 v2 v3 t0 t1 t2 = some z → ∀ (H : Heap) (locs : List Loc) (ls : Array Slot), va_P (dC, dI) classes (w12 ca q S) H → va_D A (w12 ca q S) → va_S A s.heap H locs → lv_has ls 5 [(0, .ref (q 0)), (1, .int (v1)), (2, .int (v2)), (3, .int (v3))] → W p l e rmX12_rewrite s m args below meth c H locs 0 0 (MQ below (tc_QI dC dI ca A (w12 ca q z.2) (z.1)) args s 0 0 A) (F0 m 50 ls [.long (t0), .long (t1), .long (t2)]) := by
  obtain ⟨hx, hb, hr, hml, hown, hts, hlk, hK, hA, hG⟩ := id X
  intro S v1 v2 v3 t0 t1 t2 hf H locs ls hP hD hS hl
  unfold fX12_rewrite_50 at hf
  obtain ⟨z4, hg, hf⟩ := tc_bi hf
  refine tc_iS0 (As := [.long (t2), .long (t1), .long (t0)]) (rest := []) X hP hD hS (mX12_isIn hg) okX12_isIn wl_X12_98 wt_X12_isIn ⟨rfl, rfl, Nat.le_of_ble_eq_true rfl, Nat.le_of_ble_eq_true rfl⟩ rfl hl.1 (Nat.le_of_ble_eq_true rfl) dX12_rewrite_50 (fun H locs hP hD hS => ?_)
  refine lv_if_ne (tgt := 62) hx hb dX12_rewrite_53 (by decide) (fun hc => ?_) (fun hc => ?_)
  · have hf := tc_neg hc hf
    refine lv_aload_n hx hb dX12_rewrite_62 rfl (lv_at hl 0 rfl) ?_
    refine va_get (D := (dC, dI)) (ci := 12) (v := .ref (q 5)) (C := RX12) (T := TX12) (N := 49) hx hb hts i_X12 hown hK hP 0 rfl rfl 20 (by decide) (hts _ wf_X12_35) (fun _ h9 => h9) rfl dX12_rewrite_63 ?_
    refine lv_bipush (v := (6 : Int32)) hx hb dX12_rewrite_66 (by decide) ?_
    refine lv_bipush (v := (9 : Int32)) hx hb dX12_rewrite_68 (by decide) ?_
    refine lv_iload_n hx hb dX12_rewrite_70 rfl (lv_at hl 2 rfl) ?_
    refine lv_imul hx hb dX12_rewrite_71 ?_
    refine lv_iadd hx hb dX12_rewrite_72 ?_
    refine lv_iload_n hx hb dX12_rewrite_73 rfl (lv_at hl 1 rfl) ?_
    refine lv_iadd hx hb dX12_rewrite_74 ?_
    obtain ⟨hi5, hf⟩ := tc_in hf
    refine va_iald hx hb hK hP 5 1 rfl rfl hi5 dX12_rewrite_75 ?_
    refine lv_istore (lv' := [(4, .int (ia S 5 (((6 : Int32) + ((9 : Int32) * v2)) + v1))), (0, .ref (q 0)), (1, .int (v1)), (2, .int (v2)), (3, .int (v3))]) hx hb dX12_rewrite_76 hl (by decide) rfl (fun ls hl => ?_)
    refine lv_aload_n hx hb dX12_rewrite_78 rfl (lv_at hl 1 rfl) ?_
    refine va_get (D := (dC, dI)) (ci := 12) (v := .ref (q 5)) (C := RX12) (T := TX12) (N := 49) hx hb hts i_X12 hown hK hP 0 rfl rfl 20 (by decide) (hts _ wf_X12_35) (fun _ h9 => h9) rfl dX12_rewrite_79 ?_
    refine lv_bipush (v := (6 : Int32)) hx hb dX12_rewrite_82 (by decide) ?_
    refine lv_bipush (v := (9 : Int32)) hx hb dX12_rewrite_84 (by decide) ?_
    refine lv_iload_n hx hb dX12_rewrite_86 rfl (lv_at hl 3 rfl) ?_
    refine lv_imul hx hb dX12_rewrite_87 ?_
    refine lv_iadd hx hb dX12_rewrite_88 ?_
    refine lv_iload_n hx hb dX12_rewrite_89 rfl (lv_at hl 2 rfl) ?_
    refine lv_iadd hx hb dX12_rewrite_90 ?_
    refine lv_iload_n hx hb dX12_rewrite_91 rfl (lv_at hl 4 rfl) ?_
    obtain ⟨hi6, hf⟩ := tc_in hf
    refine va_iast hx hb hK hP hD hS 5 1 rfl rfl hi6 dX12_rewrite_92 (fun H locs hP hD hS => ?_)
    have hP := tc_eP (aw12_0_5 ca q S (((6 : Int32) + ((9 : Int32) * v2)) + v1) v3) hP
    have hD := tc_eD (aw12_0_5 ca q S (((6 : Int32) + ((9 : Int32) * v2)) + v1) v3) hD
    refine lv_iload hx hb dX12_rewrite_93 (lv_at hl 0 rfl) ?_
    obtain rfl := Option.some.inj hf
    exact tc_ri X hP hD hS rfl dX12_rewrite_95 rfl rfl
  · have hf := tc_pos hc hf
    exact tX12_rewrite_56 X z S hf _ _ _ hP hD hS (lv_sub hl [0] rfl)
set_option maxRecDepth 20000 in
theorem mX12_rewrite {q : Nat → Nat}  {S : ms_T} {a1 : Int32} {a2 : Int32} {a3 : Int32} {z : Int32 × ms_T}  (hf : fX12_rewrite S a1 a2 a3 = some z) : tc_MI l dC dI ca yX12_rewrite cX12_rewrite 5 (some .int) rmX12_rewrite [.ref (q 0), .int (a1), .int (a2), .int (a3)] (w12 ca q S) (w12 ca q z.2) (z.1) := by
  refine tc_metI (own := RX12) (by decide) rfl ?_ (Nat.le_of_ble_eq_true rfl)
  intro p e s m below meth c A X hP hD hS ls hl
  obtain ⟨hx, hb, hr, hml, hown, hts, hlk, hK, hA, hG⟩ := id X
  unfold fX12_rewrite at hf
  have hl : lv_has ls 5 [(0, .ref (q 0)), (1, .int (a1)), (2, .int (a2)), (3, .int (a3))] := hl
  refine lv_aload_n hx hb dX12_rewrite_0 rfl (lv_at hl 0 rfl) ?_
  refine lv_iconst (v := (0 : Int32)) hx hb dX12_rewrite_1 (by decide) ?_
  refine va_put (D := (dC, dI)) (ci := 12) (v := .int ((0 : Int32))) (ty := .int) (C := RX12) (T := TX12) (N := 49) hx hb hts i_X12 tyX12 tyX12_ok nmX12 hown hK hP hD hS 0 rfl rfl 1 (by decide) (hts _ wf_X12_63) (fun _ h9 => h9) rfl (tyX12_ok 1 (by decide)) rfl rfl (Nat.le_of_ble_eq_true rfl) dX12_rewrite_2 (fun H locs hP hD hS => ?_)
  have hP := tc_eP (pw12_0_1 ca q S (0 : Int32)) hP
  have hD := tc_eD (pw12_0_1 ca q S (0 : Int32)) hD
  refine lv_aload_n hx hb dX12_rewrite_5 rfl (lv_at hl 0 rfl) ?_
  refine lv_iconst (v := (0 : Int32)) hx hb dX12_rewrite_6 (by decide) ?_
  refine va_put (D := (dC, dI)) (ci := 12) (v := .int ((0 : Int32))) (ty := .int) (C := RX12) (T := TX12) (N := 49) hx hb hts i_X12 tyX12 tyX12_ok nmX12 hown hK hP hD hS 0 rfl rfl 0 (by decide) (hts _ wf_X12_66) (fun _ h9 => h9) rfl (tyX12_ok 0 (by decide)) rfl rfl (Nat.le_of_ble_eq_true rfl) dX12_rewrite_7 (fun H locs hP hD hS => ?_)
  have hP := tc_eP (pw12_0_0 ca q (si S 1 (0 : Int32)) (0 : Int32)) hP
  have hD := tc_eD (pw12_0_0 ca q (si S 1 (0 : Int32)) (0 : Int32)) hD
  refine lv_aload_n hx hb dX12_rewrite_10 rfl (lv_at hl 0 rfl) ?_
  refine lv_iload_n hx hb dX12_rewrite_11 rfl (lv_at hl 1 rfl) ?_
  obtain ⟨z1, hg, hf⟩ := tc_bi hf
  refine tc_iVs (As := [.int (a1)]) (rest := []) (b := q 0) X hP hD hS (mX12_isTopicAt hg) okX12_isTopicAt wl_X12_345 wi_X12_isTopicAt ws_X12_X12_isTopicAt_X12_isTopicAt ⟨rfl, rfl, Nat.le_of_ble_eq_true rfl, Nat.le_of_ble_eq_true rfl⟩ 12 0 rfl rfl rfl hl.1 (Nat.le_of_ble_eq_true rfl) dX12_rewrite_12 (fun H locs hP hD hS => ?_)
  refine lv_if_ne (tgt := 24) hx hb dX12_rewrite_15 (by decide) (fun hc => ?_) (fun hc => ?_)
  · have hf := tc_neg hc hf
    refine lv_iload_n hx hb dX12_rewrite_24 rfl (lv_at hl 2 rfl) ?_
    refine lv_i2l (v := a2.toInt64) hx hb dX12_rewrite_25 rfl ?_
    refine lv_lconst (v := (0 : Int64)) hx hb dX12_rewrite_26 (by decide) ?_
    refine lv_lconst (v := (1 : Int64)) hx hb dX12_rewrite_27 (by decide) ?_
    obtain ⟨z2, hg, hf⟩ := tc_bi hf
    refine tc_iS0 (As := [.long (a2.toInt64), .long ((0 : Int64)), .long ((1 : Int64))]) (rest := []) X hP hD hS (mX12_isIn hg) okX12_isIn wl_X12_98 wt_X12_isIn ⟨rfl, rfl, Nat.le_of_ble_eq_true rfl, Nat.le_of_ble_eq_true rfl⟩ rfl hl.1 (Nat.le_of_ble_eq_true rfl) dX12_rewrite_28 (fun H locs hP hD hS => ?_)
    refine lv_if_eq (tgt := 56) hx hb dX12_rewrite_31 (by decide) (fun hc => ?_) (fun hc => ?_)
    · have hf := tc_pos hc hf
      exact tX12_rewrite_56 X z (si (si S 1 (0 : Int32)) 0 (0 : Int32)) hf _ _ _ hP hD hS (lv_sub hl [0] rfl)
    · have hf := tc_neg hc hf
      refine lv_iload_n hx hb dX12_rewrite_34 rfl (lv_at hl 3 rfl) ?_
      refine lv_i2l (v := a3.toInt64) hx hb dX12_rewrite_35 rfl ?_
      refine lv_lconst (v := (0 : Int64)) hx hb dX12_rewrite_36 (by decide) ?_
      refine lv_iload_n hx hb dX12_rewrite_37 rfl (lv_at hl 2 rfl) ?_
      refine lv_if_ne (tgt := 47) hx hb dX12_rewrite_38 (by decide) (fun hc => ?_) (fun hc => ?_)
      · have hf := tc_neg hc hf
        refine lv_ldc2 (v := (3 : Int64)) hx hb hown (hts _ wk_X12_96) dX12_rewrite_47 ?_
        exact tX12_rewrite_50 X z (si (si S 1 (0 : Int32)) 0 (0 : Int32)) a1 a2 a3 (3 : Int64) (0 : Int64) a3.toInt64 hf _ _ _ hP hD hS (lv_sub hl [0, 1, 2, 3] rfl)
      · have hf := tc_pos hc hf
        refine lv_ldc2 (v := (20 : Int64)) hx hb hown (hts _ wk_X12_402) dX12_rewrite_41 ?_
        refine lv_goto (tgt := 50) hx hb dX12_rewrite_44 (by decide) ?_
        exact tX12_rewrite_50 X z (si (si S 1 (0 : Int32)) 0 (0 : Int32)) a1 a2 a3 (20 : Int64) (0 : Int64) a3.toInt64 hf _ _ _ hP hD hS (lv_sub hl [0, 1, 2, 3] rfl)
  · have hf := tc_pos hc hf
    refine lv_aload_n hx hb dX12_rewrite_18 rfl (lv_at hl 0 rfl) ?_
    refine lv_iconst (v := (2 : Int32)) hx hb dX12_rewrite_19 (by decide) ?_
    obtain ⟨z7, hg, hf⟩ := tc_bi hf
    refine tc_iVs (As := [.int ((2 : Int32))]) (rest := []) (b := q 0) X hP hD hS (mX12_refuse hg) okX12_refuse wl_X12_333 wi_X12_refuse ws_X12_X12_refuse_X12_refuse ⟨rfl, rfl, Nat.le_of_ble_eq_true rfl, Nat.le_of_ble_eq_true rfl⟩ 12 0 rfl rfl rfl hl.1 (Nat.le_of_ble_eq_true rfl) dX12_rewrite_20 (fun H locs hP hD hS => ?_)
    obtain rfl := Option.some.inj hf
    exact tc_ri X hP hD hS rfl dX12_rewrite_23 rfl rfl
def fX12_think  (S : ms_T) (a1 : Int32) (a2 : Int32) : Option (Int32 × ms_T) :=
  (fX12_isTopicAt (si (si S 1 (0 : Int32)) 0 (0 : Int32)) a1).bind fun z1 =>
  if z1 = 0 then
    (fX12_refuse (si (si S 1 (0 : Int32)) 0 (0 : Int32)) (2 : Int32)).bind fun z7 =>
    some (z7.1, z7.2)
  else
    (fX12_isIn a2.toInt64 (0 : Int64) ((((1 : Int32) <<< ((ia (si (si S 1 (0 : Int32)) 0 (0 : Int32)) 5 (1 : Int32)) &&& 31)) - (1 : Int32)).toInt64)).bind fun z2 =>
    if z2 = 0 then
      (fX12_refuse (si (si S 1 (0 : Int32)) 0 (0 : Int32)) (5 : Int32)).bind fun z6 =>
      some (z6.1, z6.2)
    else
      if (ia (si (si S 1 (0 : Int32)) 0 (0 : Int32)) 5 (1 : Int32)) = (8 : Int32) then
        (fX12_refuse (si (si S 1 (0 : Int32)) 0 (0 : Int32)) (7 : Int32)).bind fun z5 =>
        some (z5.1, z5.2)
      else
        if inb ((9 : Int32) + (ia (si (si S 1 (0 : Int32)) 0 (0 : Int32)) 5 (1 : Int32))) 115 = true then
          (fX12_thinks (sA (si (si S 1 (0 : Int32)) 0 (0 : Int32)) 7 ((9 : Int32) + (ia (si (si S 1 (0 : Int32)) 0 (0 : Int32)) 5 (1 : Int32))) (0 : Int64)) (0 : Int32) a1 a2 (0 : Int32)).bind fun z4 =>
          some (ia (si (si S 1 (0 : Int32)) 0 (0 : Int32)) 5 (1 : Int32), z4)
        else none
abbrev rmX12_think : Room := { frames := 2, cells := 0, slots := 0, locals := 46 }
theorem okX12_think : tc_ok yX12_think cX12_think 4 (some .int) 2 := ⟨wc_X12_think, wn_X12, by decide, by decide, by decide +kernel⟩
set_option maxRecDepth 20000 in
theorem mX12_think {q : Nat → Nat}  {S : ms_T} {a1 : Int32} {a2 : Int32} {z : Int32 × ms_T}  (hf : fX12_think S a1 a2 = some z) : tc_MI l dC dI ca yX12_think cX12_think 4 (some .int) rmX12_think [.ref (q 0), .int (a1), .int (a2)] (w12 ca q S) (w12 ca q z.2) (z.1) := by
  refine tc_metI (own := RX12) (by decide) rfl ?_ (Nat.le_of_ble_eq_true rfl)
  intro p e s m below meth c A X hP hD hS ls hl
  obtain ⟨hx, hb, hr, hml, hown, hts, hlk, hK, hA, hG⟩ := id X
  unfold fX12_think at hf
  have hl : lv_has ls 4 [(0, .ref (q 0)), (1, .int (a1)), (2, .int (a2))] := hl
  refine lv_aload_n hx hb dX12_think_0 rfl (lv_at hl 0 rfl) ?_
  refine lv_iconst (v := (0 : Int32)) hx hb dX12_think_1 (by decide) ?_
  refine va_put (D := (dC, dI)) (ci := 12) (v := .int ((0 : Int32))) (ty := .int) (C := RX12) (T := TX12) (N := 49) hx hb hts i_X12 tyX12 tyX12_ok nmX12 hown hK hP hD hS 0 rfl rfl 1 (by decide) (hts _ wf_X12_63) (fun _ h9 => h9) rfl (tyX12_ok 1 (by decide)) rfl rfl (Nat.le_of_ble_eq_true rfl) dX12_think_2 (fun H locs hP hD hS => ?_)
  have hP := tc_eP (pw12_0_1 ca q S (0 : Int32)) hP
  have hD := tc_eD (pw12_0_1 ca q S (0 : Int32)) hD
  refine lv_aload_n hx hb dX12_think_5 rfl (lv_at hl 0 rfl) ?_
  refine lv_iconst (v := (0 : Int32)) hx hb dX12_think_6 (by decide) ?_
  refine va_put (D := (dC, dI)) (ci := 12) (v := .int ((0 : Int32))) (ty := .int) (C := RX12) (T := TX12) (N := 49) hx hb hts i_X12 tyX12 tyX12_ok nmX12 hown hK hP hD hS 0 rfl rfl 0 (by decide) (hts _ wf_X12_66) (fun _ h9 => h9) rfl (tyX12_ok 0 (by decide)) rfl rfl (Nat.le_of_ble_eq_true rfl) dX12_think_7 (fun H locs hP hD hS => ?_)
  have hP := tc_eP (pw12_0_0 ca q (si S 1 (0 : Int32)) (0 : Int32)) hP
  have hD := tc_eD (pw12_0_0 ca q (si S 1 (0 : Int32)) (0 : Int32)) hD
  refine lv_aload_n hx hb dX12_think_10 rfl (lv_at hl 0 rfl) ?_
  refine lv_iload_n hx hb dX12_think_11 rfl (lv_at hl 1 rfl) ?_
  obtain ⟨z1, hg, hf⟩ := tc_bi hf
  refine tc_iVs (As := [.int (a1)]) (rest := []) (b := q 0) X hP hD hS (mX12_isTopicAt hg) okX12_isTopicAt wl_X12_345 wi_X12_isTopicAt ws_X12_X12_isTopicAt_X12_isTopicAt ⟨rfl, rfl, Nat.le_of_ble_eq_true rfl, Nat.le_of_ble_eq_true rfl⟩ 12 0 rfl rfl rfl hl.1 (Nat.le_of_ble_eq_true rfl) dX12_think_12 (fun H locs hP hD hS => ?_)
  refine lv_if_ne (tgt := 24) hx hb dX12_think_15 (by decide) (fun hc => ?_) (fun hc => ?_)
  · have hf := tc_neg hc hf
    refine lv_iload_n hx hb dX12_think_24 rfl (lv_at hl 2 rfl) ?_
    refine lv_i2l (v := a2.toInt64) hx hb dX12_think_25 rfl ?_
    refine lv_lconst (v := (0 : Int64)) hx hb dX12_think_26 (by decide) ?_
    refine lv_iconst (v := (1 : Int32)) hx hb dX12_think_27 (by decide) ?_
    refine lv_aload_n hx hb dX12_think_28 rfl (lv_at hl 0 rfl) ?_
    refine va_get (D := (dC, dI)) (ci := 12) (v := .ref (q 5)) (C := RX12) (T := TX12) (N := 49) hx hb hts i_X12 hown hK hP 0 rfl rfl 20 (by decide) (hts _ wf_X12_35) (fun _ h9 => h9) rfl dX12_think_29 ?_
    refine lv_iconst (v := (1 : Int32)) hx hb dX12_think_32 (by decide) ?_
    refine va_iald hx hb hK hP 5 1 rfl rfl (inb_vp (by decide)) dX12_think_33 ?_
    refine lv_ishl hx hb dX12_think_34 ?_
    refine lv_iconst (v := (1 : Int32)) hx hb dX12_think_35 (by decide) ?_
    refine lv_isub hx hb dX12_think_36 ?_
    refine lv_i2l (v := (((1 : Int32) <<< ((ia (si (si S 1 (0 : Int32)) 0 (0 : Int32)) 5 (1 : Int32)) &&& 31)) - (1 : Int32)).toInt64) hx hb dX12_think_37 rfl ?_
    obtain ⟨z2, hg, hf⟩ := tc_bi hf
    refine tc_iS0 (As := [.long (a2.toInt64), .long ((0 : Int64)), .long ((((1 : Int32) <<< ((ia (si (si S 1 (0 : Int32)) 0 (0 : Int32)) 5 (1 : Int32)) &&& 31)) - (1 : Int32)).toInt64)]) (rest := []) X hP hD hS (mX12_isIn hg) okX12_isIn wl_X12_98 wt_X12_isIn ⟨rfl, rfl, Nat.le_of_ble_eq_true rfl, Nat.le_of_ble_eq_true rfl⟩ rfl hl.1 (Nat.le_of_ble_eq_true rfl) dX12_think_38 (fun H locs hP hD hS => ?_)
    refine lv_if_ne (tgt := 50) hx hb dX12_think_41 (by decide) (fun hc => ?_) (fun hc => ?_)
    · have hf := tc_neg hc hf
      refine lv_aload_n hx hb dX12_think_50 rfl (lv_at hl 0 rfl) ?_
      refine va_get (D := (dC, dI)) (ci := 12) (v := .ref (q 5)) (C := RX12) (T := TX12) (N := 49) hx hb hts i_X12 hown hK hP 0 rfl rfl 20 (by decide) (hts _ wf_X12_35) (fun _ h9 => h9) rfl dX12_think_51 ?_
      refine lv_iconst (v := (1 : Int32)) hx hb dX12_think_54 (by decide) ?_
      refine va_iald hx hb hK hP 5 1 rfl rfl (inb_vp (by decide)) dX12_think_55 ?_
      refine lv_istore_n (lv' := [(3, .int (ia (si (si S 1 (0 : Int32)) 0 (0 : Int32)) 5 (1 : Int32))), (0, .ref (q 0)), (1, .int (a1)), (2, .int (a2))]) hx hb dX12_think_56 rfl hl (by decide) rfl (fun ls hl => ?_)
      refine lv_iload_n hx hb dX12_think_57 rfl (lv_at hl 0 rfl) ?_
      refine lv_bipush (v := (8 : Int32)) hx hb dX12_think_58 (by decide) ?_
      refine lv_icmp_ne (tgt := 70) hx hb dX12_think_60 (by decide) (fun hc => ?_) (fun hc => ?_)
      · have hf := tc_neg hc hf
        refine lv_aload_n hx hb dX12_think_70 rfl (lv_at hl 1 rfl) ?_
        refine va_get (D := (dC, dI)) (ci := 12) (v := .ref (q 7)) (C := RX12) (T := TX12) (N := 49) hx hb hts i_X12 hown hK hP 0 rfl rfl 22 (by decide) (hts _ wf_X12_41) (fun _ h9 => h9) rfl dX12_think_71 ?_
        refine lv_bipush (v := (9 : Int32)) hx hb dX12_think_74 (by decide) ?_
        refine lv_iload_n hx hb dX12_think_76 rfl (lv_at hl 0 rfl) ?_
        refine lv_iadd hx hb dX12_think_77 ?_
        refine lv_lconst (v := (0 : Int64)) hx hb dX12_think_78 (by decide) ?_
        obtain ⟨hi3, hf⟩ := tc_in hf
        refine va_last hx hb hK hP hD hS 7 2 rfl rfl hi3 dX12_think_79 (fun H locs hP hD hS => ?_)
        have hP := tc_eP (aw12_0_7 ca q (si (si S 1 (0 : Int32)) 0 (0 : Int32)) ((9 : Int32) + (ia (si (si S 1 (0 : Int32)) 0 (0 : Int32)) 5 (1 : Int32))) (0 : Int64)) hP
        have hD := tc_eD (aw12_0_7 ca q (si (si S 1 (0 : Int32)) 0 (0 : Int32)) ((9 : Int32) + (ia (si (si S 1 (0 : Int32)) 0 (0 : Int32)) 5 (1 : Int32))) (0 : Int64)) hD
        refine lv_aload_n hx hb dX12_think_80 rfl (lv_at hl 1 rfl) ?_
        refine lv_iconst (v := (0 : Int32)) hx hb dX12_think_81 (by decide) ?_
        refine lv_iload_n hx hb dX12_think_82 rfl (lv_at hl 2 rfl) ?_
        refine lv_iload_n hx hb dX12_think_83 rfl (lv_at hl 3 rfl) ?_
        refine lv_iconst (v := (0 : Int32)) hx hb dX12_think_84 (by decide) ?_
        obtain ⟨z4, hg, hf⟩ := tc_bi hf
        refine tc_vVs (As := [.int ((0 : Int32)), .int (a1), .int (a2), .int ((0 : Int32))]) (rest := []) (b := q 0) X hP hD hS (mX12_thinks hg) okX12_thinks wl_X12_271 wi_X12_thinks ws_X12_X12_thinks_X12_thinks ⟨rfl, rfl, Nat.le_of_ble_eq_true rfl, Nat.le_of_ble_eq_true rfl⟩ 12 0 rfl rfl rfl hl.1 (Nat.le_of_ble_eq_true rfl) dX12_think_85 (fun H locs hP hD hS => ?_)
        refine lv_iload_n hx hb dX12_think_88 rfl (lv_at hl 0 rfl) ?_
        obtain rfl := Option.some.inj hf
        exact tc_ri X hP hD hS rfl dX12_think_89 rfl rfl
      · have hf := tc_pos hc hf
        refine lv_aload_n hx hb dX12_think_63 rfl (lv_at hl 1 rfl) ?_
        refine lv_bipush (v := (7 : Int32)) hx hb dX12_think_64 (by decide) ?_
        obtain ⟨z5, hg, hf⟩ := tc_bi hf
        refine tc_iVs (As := [.int ((7 : Int32))]) (rest := []) (b := q 0) X hP hD hS (mX12_refuse hg) okX12_refuse wl_X12_333 wi_X12_refuse ws_X12_X12_refuse_X12_refuse ⟨rfl, rfl, Nat.le_of_ble_eq_true rfl, Nat.le_of_ble_eq_true rfl⟩ 12 0 rfl rfl rfl hl.1 (Nat.le_of_ble_eq_true rfl) dX12_think_66 (fun H locs hP hD hS => ?_)
        obtain rfl := Option.some.inj hf
        exact tc_ri X hP hD hS rfl dX12_think_69 rfl rfl
    · have hf := tc_pos hc hf
      refine lv_aload_n hx hb dX12_think_44 rfl (lv_at hl 0 rfl) ?_
      refine lv_iconst (v := (5 : Int32)) hx hb dX12_think_45 (by decide) ?_
      obtain ⟨z6, hg, hf⟩ := tc_bi hf
      refine tc_iVs (As := [.int ((5 : Int32))]) (rest := []) (b := q 0) X hP hD hS (mX12_refuse hg) okX12_refuse wl_X12_333 wi_X12_refuse ws_X12_X12_refuse_X12_refuse ⟨rfl, rfl, Nat.le_of_ble_eq_true rfl, Nat.le_of_ble_eq_true rfl⟩ 12 0 rfl rfl rfl hl.1 (Nat.le_of_ble_eq_true rfl) dX12_think_46 (fun H locs hP hD hS => ?_)
      obtain rfl := Option.some.inj hf
      exact tc_ri X hP hD hS rfl dX12_think_49 rfl rfl
  · have hf := tc_pos hc hf
    refine lv_aload_n hx hb dX12_think_18 rfl (lv_at hl 0 rfl) ?_
    refine lv_iconst (v := (2 : Int32)) hx hb dX12_think_19 (by decide) ?_
    obtain ⟨z7, hg, hf⟩ := tc_bi hf
    refine tc_iVs (As := [.int ((2 : Int32))]) (rest := []) (b := q 0) X hP hD hS (mX12_refuse hg) okX12_refuse wl_X12_333 wi_X12_refuse ws_X12_X12_refuse_X12_refuse ⟨rfl, rfl, Nat.le_of_ble_eq_true rfl, Nat.le_of_ble_eq_true rfl⟩ 12 0 rfl rfl rfl hl.1 (Nat.le_of_ble_eq_true rfl) dX12_think_20 (fun H locs hP hD hS => ?_)
    obtain rfl := Option.some.inj hf
    exact tc_ri X hP hD hS rfl dX12_think_23 rfl rfl
def fX12_anger_26    (S : ms_T) : Option (Int32 × ms_T) :=
  (fX12_refuse S (2 : Int32)).bind fun z2 =>
  some (z2.1, z2.2)
def fX12_anger  (S : ms_T) (a1 : Int32) (a2 : Int32) : Option (Int32 × ms_T) :=
  (fX12_isTalkerAt (si (si S 1 (0 : Int32)) 0 (0 : Int32)) a1).bind fun z1 =>
  if z1 = 0 then
    fX12_anger_26 (si (si S 1 (0 : Int32)) 0 (0 : Int32))
  else
    (fX12_isTalkerAt (si (si S 1 (0 : Int32)) 0 (0 : Int32)) a2).bind fun z3 =>
    if z3 = 0 then
      fX12_anger_26 (si (si S 1 (0 : Int32)) 0 (0 : Int32))
    else
      if a1 = a2 then
        (fX12_refuse (si (si S 1 (0 : Int32)) 0 (0 : Int32)) (5 : Int32)).bind fun z8 =>
        some (z8.1, z8.2)
      else
        if (ia (si (si S 1 (0 : Int32)) 0 (0 : Int32)) 5 (3 : Int32)) = (10 : Int32) then
          (fX12_refuse (si (si S 1 (0 : Int32)) 0 (0 : Int32)) (7 : Int32)).bind fun z7 =>
          some (z7.1, z7.2)
        else
          (fX12_isFeudOf (si (si S 1 (0 : Int32)) 0 (0 : Int32)) (0 : Int32) a1 a2).bind fun z4 =>
          if z4 = 0 then
            (fX12_angers (si (si S 1 (0 : Int32)) 0 (0 : Int32)) (0 : Int32) a1 a2).bind fun z5 =>
            some ((ia z5 5 (3 : Int32)) - (1 : Int32), z5)
          else
            (fX12_refuse (si (si S 1 (0 : Int32)) 0 (0 : Int32)) (9 : Int32)).bind fun z6 =>
            some (z6.1, z6.2)
abbrev rmX12_anger : Room := { frames := 2, cells := 0, slots := 0, locals := 46 }
theorem okX12_anger : tc_ok yX12_anger cX12_anger 3 (some .int) 2 := ⟨wc_X12_anger, wn_X12, by decide, by decide, by decide +kernel⟩
set_option maxRecDepth 20000 in
theorem tX12_anger_26 {q : Nat → Nat}  (X : tc_X dC dI ca A RX12 cX12_anger 3 (some .int) p s m args meth c) (z : Int32 × ms_T)     : ∀ (S : ms_T), fX12_anger_26 S = some z → ∀ (H : Heap) (locs : List Loc) (ls : Array Slot), va_P (dC, dI) classes (w12 ca q S) H → va_D A (w12 ca q S) → va_S A s.heap H locs → lv_has ls 3 [(0, .ref (q 0))] → W p l e rmX12_anger s m args below meth c H locs 0 0 (MQ below (tc_QI dC dI ca A (w12 ca q z.2) (z.1)) args s 0 0 A) (F0 m 26 ls []) := by
  obtain ⟨hx, hb, hr, hml, hown, hts, hlk, hK, hA, hG⟩ := id X
  intro S hf H locs ls hP hD hS hl
  unfold fX12_anger_26 at hf
  refine lv_aload_n hx hb dX12_anger_26 rfl (lv_at hl 0 rfl) ?_
  refine lv_iconst (v := (2 : Int32)) hx hb dX12_anger_27 (by decide) ?_
  obtain ⟨z2, hg, hf⟩ := tc_bi hf
  refine tc_iVs (As := [.int ((2 : Int32))]) (rest := []) (b := q 0) X hP hD hS (mX12_refuse hg) okX12_refuse wl_X12_333 wi_X12_refuse ws_X12_X12_refuse_X12_refuse ⟨rfl, rfl, Nat.le_of_ble_eq_true rfl, Nat.le_of_ble_eq_true rfl⟩ 12 0 rfl rfl rfl hl.1 (Nat.le_of_ble_eq_true rfl) dX12_anger_28 (fun H locs hP hD hS => ?_)
  obtain rfl := Option.some.inj hf
  exact tc_ri X hP hD hS rfl dX12_anger_31 rfl rfl
set_option maxRecDepth 20000 in
theorem mX12_anger {q : Nat → Nat}  {S : ms_T} {a1 : Int32} {a2 : Int32} {z : Int32 × ms_T}  (hf : fX12_anger S a1 a2 = some z) : tc_MI l dC dI ca yX12_anger cX12_anger 3 (some .int) rmX12_anger [.ref (q 0), .int (a1), .int (a2)] (w12 ca q S) (w12 ca q z.2) (z.1) := by
  refine tc_metI (own := RX12) (by decide) rfl ?_ (Nat.le_of_ble_eq_true rfl)
  intro p e s m below meth c A X hP hD hS ls hl
  obtain ⟨hx, hb, hr, hml, hown, hts, hlk, hK, hA, hG⟩ := id X
  unfold fX12_anger at hf
  have hl : lv_has ls 3 [(0, .ref (q 0)), (1, .int (a1)), (2, .int (a2))] := hl
  refine lv_aload_n hx hb dX12_anger_0 rfl (lv_at hl 0 rfl) ?_
  refine lv_iconst (v := (0 : Int32)) hx hb dX12_anger_1 (by decide) ?_
  refine va_put (D := (dC, dI)) (ci := 12) (v := .int ((0 : Int32))) (ty := .int) (C := RX12) (T := TX12) (N := 49) hx hb hts i_X12 tyX12 tyX12_ok nmX12 hown hK hP hD hS 0 rfl rfl 1 (by decide) (hts _ wf_X12_63) (fun _ h9 => h9) rfl (tyX12_ok 1 (by decide)) rfl rfl (Nat.le_of_ble_eq_true rfl) dX12_anger_2 (fun H locs hP hD hS => ?_)
  have hP := tc_eP (pw12_0_1 ca q S (0 : Int32)) hP
  have hD := tc_eD (pw12_0_1 ca q S (0 : Int32)) hD
  refine lv_aload_n hx hb dX12_anger_5 rfl (lv_at hl 0 rfl) ?_
  refine lv_iconst (v := (0 : Int32)) hx hb dX12_anger_6 (by decide) ?_
  refine va_put (D := (dC, dI)) (ci := 12) (v := .int ((0 : Int32))) (ty := .int) (C := RX12) (T := TX12) (N := 49) hx hb hts i_X12 tyX12 tyX12_ok nmX12 hown hK hP hD hS 0 rfl rfl 0 (by decide) (hts _ wf_X12_66) (fun _ h9 => h9) rfl (tyX12_ok 0 (by decide)) rfl rfl (Nat.le_of_ble_eq_true rfl) dX12_anger_7 (fun H locs hP hD hS => ?_)
  have hP := tc_eP (pw12_0_0 ca q (si S 1 (0 : Int32)) (0 : Int32)) hP
  have hD := tc_eD (pw12_0_0 ca q (si S 1 (0 : Int32)) (0 : Int32)) hD
  refine lv_aload_n hx hb dX12_anger_10 rfl (lv_at hl 0 rfl) ?_
  refine lv_iload_n hx hb dX12_anger_11 rfl (lv_at hl 1 rfl) ?_
  obtain ⟨z1, hg, hf⟩ := tc_bi hf
  refine tc_iVs (As := [.int (a1)]) (rest := []) (b := q 0) X hP hD hS (mX12_isTalkerAt hg) okX12_isTalkerAt wl_X12_362 wi_X12_isTalkerAt ws_X12_X12_isTalkerAt_X12_isTalkerAt ⟨rfl, rfl, Nat.le_of_ble_eq_true rfl, Nat.le_of_ble_eq_true rfl⟩ 12 0 rfl rfl rfl hl.1 (Nat.le_of_ble_eq_true rfl) dX12_anger_12 (fun H locs hP hD hS => ?_)
  refine lv_if_eq (tgt := 26) hx hb dX12_anger_15 (by decide) (fun hc => ?_) (fun hc => ?_)
  · have hf := tc_pos hc hf
    exact tX12_anger_26 X z (si (si S 1 (0 : Int32)) 0 (0 : Int32)) hf _ _ _ hP hD hS (lv_sub hl [0] rfl)
  · have hf := tc_neg hc hf
    refine lv_aload_n hx hb dX12_anger_18 rfl (lv_at hl 0 rfl) ?_
    refine lv_iload_n hx hb dX12_anger_19 rfl (lv_at hl 2 rfl) ?_
    obtain ⟨z3, hg, hf⟩ := tc_bi hf
    refine tc_iVs (As := [.int (a2)]) (rest := []) (b := q 0) X hP hD hS (mX12_isTalkerAt hg) okX12_isTalkerAt wl_X12_362 wi_X12_isTalkerAt ws_X12_X12_isTalkerAt_X12_isTalkerAt ⟨rfl, rfl, Nat.le_of_ble_eq_true rfl, Nat.le_of_ble_eq_true rfl⟩ 12 0 rfl rfl rfl hl.1 (Nat.le_of_ble_eq_true rfl) dX12_anger_20 (fun H locs hP hD hS => ?_)
    refine lv_if_ne (tgt := 32) hx hb dX12_anger_23 (by decide) (fun hc => ?_) (fun hc => ?_)
    · have hf := tc_neg hc hf
      refine lv_iload_n hx hb dX12_anger_32 rfl (lv_at hl 1 rfl) ?_
      refine lv_iload_n hx hb dX12_anger_33 rfl (lv_at hl 2 rfl) ?_
      refine lv_icmp_ne (tgt := 43) hx hb dX12_anger_34 (by decide) (fun hc => ?_) (fun hc => ?_)
      · have hf := tc_neg hc hf
        refine lv_aload_n hx hb dX12_anger_43 rfl (lv_at hl 0 rfl) ?_
        refine va_get (D := (dC, dI)) (ci := 12) (v := .ref (q 5)) (C := RX12) (T := TX12) (N := 49) hx hb hts i_X12 hown hK hP 0 rfl rfl 20 (by decide) (hts _ wf_X12_35) (fun _ h9 => h9) rfl dX12_anger_44 ?_
        refine lv_iconst (v := (3 : Int32)) hx hb dX12_anger_47 (by decide) ?_
        refine va_iald hx hb hK hP 5 1 rfl rfl (inb_vp (by decide)) dX12_anger_48 ?_
        refine lv_bipush (v := (10 : Int32)) hx hb dX12_anger_49 (by decide) ?_
        refine lv_icmp_ne (tgt := 61) hx hb dX12_anger_51 (by decide) (fun hc => ?_) (fun hc => ?_)
        · have hf := tc_neg hc hf
          refine lv_aload_n hx hb dX12_anger_61 rfl (lv_at hl 0 rfl) ?_
          refine lv_iconst (v := (0 : Int32)) hx hb dX12_anger_62 (by decide) ?_
          refine lv_iload_n hx hb dX12_anger_63 rfl (lv_at hl 1 rfl) ?_
          refine lv_iload_n hx hb dX12_anger_64 rfl (lv_at hl 2 rfl) ?_
          obtain ⟨z4, hg, hf⟩ := tc_bi hf
          refine tc_iVs (As := [.int ((0 : Int32)), .int (a1), .int (a2)]) (rest := []) (b := q 0) X hP hD hS (mX12_isFeudOf hg) okX12_isFeudOf wl_X12_278 wi_X12_isFeudOf ws_X12_X12_isFeudOf_X12_isFeudOf ⟨rfl, rfl, Nat.le_of_ble_eq_true rfl, Nat.le_of_ble_eq_true rfl⟩ 12 0 rfl rfl rfl hl.1 (Nat.le_of_ble_eq_true rfl) dX12_anger_65 (fun H locs hP hD hS => ?_)
          refine lv_if_eq (tgt := 78) hx hb dX12_anger_68 (by decide) (fun hc => ?_) (fun hc => ?_)
          · have hf := tc_pos hc hf
            refine lv_aload_n hx hb dX12_anger_78 rfl (lv_at hl 0 rfl) ?_
            refine lv_iconst (v := (0 : Int32)) hx hb dX12_anger_79 (by decide) ?_
            refine lv_iload_n hx hb dX12_anger_80 rfl (lv_at hl 1 rfl) ?_
            refine lv_iload_n hx hb dX12_anger_81 rfl (lv_at hl 2 rfl) ?_
            obtain ⟨z5, hg, hf⟩ := tc_bi hf
            refine tc_vVs (As := [.int ((0 : Int32)), .int (a1), .int (a2)]) (rest := []) (b := q 0) X hP hD hS (mX12_angers hg) okX12_angers wl_X12_282 wi_X12_angers ws_X12_X12_angers_X12_angers ⟨rfl, rfl, Nat.le_of_ble_eq_true rfl, Nat.le_of_ble_eq_true rfl⟩ 12 0 rfl rfl rfl hl.1 (Nat.le_of_ble_eq_true rfl) dX12_anger_82 (fun H locs hP hD hS => ?_)
            refine lv_aload_n hx hb dX12_anger_85 rfl (lv_at hl 0 rfl) ?_
            refine va_get (D := (dC, dI)) (ci := 12) (v := .ref (q 5)) (C := RX12) (T := TX12) (N := 49) hx hb hts i_X12 hown hK hP 0 rfl rfl 20 (by decide) (hts _ wf_X12_35) (fun _ h9 => h9) rfl dX12_anger_86 ?_
            refine lv_iconst (v := (3 : Int32)) hx hb dX12_anger_89 (by decide) ?_
            refine va_iald hx hb hK hP 5 1 rfl rfl (inb_vp (by decide)) dX12_anger_90 ?_
            refine lv_iconst (v := (1 : Int32)) hx hb dX12_anger_91 (by decide) ?_
            refine lv_isub hx hb dX12_anger_92 ?_
            obtain rfl := Option.some.inj hf
            exact tc_ri X hP hD hS rfl dX12_anger_93 rfl rfl
          · have hf := tc_neg hc hf
            refine lv_aload_n hx hb dX12_anger_71 rfl (lv_at hl 0 rfl) ?_
            refine lv_bipush (v := (9 : Int32)) hx hb dX12_anger_72 (by decide) ?_
            obtain ⟨z6, hg, hf⟩ := tc_bi hf
            refine tc_iVs (As := [.int ((9 : Int32))]) (rest := []) (b := q 0) X hP hD hS (mX12_refuse hg) okX12_refuse wl_X12_333 wi_X12_refuse ws_X12_X12_refuse_X12_refuse ⟨rfl, rfl, Nat.le_of_ble_eq_true rfl, Nat.le_of_ble_eq_true rfl⟩ 12 0 rfl rfl rfl hl.1 (Nat.le_of_ble_eq_true rfl) dX12_anger_74 (fun H locs hP hD hS => ?_)
            obtain rfl := Option.some.inj hf
            exact tc_ri X hP hD hS rfl dX12_anger_77 rfl rfl
        · have hf := tc_pos hc hf
          refine lv_aload_n hx hb dX12_anger_54 rfl (lv_at hl 0 rfl) ?_
          refine lv_bipush (v := (7 : Int32)) hx hb dX12_anger_55 (by decide) ?_
          obtain ⟨z7, hg, hf⟩ := tc_bi hf
          refine tc_iVs (As := [.int ((7 : Int32))]) (rest := []) (b := q 0) X hP hD hS (mX12_refuse hg) okX12_refuse wl_X12_333 wi_X12_refuse ws_X12_X12_refuse_X12_refuse ⟨rfl, rfl, Nat.le_of_ble_eq_true rfl, Nat.le_of_ble_eq_true rfl⟩ 12 0 rfl rfl rfl hl.1 (Nat.le_of_ble_eq_true rfl) dX12_anger_57 (fun H locs hP hD hS => ?_)
          obtain rfl := Option.some.inj hf
          exact tc_ri X hP hD hS rfl dX12_anger_60 rfl rfl
      · have hf := tc_pos hc hf
        refine lv_aload_n hx hb dX12_anger_37 rfl (lv_at hl 0 rfl) ?_
        refine lv_iconst (v := (5 : Int32)) hx hb dX12_anger_38 (by decide) ?_
        obtain ⟨z8, hg, hf⟩ := tc_bi hf
        refine tc_iVs (As := [.int ((5 : Int32))]) (rest := []) (b := q 0) X hP hD hS (mX12_refuse hg) okX12_refuse wl_X12_333 wi_X12_refuse ws_X12_X12_refuse_X12_refuse ⟨rfl, rfl, Nat.le_of_ble_eq_true rfl, Nat.le_of_ble_eq_true rfl⟩ 12 0 rfl rfl rfl hl.1 (Nat.le_of_ble_eq_true rfl) dX12_anger_39 (fun H locs hP hD hS => ?_)
        obtain rfl := Option.some.inj hf
        exact tc_ri X hP hD hS rfl dX12_anger_42 rfl rfl
    · have hf := tc_pos hc hf
      exact tX12_anger_26 X z (si (si S 1 (0 : Int32)) 0 (0 : Int32)) hf _ _ _ hP hD hS (lv_sub hl [0] rfl)
def fX12_rule  (S : ms_T) (a1 : Int32) : Option (Int32 × ms_T) :=
  (fX12_isIn a1.toInt64 (0 : Int64) (16 : Int64)).bind fun z1 =>
  if z1 = 0 then
    (fX12_no (si (si S 1 (0 : Int32)) 0 (0 : Int32)) (5 : Int32)).bind fun z2 =>
    if z2.1 &&& 1 = z2.1 then
      some (z2.1, z2.2)
    else none
  else
    some ((1 : Int32), sa (si (si S 1 (0 : Int32)) 0 (0 : Int32)) 5 (4 : Int32) a1)
abbrev rmX12_rule : Room := { frames := 1, cells := 0, slots := 0, locals := 25 }
theorem okX12_rule : tc_ok yX12_rule cX12_rule 2 (some .boolean) 1 := ⟨wc_X12_rule, wn_X12, by decide, by decide, by decide +kernel⟩
set_option maxRecDepth 20000 in
theorem mX12_rule {q : Nat → Nat}  {S : ms_T} {a1 : Int32} {z : Int32 × ms_T}  (hf : fX12_rule S a1 = some z) : tc_MI l dC dI ca yX12_rule cX12_rule 2 (some .boolean) rmX12_rule [.ref (q 0), .int (a1)] (w12 ca q S) (w12 ca q z.2) (z.1) := by
  refine tc_metI (own := RX12) (by decide) rfl ?_ (Nat.le_of_ble_eq_true rfl)
  intro p e s m below meth c A X hP hD hS ls hl
  obtain ⟨hx, hb, hr, hml, hown, hts, hlk, hK, hA, hG⟩ := id X
  unfold fX12_rule at hf
  have hl : lv_has ls 2 [(0, .ref (q 0)), (1, .int (a1))] := hl
  refine lv_aload_n hx hb dX12_rule_0 rfl (lv_at hl 0 rfl) ?_
  refine lv_iconst (v := (0 : Int32)) hx hb dX12_rule_1 (by decide) ?_
  refine va_put (D := (dC, dI)) (ci := 12) (v := .int ((0 : Int32))) (ty := .int) (C := RX12) (T := TX12) (N := 49) hx hb hts i_X12 tyX12 tyX12_ok nmX12 hown hK hP hD hS 0 rfl rfl 1 (by decide) (hts _ wf_X12_63) (fun _ h9 => h9) rfl (tyX12_ok 1 (by decide)) rfl rfl (Nat.le_of_ble_eq_true rfl) dX12_rule_2 (fun H locs hP hD hS => ?_)
  have hP := tc_eP (pw12_0_1 ca q S (0 : Int32)) hP
  have hD := tc_eD (pw12_0_1 ca q S (0 : Int32)) hD
  refine lv_aload_n hx hb dX12_rule_5 rfl (lv_at hl 0 rfl) ?_
  refine lv_iconst (v := (0 : Int32)) hx hb dX12_rule_6 (by decide) ?_
  refine va_put (D := (dC, dI)) (ci := 12) (v := .int ((0 : Int32))) (ty := .int) (C := RX12) (T := TX12) (N := 49) hx hb hts i_X12 tyX12 tyX12_ok nmX12 hown hK hP hD hS 0 rfl rfl 0 (by decide) (hts _ wf_X12_66) (fun _ h9 => h9) rfl (tyX12_ok 0 (by decide)) rfl rfl (Nat.le_of_ble_eq_true rfl) dX12_rule_7 (fun H locs hP hD hS => ?_)
  have hP := tc_eP (pw12_0_0 ca q (si S 1 (0 : Int32)) (0 : Int32)) hP
  have hD := tc_eD (pw12_0_0 ca q (si S 1 (0 : Int32)) (0 : Int32)) hD
  refine lv_iload_n hx hb dX12_rule_10 rfl (lv_at hl 1 rfl) ?_
  refine lv_i2l (v := a1.toInt64) hx hb dX12_rule_11 rfl ?_
  refine lv_lconst (v := (0 : Int64)) hx hb dX12_rule_12 (by decide) ?_
  refine lv_ldc2 (v := (16 : Int64)) hx hb hown (hts _ wk_X12_404) dX12_rule_13 ?_
  obtain ⟨z1, hg, hf⟩ := tc_bi hf
  refine tc_iS0 (As := [.long (a1.toInt64), .long ((0 : Int64)), .long ((16 : Int64))]) (rest := []) X hP hD hS (mX12_isIn hg) okX12_isIn wl_X12_98 wt_X12_isIn ⟨rfl, rfl, Nat.le_of_ble_eq_true rfl, Nat.le_of_ble_eq_true rfl⟩ rfl hl.1 (Nat.le_of_ble_eq_true rfl) dX12_rule_16 (fun H locs hP hD hS => ?_)
  refine lv_if_ne (tgt := 28) hx hb dX12_rule_19 (by decide) (fun hc => ?_) (fun hc => ?_)
  · have hf := tc_neg hc hf
    refine lv_aload_n hx hb dX12_rule_28 rfl (lv_at hl 0 rfl) ?_
    refine va_get (D := (dC, dI)) (ci := 12) (v := .ref (q 5)) (C := RX12) (T := TX12) (N := 49) hx hb hts i_X12 hown hK hP 0 rfl rfl 20 (by decide) (hts _ wf_X12_35) (fun _ h9 => h9) rfl dX12_rule_29 ?_
    refine lv_iconst (v := (4 : Int32)) hx hb dX12_rule_32 (by decide) ?_
    refine lv_iload_n hx hb dX12_rule_33 rfl (lv_at hl 1 rfl) ?_
    refine va_iast hx hb hK hP hD hS 5 1 rfl rfl (inb_vp (by decide)) dX12_rule_34 (fun H locs hP hD hS => ?_)
    have hP := tc_eP (aw12_0_5 ca q (si (si S 1 (0 : Int32)) 0 (0 : Int32)) (4 : Int32) a1) hP
    have hD := tc_eD (aw12_0_5 ca q (si (si S 1 (0 : Int32)) 0 (0 : Int32)) (4 : Int32) a1) hD
    refine lv_iconst (v := (1 : Int32)) hx hb dX12_rule_35 (by decide) ?_
    obtain rfl := Option.some.inj hf
    exact tc_rz X hP hD hS rfl dX12_rule_36 (by decide) rfl rfl
  · have hf := tc_pos hc hf
    refine lv_aload_n hx hb dX12_rule_22 rfl (lv_at hl 0 rfl) ?_
    refine lv_iconst (v := (5 : Int32)) hx hb dX12_rule_23 (by decide) ?_
    obtain ⟨z2, hg, hf⟩ := tc_bi hf
    refine tc_iVs (As := [.int ((5 : Int32))]) (rest := []) (b := q 0) X hP hD hS (mX12_no hg) okX12_no wl_X12_78 wi_X12_no ws_X12_X12_no_X12_no ⟨rfl, rfl, Nat.le_of_ble_eq_true rfl, Nat.le_of_ble_eq_true rfl⟩ 12 0 rfl rfl rfl hl.1 (Nat.le_of_ble_eq_true rfl) dX12_rule_24 (fun H locs hP hD hS => ?_)
    obtain ⟨hz1, hf⟩ := tc_ck hf
    obtain rfl := Option.some.inj hf
    exact tc_rz X hP hD hS rfl dX12_rule_27 hz1 rfl rfl
def fX12_props_31  (S : ms_T) (k4 : Int32 → Int32 → Int32 → Option (Int32)) (v1 : Int32) (v2 : Int32) (v3 : Int32) : Option (Int32) :=
  (fX12_standing S v3 (0 : Int32)).bind fun z1 =>
  (fX12_has z1 v1).bind fun z2 =>
  if z2 = 0 then
    k4 v1 v2 (v3 + (1 : Int32))
  else
    k4 v1 v3 (v3 + (1 : Int32))
def fX12_props_4  (S : ms_T)  : Nat → Int32 → Int32 → Int32 → Option (Int32)
  | 0, _, _, _ => none
  | n + 1, v1, v2, v3 =>
    if ((1 : Int32) <<< ((ia S 5 (1 : Int32)) &&& 31)) ≤ v3 then
      some (v2)
    else
      if v2 < 0 then
        fX12_props_31 S (fX12_props_4 S n) v1 v2 v3
      else
        (fX12_sizeOf v3).bind fun z3 =>
        (fX12_sizeOf v2).bind fun z4 =>
        if z4 ≤ z3 then
          fX12_props_4 S n v1 v2 (v3 + (1 : Int32))
        else
          fX12_props_31 S (fX12_props_4 S n) v1 v2 v3
def fX12_props  (S : ms_T) (a1 : Int32) : Option (Int32) :=
  fX12_props_4 S FU a1 (-1 : Int32) (0 : Int32)
abbrev rmX12_props : Room := { frames := 2, cells := 0, slots := 0, locals := 47 }
theorem okX12_props : tc_ok yX12_props cX12_props 4 (some .int) 1 := ⟨wc_X12_props, wn_X12, by decide, by decide, by decide +kernel⟩
set_option maxRecDepth 20000 in
theorem tX12_props_31 {q : Nat → Nat}  (X : tc_X dC dI ca A RX12 cX12_props 4 (some .int) p s m args meth c) (z : Int32)  (S : ms_T) (k4 : Int32 → Int32 → Int32 → Option (Int32)) (hk4 : ∀ (v1 : Int32) (v2 : Int32) (v3 : Int32), k4 v1 v2 v3 = some z → ∀ (H : Heap) (locs : List Loc) (ls : Array Slot), va_P (dC, dI) classes (w12 ca q S) H → va_D A (w12 ca q S) → va_S A s.heap H locs → lv_has ls 4 [(0, .ref (q 0)), (1, .int (v1)), (2, .int (v2)), (3, .int (v3))] → W p l e rmX12_props s m args below meth c H locs 0 0 (MQ below (tc_QI dC dI ca A (w12 ca q S) (z)) args s 0 0 A) (F0 m 4 ls [])) : ∀ (v1 : Int32) (v2 : Int32) (v3 : Int32), fX12_props_31 S k4 v1 v2 v3 = some z → ∀ (H : Heap) (locs : List Loc) (ls : Array Slot), va_P (dC, dI) classes (w12 ca q S) H → va_D A (w12 ca q S) → va_S A s.heap H locs → lv_has ls 4 [(0, .ref (q 0)), (1, .int (v1)), (2, .int (v2)), (3, .int (v3))] → W p l e rmX12_props s m args below meth c H locs 0 0 (MQ below (tc_QI dC dI ca A (w12 ca q S) (z)) args s 0 0 A) (F0 m 31 ls []) := by
  obtain ⟨hx, hb, hr, hml, hown, hts, hlk, hK, hA, hG⟩ := id X
  intro v1 v2 v3 hf H locs ls hP hD hS hl
  unfold fX12_props_31 at hf
  refine lv_aload_n hx hb dX12_props_31 rfl (lv_at hl 0 rfl) ?_
  refine lv_iload_n hx hb dX12_props_32 rfl (lv_at hl 3 rfl) ?_
  refine lv_iconst (v := (0 : Int32)) hx hb dX12_props_33 (by decide) ?_
  obtain ⟨z1, hg, hf⟩ := tc_bi hf
  refine tc_iVs (As := [.int (v3), .int ((0 : Int32))]) (rest := []) (b := q 0) X hP hD hS (mX12_standing hg) okX12_standing wl_X12_328 wi_X12_standing ws_X12_X12_standing_X12_standing ⟨rfl, rfl, Nat.le_of_ble_eq_true rfl, Nat.le_of_ble_eq_true rfl⟩ 12 0 rfl rfl rfl hl.1 (Nat.le_of_ble_eq_true rfl) dX12_props_34 (fun H locs hP hD hS => ?_)
  refine lv_iload_n hx hb dX12_props_37 rfl (lv_at hl 1 rfl) ?_
  obtain ⟨z2, hg, hf⟩ := tc_bi hf
  refine tc_iS0 (As := [.int (z1), .int (v1)]) (rest := []) X hP hD hS (mX12_has hg) okX12_has wl_X12_102 wt_X12_has ⟨rfl, rfl, Nat.le_of_ble_eq_true rfl, Nat.le_of_ble_eq_true rfl⟩ rfl hl.1 (Nat.le_of_ble_eq_true rfl) dX12_props_38 (fun H locs hP hD hS => ?_)
  refine lv_if_eq (tgt := 46) hx hb dX12_props_41 (by decide) (fun hc => ?_) (fun hc => ?_)
  · have hf := tc_pos hc hf
    refine lv_iinc (v := v3 + (1 : Int32)) (lv' := [(3, .int (v3 + (1 : Int32))), (0, .ref (q 0)), (1, .int (v1)), (2, .int (v2))]) hx hb dX12_props_46 hl (k := 3) rfl rfl (by decide) rfl (fun ls hl => ?_)
    refine lv_goto (tgt := 4) hx hb dX12_props_49 (by decide) ?_
    exact hk4 v1 v2 (v3 + (1 : Int32)) hf _ _ _ hP hD hS (lv_sub hl [1, 2, 3, 0] rfl)
  · have hf := tc_neg hc hf
    refine lv_iload_n hx hb dX12_props_44 rfl (lv_at hl 3 rfl) ?_
    refine lv_istore_n (lv' := [(2, .int (v3)), (0, .ref (q 0)), (1, .int (v1)), (3, .int (v3))]) hx hb dX12_props_45 rfl hl (by decide) rfl (fun ls hl => ?_)
    refine lv_iinc (v := v3 + (1 : Int32)) (lv' := [(3, .int (v3 + (1 : Int32))), (2, .int (v3)), (0, .ref (q 0)), (1, .int (v1))]) hx hb dX12_props_46 hl (k := 3) rfl rfl (by decide) rfl (fun ls hl => ?_)
    refine lv_goto (tgt := 4) hx hb dX12_props_49 (by decide) ?_
    exact hk4 v1 v3 (v3 + (1 : Int32)) hf _ _ _ hP hD hS (lv_sub hl [2, 3, 1, 0] rfl)
set_option maxRecDepth 20000 in
theorem tX12_props_4 {q : Nat → Nat}  (X : tc_X dC dI ca A RX12 cX12_props 4 (some .int) p s m args meth c) (z : Int32)  (S : ms_T)   : ∀ n : Nat, ∀ (v1 : Int32) (v2 : Int32) (v3 : Int32), fX12_props_4 S n v1 v2 v3 = some z → ∀ (H : Heap) (locs : List Loc) (ls : Array Slot), va_P (dC, dI) classes (w12 ca q S) H → va_D A (w12 ca q S) → va_S A s.heap H locs → lv_has ls 4 [(0, .ref (q 0)), (1, .int (v1)), (2, .int (v2)), (3, .int (v3))] → W p l e rmX12_props s m args below meth c H locs 0 0 (MQ below (tc_QI dC dI ca A (w12 ca q S) (z)) args s 0 0 A) (F0 m 4 ls []) := by
  obtain ⟨hx, hb, hr, hml, hown, hts, hlk, hK, hA, hG⟩ := id X
  intro n
  induction n with
  | zero => intro v1 v2 v3 hf; exact absurd (show none = some z from hf) (fun h => by cases h)
  | succ n ih =>
    intro v1 v2 v3 hf H locs ls hP hD hS hl
    rw [fX12_props_4] at hf
    refine lv_iload_n hx hb dX12_props_4 rfl (lv_at hl 3 rfl) ?_
    refine lv_iconst (v := (1 : Int32)) hx hb dX12_props_5 (by decide) ?_
    refine lv_aload_n hx hb dX12_props_6 rfl (lv_at hl 0 rfl) ?_
    refine va_get (D := (dC, dI)) (ci := 12) (v := .ref (q 5)) (C := RX12) (T := TX12) (N := 49) hx hb hts i_X12 hown hK hP 0 rfl rfl 20 (by decide) (hts _ wf_X12_35) (fun _ h9 => h9) rfl dX12_props_7 ?_
    refine lv_iconst (v := (1 : Int32)) hx hb dX12_props_10 (by decide) ?_
    refine va_iald hx hb hK hP 5 1 rfl rfl (inb_vp (by decide)) dX12_props_11 ?_
    refine lv_ishl hx hb dX12_props_12 ?_
    refine lv_icmp_ge (tgt := 52) hx hb dX12_props_13 (by decide) (fun hc => ?_) (fun hc => ?_)
    · have hf := tc_pos hc hf
      refine lv_iload_n hx hb dX12_props_52 rfl (lv_at hl 2 rfl) ?_
      obtain rfl := Option.some.inj hf
      exact tc_ri X hP hD hS rfl dX12_props_53 rfl rfl
    · have hf := tc_neg hc hf
      refine lv_iload_n hx hb dX12_props_16 rfl (lv_at hl 2 rfl) ?_
      refine lv_if_lt (tgt := 31) hx hb dX12_props_17 (by decide) (fun hc => ?_) (fun hc => ?_)
      · have hf := tc_pos hc hf
        exact tX12_props_31 X z S (fX12_props_4 S n) ih v1 v2 v3 hf _ _ _ hP hD hS (lv_sub hl [0, 1, 2, 3] rfl)
      · have hf := tc_neg hc hf
        refine lv_iload_n hx hb dX12_props_20 rfl (lv_at hl 3 rfl) ?_
        obtain ⟨z3, hg, hf⟩ := tc_bi hf
        refine tc_iS0 (As := [.int (v3)]) (rest := []) X hP hD hS (mX12_sizeOf hg) okX12_sizeOf wl_X12_396 wt_X12_sizeOf ⟨rfl, rfl, Nat.le_of_ble_eq_true rfl, Nat.le_of_ble_eq_true rfl⟩ rfl hl.1 (Nat.le_of_ble_eq_true rfl) dX12_props_21 (fun H locs hP hD hS => ?_)
        refine lv_iload_n hx hb dX12_props_24 rfl (lv_at hl 2 rfl) ?_
        obtain ⟨z4, hg, hf⟩ := tc_bi hf
        refine tc_iS0 (As := [.int (v2)]) (rest := [.int (z3)]) X hP hD hS (mX12_sizeOf hg) okX12_sizeOf wl_X12_396 wt_X12_sizeOf ⟨rfl, rfl, Nat.le_of_ble_eq_true rfl, Nat.le_of_ble_eq_true rfl⟩ rfl hl.1 (Nat.le_of_ble_eq_true rfl) dX12_props_25 (fun H locs hP hD hS => ?_)
        refine lv_icmp_ge (tgt := 46) hx hb dX12_props_28 (by decide) (fun hc => ?_) (fun hc => ?_)
        · have hf := tc_pos hc hf
          refine lv_iinc (v := v3 + (1 : Int32)) (lv' := [(3, .int (v3 + (1 : Int32))), (0, .ref (q 0)), (1, .int (v1)), (2, .int (v2))]) hx hb dX12_props_46 hl (k := 3) rfl rfl (by decide) rfl (fun ls hl => ?_)
          refine lv_goto (tgt := 4) hx hb dX12_props_49 (by decide) ?_
          exact ih v1 v2 (v3 + (1 : Int32)) hf _ _ _ hP hD hS (lv_sub hl [1, 2, 3, 0] rfl)
        · have hf := tc_neg hc hf
          exact tX12_props_31 X z S (fX12_props_4 S n) ih v1 v2 v3 hf _ _ _ hP hD hS (lv_sub hl [0, 1, 2, 3] rfl)
set_option maxRecDepth 20000 in
theorem mX12_props {q : Nat → Nat}  {S : ms_T} {a1 : Int32} {z : Int32}  (hf : fX12_props S a1 = some z) : tc_MI l dC dI ca yX12_props cX12_props 4 (some .int) rmX12_props [.ref (q 0), .int (a1)] (w12 ca q S) (w12 ca q S) (z) := by
  refine tc_metI (own := RX12) (by decide) rfl ?_ (Nat.le_of_ble_eq_true rfl)
  intro p e s m below meth c A X hP hD hS ls hl
  obtain ⟨hx, hb, hr, hml, hown, hts, hlk, hK, hA, hG⟩ := id X
  unfold fX12_props at hf
  have hl : lv_has ls 4 [(0, .ref (q 0)), (1, .int (a1))] := hl
  refine lv_iconst (v := (-1 : Int32)) hx hb dX12_props_0 (by decide) ?_
  refine lv_istore_n (lv' := [(2, .int ((-1 : Int32))), (0, .ref (q 0)), (1, .int (a1))]) hx hb dX12_props_1 rfl hl (by decide) rfl (fun ls hl => ?_)
  refine lv_iconst (v := (0 : Int32)) hx hb dX12_props_2 (by decide) ?_
  refine lv_istore_n (lv' := [(3, .int ((0 : Int32))), (2, .int ((-1 : Int32))), (0, .ref (q 0)), (1, .int (a1))]) hx hb dX12_props_3 rfl hl (by decide) rfl (fun ls hl => ?_)
  exact tX12_props_4 X z S FU a1 (-1 : Int32) (0 : Int32) hf _ _ _ hP hD hS (lv_sub hl [2, 3, 1, 0] rfl)
def fX12_holdsUp  (S : ms_T) (a1 : Int32) : Option (Int32 × ms_T) :=
  (fX12_isClaimAt (si (si S 1 (0 : Int32)) 0 (0 : Int32)) a1).bind fun z1 =>
  if z1 = 0 then
    (fX12_refuse (si (si S 1 (0 : Int32)) 0 (0 : Int32)) (2 : Int32)).bind fun z2 =>
    some (z2.1, z2.2)
  else
    (fX12_props (si (si S 1 (0 : Int32)) 0 (0 : Int32)) a1).bind fun z3 =>
    (fX12_sizeOf z3).bind fun z4 =>
    some (z4, si (si S 1 (0 : Int32)) 0 (0 : Int32))
abbrev rmX12_holdsUp : Room := { frames := 3, cells := 0, slots := 0, locals := 70 }
theorem okX12_holdsUp : tc_ok yX12_holdsUp cX12_holdsUp 2 (some .int) 1 := ⟨wc_X12_holdsUp, wn_X12, by decide, by decide, by decide +kernel⟩
set_option maxRecDepth 20000 in
theorem mX12_holdsUp {q : Nat → Nat}  {S : ms_T} {a1 : Int32} {z : Int32 × ms_T}  (hf : fX12_holdsUp S a1 = some z) : tc_MI l dC dI ca yX12_holdsUp cX12_holdsUp 2 (some .int) rmX12_holdsUp [.ref (q 0), .int (a1)] (w12 ca q S) (w12 ca q z.2) (z.1) := by
  refine tc_metI (own := RX12) (by decide) rfl ?_ (Nat.le_of_ble_eq_true rfl)
  intro p e s m below meth c A X hP hD hS ls hl
  obtain ⟨hx, hb, hr, hml, hown, hts, hlk, hK, hA, hG⟩ := id X
  unfold fX12_holdsUp at hf
  have hl : lv_has ls 2 [(0, .ref (q 0)), (1, .int (a1))] := hl
  refine lv_aload_n hx hb dX12_holdsUp_0 rfl (lv_at hl 0 rfl) ?_
  refine lv_iconst (v := (0 : Int32)) hx hb dX12_holdsUp_1 (by decide) ?_
  refine va_put (D := (dC, dI)) (ci := 12) (v := .int ((0 : Int32))) (ty := .int) (C := RX12) (T := TX12) (N := 49) hx hb hts i_X12 tyX12 tyX12_ok nmX12 hown hK hP hD hS 0 rfl rfl 1 (by decide) (hts _ wf_X12_63) (fun _ h9 => h9) rfl (tyX12_ok 1 (by decide)) rfl rfl (Nat.le_of_ble_eq_true rfl) dX12_holdsUp_2 (fun H locs hP hD hS => ?_)
  have hP := tc_eP (pw12_0_1 ca q S (0 : Int32)) hP
  have hD := tc_eD (pw12_0_1 ca q S (0 : Int32)) hD
  refine lv_aload_n hx hb dX12_holdsUp_5 rfl (lv_at hl 0 rfl) ?_
  refine lv_iconst (v := (0 : Int32)) hx hb dX12_holdsUp_6 (by decide) ?_
  refine va_put (D := (dC, dI)) (ci := 12) (v := .int ((0 : Int32))) (ty := .int) (C := RX12) (T := TX12) (N := 49) hx hb hts i_X12 tyX12 tyX12_ok nmX12 hown hK hP hD hS 0 rfl rfl 0 (by decide) (hts _ wf_X12_66) (fun _ h9 => h9) rfl (tyX12_ok 0 (by decide)) rfl rfl (Nat.le_of_ble_eq_true rfl) dX12_holdsUp_7 (fun H locs hP hD hS => ?_)
  have hP := tc_eP (pw12_0_0 ca q (si S 1 (0 : Int32)) (0 : Int32)) hP
  have hD := tc_eD (pw12_0_0 ca q (si S 1 (0 : Int32)) (0 : Int32)) hD
  refine lv_aload_n hx hb dX12_holdsUp_10 rfl (lv_at hl 0 rfl) ?_
  refine lv_iload_n hx hb dX12_holdsUp_11 rfl (lv_at hl 1 rfl) ?_
  obtain ⟨z1, hg, hf⟩ := tc_bi hf
  refine tc_iVs (As := [.int (a1)]) (rest := []) (b := q 0) X hP hD hS (mX12_isClaimAt hg) okX12_isClaimAt wl_X12_351 wi_X12_isClaimAt ws_X12_X12_isClaimAt_X12_isClaimAt ⟨rfl, rfl, Nat.le_of_ble_eq_true rfl, Nat.le_of_ble_eq_true rfl⟩ 12 0 rfl rfl rfl hl.1 (Nat.le_of_ble_eq_true rfl) dX12_holdsUp_12 (fun H locs hP hD hS => ?_)
  refine lv_if_eq (tgt := 29) hx hb dX12_holdsUp_15 (by decide) (fun hc => ?_) (fun hc => ?_)
  · have hf := tc_pos hc hf
    refine lv_aload_n hx hb dX12_holdsUp_29 rfl (lv_at hl 0 rfl) ?_
    refine lv_iconst (v := (2 : Int32)) hx hb dX12_holdsUp_30 (by decide) ?_
    obtain ⟨z2, hg, hf⟩ := tc_bi hf
    refine tc_iVs (As := [.int ((2 : Int32))]) (rest := []) (b := q 0) X hP hD hS (mX12_refuse hg) okX12_refuse wl_X12_333 wi_X12_refuse ws_X12_X12_refuse_X12_refuse ⟨rfl, rfl, Nat.le_of_ble_eq_true rfl, Nat.le_of_ble_eq_true rfl⟩ 12 0 rfl rfl rfl hl.1 (Nat.le_of_ble_eq_true rfl) dX12_holdsUp_31 (fun H locs hP hD hS => ?_)
    obtain rfl := Option.some.inj hf
    exact tc_ri X hP hD hS rfl dX12_holdsUp_34 rfl rfl
  · have hf := tc_neg hc hf
    refine lv_aload_n hx hb dX12_holdsUp_18 rfl (lv_at hl 0 rfl) ?_
    refine lv_iload_n hx hb dX12_holdsUp_19 rfl (lv_at hl 1 rfl) ?_
    obtain ⟨z3, hg, hf⟩ := tc_bi hf
    refine tc_iVs (As := [.int (a1)]) (rest := []) (b := q 0) X hP hD hS (mX12_props hg) okX12_props wl_X12_406 wi_X12_props ws_X12_X12_props_X12_props ⟨rfl, rfl, Nat.le_of_ble_eq_true rfl, Nat.le_of_ble_eq_true rfl⟩ 12 0 rfl rfl rfl hl.1 (Nat.le_of_ble_eq_true rfl) dX12_holdsUp_20 (fun H locs hP hD hS => ?_)
    obtain ⟨z4, hg, hf⟩ := tc_bi hf
    refine tc_iS0 (As := [.int (z3)]) (rest := []) X hP hD hS (mX12_sizeOf hg) okX12_sizeOf wl_X12_396 wt_X12_sizeOf ⟨rfl, rfl, Nat.le_of_ble_eq_true rfl, Nat.le_of_ble_eq_true rfl⟩ rfl hl.1 (Nat.le_of_ble_eq_true rfl) dX12_holdsUp_23 (fun H locs hP hD hS => ?_)
    refine lv_goto (tgt := 34) hx hb dX12_holdsUp_26 (by decide) ?_
    obtain rfl := Option.some.inj hf
    exact tc_ri X hP hD hS rfl dX12_holdsUp_34 rfl rfl
def fX12_holdsUpSet  (S : ms_T) (a1 : Int32) : Option (Int32 × ms_T) :=
  (fX12_isClaimAt (si (si S 1 (0 : Int32)) 0 (0 : Int32)) a1).bind fun z1 =>
  if z1 = 0 then
    (fX12_refuse (si (si S 1 (0 : Int32)) 0 (0 : Int32)) (2 : Int32)).bind fun z2 =>
    some (z2.1, z2.2)
  else
    (fX12_props (si (si S 1 (0 : Int32)) 0 (0 : Int32)) a1).bind fun z3 =>
    some (z3, si (si S 1 (0 : Int32)) 0 (0 : Int32))
abbrev rmX12_holdsUpSet : Room := { frames := 3, cells := 0, slots := 0, locals := 70 }
theorem okX12_holdsUpSet : tc_ok yX12_holdsUpSet cX12_holdsUpSet 2 (some .int) 1 := ⟨wc_X12_holdsUpSet, wn_X12, by decide, by decide, by decide +kernel⟩
set_option maxRecDepth 20000 in
theorem mX12_holdsUpSet {q : Nat → Nat}  {S : ms_T} {a1 : Int32} {z : Int32 × ms_T}  (hf : fX12_holdsUpSet S a1 = some z) : tc_MI l dC dI ca yX12_holdsUpSet cX12_holdsUpSet 2 (some .int) rmX12_holdsUpSet [.ref (q 0), .int (a1)] (w12 ca q S) (w12 ca q z.2) (z.1) := by
  refine tc_metI (own := RX12) (by decide) rfl ?_ (Nat.le_of_ble_eq_true rfl)
  intro p e s m below meth c A X hP hD hS ls hl
  obtain ⟨hx, hb, hr, hml, hown, hts, hlk, hK, hA, hG⟩ := id X
  unfold fX12_holdsUpSet at hf
  have hl : lv_has ls 2 [(0, .ref (q 0)), (1, .int (a1))] := hl
  refine lv_aload_n hx hb dX12_holdsUpSet_0 rfl (lv_at hl 0 rfl) ?_
  refine lv_iconst (v := (0 : Int32)) hx hb dX12_holdsUpSet_1 (by decide) ?_
  refine va_put (D := (dC, dI)) (ci := 12) (v := .int ((0 : Int32))) (ty := .int) (C := RX12) (T := TX12) (N := 49) hx hb hts i_X12 tyX12 tyX12_ok nmX12 hown hK hP hD hS 0 rfl rfl 1 (by decide) (hts _ wf_X12_63) (fun _ h9 => h9) rfl (tyX12_ok 1 (by decide)) rfl rfl (Nat.le_of_ble_eq_true rfl) dX12_holdsUpSet_2 (fun H locs hP hD hS => ?_)
  have hP := tc_eP (pw12_0_1 ca q S (0 : Int32)) hP
  have hD := tc_eD (pw12_0_1 ca q S (0 : Int32)) hD
  refine lv_aload_n hx hb dX12_holdsUpSet_5 rfl (lv_at hl 0 rfl) ?_
  refine lv_iconst (v := (0 : Int32)) hx hb dX12_holdsUpSet_6 (by decide) ?_
  refine va_put (D := (dC, dI)) (ci := 12) (v := .int ((0 : Int32))) (ty := .int) (C := RX12) (T := TX12) (N := 49) hx hb hts i_X12 tyX12 tyX12_ok nmX12 hown hK hP hD hS 0 rfl rfl 0 (by decide) (hts _ wf_X12_66) (fun _ h9 => h9) rfl (tyX12_ok 0 (by decide)) rfl rfl (Nat.le_of_ble_eq_true rfl) dX12_holdsUpSet_7 (fun H locs hP hD hS => ?_)
  have hP := tc_eP (pw12_0_0 ca q (si S 1 (0 : Int32)) (0 : Int32)) hP
  have hD := tc_eD (pw12_0_0 ca q (si S 1 (0 : Int32)) (0 : Int32)) hD
  refine lv_aload_n hx hb dX12_holdsUpSet_10 rfl (lv_at hl 0 rfl) ?_
  refine lv_iload_n hx hb dX12_holdsUpSet_11 rfl (lv_at hl 1 rfl) ?_
  obtain ⟨z1, hg, hf⟩ := tc_bi hf
  refine tc_iVs (As := [.int (a1)]) (rest := []) (b := q 0) X hP hD hS (mX12_isClaimAt hg) okX12_isClaimAt wl_X12_351 wi_X12_isClaimAt ws_X12_X12_isClaimAt_X12_isClaimAt ⟨rfl, rfl, Nat.le_of_ble_eq_true rfl, Nat.le_of_ble_eq_true rfl⟩ 12 0 rfl rfl rfl hl.1 (Nat.le_of_ble_eq_true rfl) dX12_holdsUpSet_12 (fun H locs hP hD hS => ?_)
  refine lv_if_eq (tgt := 26) hx hb dX12_holdsUpSet_15 (by decide) (fun hc => ?_) (fun hc => ?_)
  · have hf := tc_pos hc hf
    refine lv_aload_n hx hb dX12_holdsUpSet_26 rfl (lv_at hl 0 rfl) ?_
    refine lv_iconst (v := (2 : Int32)) hx hb dX12_holdsUpSet_27 (by decide) ?_
    obtain ⟨z2, hg, hf⟩ := tc_bi hf
    refine tc_iVs (As := [.int ((2 : Int32))]) (rest := []) (b := q 0) X hP hD hS (mX12_refuse hg) okX12_refuse wl_X12_333 wi_X12_refuse ws_X12_X12_refuse_X12_refuse ⟨rfl, rfl, Nat.le_of_ble_eq_true rfl, Nat.le_of_ble_eq_true rfl⟩ 12 0 rfl rfl rfl hl.1 (Nat.le_of_ble_eq_true rfl) dX12_holdsUpSet_28 (fun H locs hP hD hS => ?_)
    obtain rfl := Option.some.inj hf
    exact tc_ri X hP hD hS rfl dX12_holdsUpSet_31 rfl rfl
  · have hf := tc_neg hc hf
    refine lv_aload_n hx hb dX12_holdsUpSet_18 rfl (lv_at hl 0 rfl) ?_
    refine lv_iload_n hx hb dX12_holdsUpSet_19 rfl (lv_at hl 1 rfl) ?_
    obtain ⟨z3, hg, hf⟩ := tc_bi hf
    refine tc_iVs (As := [.int (a1)]) (rest := []) (b := q 0) X hP hD hS (mX12_props hg) okX12_props wl_X12_406 wi_X12_props ws_X12_X12_props_X12_props ⟨rfl, rfl, Nat.le_of_ble_eq_true rfl, Nat.le_of_ble_eq_true rfl⟩ 12 0 rfl rfl rfl hl.1 (Nat.le_of_ble_eq_true rfl) dX12_holdsUpSet_20 (fun H locs hP hD hS => ?_)
    refine lv_goto (tgt := 31) hx hb dX12_holdsUpSet_23 (by decide) ?_
    obtain rfl := Option.some.inj hf
    exact tc_ri X hP hD hS rfl dX12_holdsUpSet_31 rfl rfl
def fX12_bringsDown  (S : ms_T) (a1 : Int32) : Option (Int32 × ms_T) :=
  (fX12_isClaimAt (si (si S 1 (0 : Int32)) 0 (0 : Int32)) a1).bind fun z1 =>
  if z1 = 0 then
    (fX12_refuse (si (si S 1 (0 : Int32)) 0 (0 : Int32)) (2 : Int32)).bind fun z6 =>
    some (z6.1, z6.2)
  else
    (fX12_isHollow (si (si S 1 (0 : Int32)) 0 (0 : Int32)) a1).bind fun z2 =>
    if z2 = 0 then
      (fX12_standing (si (si S 1 (0 : Int32)) 0 (0 : Int32)) (0 : Int32) (0 : Int32)).bind fun z3 =>
      (fX12_standing (si (si S 1 (0 : Int32)) 0 (0 : Int32)) (0 : Int32) ((1 : Int32) <<< (a1 &&& 31))).bind fun z4 =>
      some (z3 &&& (z4 ^^^ (-1 : Int32)), si (si S 1 (0 : Int32)) 0 (0 : Int32))
    else
      (fX12_refuse (si (si S 1 (0 : Int32)) 0 (0 : Int32)) (9 : Int32)).bind fun z5 =>
      some (z5.1, z5.2)
abbrev rmX12_bringsDown : Room := { frames := 3, cells := 0, slots := 0, locals := 68 }
theorem okX12_bringsDown : tc_ok yX12_bringsDown cX12_bringsDown 2 (some .int) 1 := ⟨wc_X12_bringsDown, wn_X12, by decide, by decide, by decide +kernel⟩
set_option maxRecDepth 20000 in
theorem mX12_bringsDown {q : Nat → Nat}  {S : ms_T} {a1 : Int32} {z : Int32 × ms_T}  (hf : fX12_bringsDown S a1 = some z) : tc_MI l dC dI ca yX12_bringsDown cX12_bringsDown 2 (some .int) rmX12_bringsDown [.ref (q 0), .int (a1)] (w12 ca q S) (w12 ca q z.2) (z.1) := by
  refine tc_metI (own := RX12) (by decide) rfl ?_ (Nat.le_of_ble_eq_true rfl)
  intro p e s m below meth c A X hP hD hS ls hl
  obtain ⟨hx, hb, hr, hml, hown, hts, hlk, hK, hA, hG⟩ := id X
  unfold fX12_bringsDown at hf
  have hl : lv_has ls 2 [(0, .ref (q 0)), (1, .int (a1))] := hl
  refine lv_aload_n hx hb dX12_bringsDown_0 rfl (lv_at hl 0 rfl) ?_
  refine lv_iconst (v := (0 : Int32)) hx hb dX12_bringsDown_1 (by decide) ?_
  refine va_put (D := (dC, dI)) (ci := 12) (v := .int ((0 : Int32))) (ty := .int) (C := RX12) (T := TX12) (N := 49) hx hb hts i_X12 tyX12 tyX12_ok nmX12 hown hK hP hD hS 0 rfl rfl 1 (by decide) (hts _ wf_X12_63) (fun _ h9 => h9) rfl (tyX12_ok 1 (by decide)) rfl rfl (Nat.le_of_ble_eq_true rfl) dX12_bringsDown_2 (fun H locs hP hD hS => ?_)
  have hP := tc_eP (pw12_0_1 ca q S (0 : Int32)) hP
  have hD := tc_eD (pw12_0_1 ca q S (0 : Int32)) hD
  refine lv_aload_n hx hb dX12_bringsDown_5 rfl (lv_at hl 0 rfl) ?_
  refine lv_iconst (v := (0 : Int32)) hx hb dX12_bringsDown_6 (by decide) ?_
  refine va_put (D := (dC, dI)) (ci := 12) (v := .int ((0 : Int32))) (ty := .int) (C := RX12) (T := TX12) (N := 49) hx hb hts i_X12 tyX12 tyX12_ok nmX12 hown hK hP hD hS 0 rfl rfl 0 (by decide) (hts _ wf_X12_66) (fun _ h9 => h9) rfl (tyX12_ok 0 (by decide)) rfl rfl (Nat.le_of_ble_eq_true rfl) dX12_bringsDown_7 (fun H locs hP hD hS => ?_)
  have hP := tc_eP (pw12_0_0 ca q (si S 1 (0 : Int32)) (0 : Int32)) hP
  have hD := tc_eD (pw12_0_0 ca q (si S 1 (0 : Int32)) (0 : Int32)) hD
  refine lv_aload_n hx hb dX12_bringsDown_10 rfl (lv_at hl 0 rfl) ?_
  refine lv_iload_n hx hb dX12_bringsDown_11 rfl (lv_at hl 1 rfl) ?_
  obtain ⟨z1, hg, hf⟩ := tc_bi hf
  refine tc_iVs (As := [.int (a1)]) (rest := []) (b := q 0) X hP hD hS (mX12_isClaimAt hg) okX12_isClaimAt wl_X12_351 wi_X12_isClaimAt ws_X12_X12_isClaimAt_X12_isClaimAt ⟨rfl, rfl, Nat.le_of_ble_eq_true rfl, Nat.le_of_ble_eq_true rfl⟩ 12 0 rfl rfl rfl hl.1 (Nat.le_of_ble_eq_true rfl) dX12_bringsDown_12 (fun H locs hP hD hS => ?_)
  refine lv_if_ne (tgt := 24) hx hb dX12_bringsDown_15 (by decide) (fun hc => ?_) (fun hc => ?_)
  · have hf := tc_neg hc hf
    refine lv_aload_n hx hb dX12_bringsDown_24 rfl (lv_at hl 0 rfl) ?_
    refine lv_iload_n hx hb dX12_bringsDown_25 rfl (lv_at hl 1 rfl) ?_
    obtain ⟨z2, hg, hf⟩ := tc_bi hf
    refine tc_iVs (As := [.int (a1)]) (rest := []) (b := q 0) X hP hD hS (mX12_isHollow hg) okX12_isHollow wl_X12_354 wi_X12_isHollow ws_X12_X12_isHollow_X12_isHollow ⟨rfl, rfl, Nat.le_of_ble_eq_true rfl, Nat.le_of_ble_eq_true rfl⟩ 12 0 rfl rfl rfl hl.1 (Nat.le_of_ble_eq_true rfl) dX12_bringsDown_26 (fun H locs hP hD hS => ?_)
    refine lv_if_eq (tgt := 41) hx hb dX12_bringsDown_29 (by decide) (fun hc => ?_) (fun hc => ?_)
    · have hf := tc_pos hc hf
      refine lv_aload_n hx hb dX12_bringsDown_41 rfl (lv_at hl 0 rfl) ?_
      refine lv_iconst (v := (0 : Int32)) hx hb dX12_bringsDown_42 (by decide) ?_
      refine lv_iconst (v := (0 : Int32)) hx hb dX12_bringsDown_43 (by decide) ?_
      obtain ⟨z3, hg, hf⟩ := tc_bi hf
      refine tc_iVs (As := [.int ((0 : Int32)), .int ((0 : Int32))]) (rest := []) (b := q 0) X hP hD hS (mX12_standing hg) okX12_standing wl_X12_328 wi_X12_standing ws_X12_X12_standing_X12_standing ⟨rfl, rfl, Nat.le_of_ble_eq_true rfl, Nat.le_of_ble_eq_true rfl⟩ 12 0 rfl rfl rfl hl.1 (Nat.le_of_ble_eq_true rfl) dX12_bringsDown_44 (fun H locs hP hD hS => ?_)
      refine lv_aload_n hx hb dX12_bringsDown_47 rfl (lv_at hl 0 rfl) ?_
      refine lv_iconst (v := (0 : Int32)) hx hb dX12_bringsDown_48 (by decide) ?_
      refine lv_iconst (v := (1 : Int32)) hx hb dX12_bringsDown_49 (by decide) ?_
      refine lv_iload_n hx hb dX12_bringsDown_50 rfl (lv_at hl 1 rfl) ?_
      refine lv_ishl hx hb dX12_bringsDown_51 ?_
      obtain ⟨z4, hg, hf⟩ := tc_bi hf
      refine tc_iVs (As := [.int ((0 : Int32)), .int ((1 : Int32) <<< (a1 &&& 31))]) (rest := [.int (z3)]) (b := q 0) X hP hD hS (mX12_standing hg) okX12_standing wl_X12_328 wi_X12_standing ws_X12_X12_standing_X12_standing ⟨rfl, rfl, Nat.le_of_ble_eq_true rfl, Nat.le_of_ble_eq_true rfl⟩ 12 0 rfl rfl rfl hl.1 (Nat.le_of_ble_eq_true rfl) dX12_bringsDown_52 (fun H locs hP hD hS => ?_)
      refine lv_iconst (v := (-1 : Int32)) hx hb dX12_bringsDown_55 (by decide) ?_
      refine lv_ixor hx hb dX12_bringsDown_56 ?_
      refine lv_iand hx hb dX12_bringsDown_57 ?_
      obtain rfl := Option.some.inj hf
      exact tc_ri X hP hD hS rfl dX12_bringsDown_58 rfl rfl
    · have hf := tc_neg hc hf
      refine lv_aload_n hx hb dX12_bringsDown_32 rfl (lv_at hl 0 rfl) ?_
      refine lv_bipush (v := (9 : Int32)) hx hb dX12_bringsDown_33 (by decide) ?_
      obtain ⟨z5, hg, hf⟩ := tc_bi hf
      refine tc_iVs (As := [.int ((9 : Int32))]) (rest := []) (b := q 0) X hP hD hS (mX12_refuse hg) okX12_refuse wl_X12_333 wi_X12_refuse ws_X12_X12_refuse_X12_refuse ⟨rfl, rfl, Nat.le_of_ble_eq_true rfl, Nat.le_of_ble_eq_true rfl⟩ 12 0 rfl rfl rfl hl.1 (Nat.le_of_ble_eq_true rfl) dX12_bringsDown_35 (fun H locs hP hD hS => ?_)
      refine lv_goto (tgt := 58) hx hb dX12_bringsDown_38 (by decide) ?_
      obtain rfl := Option.some.inj hf
      exact tc_ri X hP hD hS rfl dX12_bringsDown_58 rfl rfl
  · have hf := tc_pos hc hf
    refine lv_aload_n hx hb dX12_bringsDown_18 rfl (lv_at hl 0 rfl) ?_
    refine lv_iconst (v := (2 : Int32)) hx hb dX12_bringsDown_19 (by decide) ?_
    obtain ⟨z6, hg, hf⟩ := tc_bi hf
    refine tc_iVs (As := [.int ((2 : Int32))]) (rest := []) (b := q 0) X hP hD hS (mX12_refuse hg) okX12_refuse wl_X12_333 wi_X12_refuse ws_X12_X12_refuse_X12_refuse ⟨rfl, rfl, Nat.le_of_ble_eq_true rfl, Nat.le_of_ble_eq_true rfl⟩ 12 0 rfl rfl rfl hl.1 (Nat.le_of_ble_eq_true rfl) dX12_bringsDown_20 (fun H locs hP hD hS => ?_)
    obtain rfl := Option.some.inj hf
    exact tc_ri X hP hD hS rfl dX12_bringsDown_23 rfl rfl
def fX12_endOf  (S : ms_T) (a1 : Int32) (a2 : Int32) : Option (Int32) :=
  if inb ((24 : Int32) + a1) 1820 = true then
    (fX12_isHollow S a1).bind fun z2 =>
    if z2 = 0 then
      if a2 = 0 then
        some ((ia S 5 ((24 : Int32) + a1)) + (1 : Int32))
      else
        some ((-1 : Int32))
    else
      (fX12_landing S (jmax (0 : Int32) (((ia S 5 ((24 : Int32) + a1)) + (1 : Int32)) - a2))).bind fun z3 =>
      some (z3)
  else none
abbrev rmX12_endOf : Room := { frames := 3, cells := 0, slots := 0, locals := 68 }
theorem okX12_endOf : tc_ok yX12_endOf cX12_endOf 4 (some .int) 2 := ⟨wc_X12_endOf, wn_X12, by decide, by decide, by decide +kernel⟩
set_option maxRecDepth 20000 in
theorem mX12_endOf {q : Nat → Nat}  {S : ms_T} {a1 : Int32} {a2 : Int32} {z : Int32}  (hf : fX12_endOf S a1 a2 = some z) : tc_MI l dC dI ca yX12_endOf cX12_endOf 4 (some .int) rmX12_endOf [.ref (q 0), .int (a1), .int (a2)] (w12 ca q S) (w12 ca q S) (z) := by
  refine tc_metI (own := RX12) (by decide) rfl ?_ (Nat.le_of_ble_eq_true rfl)
  intro p e s m below meth c A X hP hD hS ls hl
  obtain ⟨hx, hb, hr, hml, hown, hts, hlk, hK, hA, hG⟩ := id X
  unfold fX12_endOf at hf
  have hl : lv_has ls 4 [(0, .ref (q 0)), (1, .int (a1)), (2, .int (a2))] := hl
  refine lv_aload_n hx hb dX12_endOf_0 rfl (lv_at hl 0 rfl) ?_
  refine va_get (D := (dC, dI)) (ci := 12) (v := .ref (q 5)) (C := RX12) (T := TX12) (N := 49) hx hb hts i_X12 hown hK hP 0 rfl rfl 20 (by decide) (hts _ wf_X12_35) (fun _ h9 => h9) rfl dX12_endOf_1 ?_
  refine lv_bipush (v := (24 : Int32)) hx hb dX12_endOf_4 (by decide) ?_
  refine lv_iload_n hx hb dX12_endOf_6 rfl (lv_at hl 1 rfl) ?_
  refine lv_iadd hx hb dX12_endOf_7 ?_
  obtain ⟨hi1, hf⟩ := tc_in hf
  refine va_iald hx hb hK hP 5 1 rfl rfl hi1 dX12_endOf_8 ?_
  refine lv_iconst (v := (1 : Int32)) hx hb dX12_endOf_9 (by decide) ?_
  refine lv_iadd hx hb dX12_endOf_10 ?_
  refine lv_istore_n (lv' := [(3, .int ((ia S 5 ((24 : Int32) + a1)) + (1 : Int32))), (0, .ref (q 0)), (1, .int (a1)), (2, .int (a2))]) hx hb dX12_endOf_11 rfl hl (by decide) rfl (fun ls hl => ?_)
  refine lv_aload_n hx hb dX12_endOf_12 rfl (lv_at hl 1 rfl) ?_
  refine lv_iload_n hx hb dX12_endOf_13 rfl (lv_at hl 2 rfl) ?_
  obtain ⟨z2, hg, hf⟩ := tc_bi hf
  refine tc_iVs (As := [.int (a1)]) (rest := []) (b := q 0) X hP hD hS (mX12_isHollow hg) okX12_isHollow wl_X12_354 wi_X12_isHollow ws_X12_X12_isHollow_X12_isHollow ⟨rfl, rfl, Nat.le_of_ble_eq_true rfl, Nat.le_of_ble_eq_true rfl⟩ 12 0 rfl rfl rfl hl.1 (Nat.le_of_ble_eq_true rfl) dX12_endOf_14 (fun H locs hP hD hS => ?_)
  refine lv_if_ne (tgt := 30) hx hb dX12_endOf_17 (by decide) (fun hc => ?_) (fun hc => ?_)
  · have hf := tc_neg hc hf
    refine lv_aload_n hx hb dX12_endOf_30 rfl (lv_at hl 1 rfl) ?_
    refine lv_iconst (v := (0 : Int32)) hx hb dX12_endOf_31 (by decide) ?_
    refine lv_iload_n hx hb dX12_endOf_32 rfl (lv_at hl 0 rfl) ?_
    refine lv_iload_n hx hb dX12_endOf_33 rfl (lv_at hl 3 rfl) ?_
    refine lv_isub hx hb dX12_endOf_34 ?_
    refine tc_mmax (rest := [.ref (q 0)]) X hl.1 wl_X12_247 (Nat.le_of_ble_eq_true rfl) (Nat.le_of_ble_eq_true rfl) dX12_endOf_35 ?_
    obtain ⟨z3, hg, hf⟩ := tc_bi hf
    refine tc_iVs (As := [.int (jmax (0 : Int32) (((ia S 5 ((24 : Int32) + a1)) + (1 : Int32)) - a2))]) (rest := []) (b := q 0) X hP hD hS (mX12_landing hg) okX12_landing wl_X12_386 wi_X12_landing ws_X12_X12_landing_X12_landing ⟨rfl, rfl, Nat.le_of_ble_eq_true rfl, Nat.le_of_ble_eq_true rfl⟩ 12 0 rfl rfl rfl hl.1 (Nat.le_of_ble_eq_true rfl) dX12_endOf_38 (fun H locs hP hD hS => ?_)
    obtain rfl := Option.some.inj hf
    exact tc_ri X hP hD hS rfl dX12_endOf_41 rfl rfl
  · have hf := tc_pos hc hf
    refine lv_iload_n hx hb dX12_endOf_20 rfl (lv_at hl 3 rfl) ?_
    refine lv_if_ne (tgt := 28) hx hb dX12_endOf_21 (by decide) (fun hc => ?_) (fun hc => ?_)
    · have hf := tc_neg hc hf
      refine lv_iconst (v := (-1 : Int32)) hx hb dX12_endOf_28 (by decide) ?_
      obtain rfl := Option.some.inj hf
      exact tc_ri X hP hD hS rfl dX12_endOf_29 rfl rfl
    · have hf := tc_pos hc hf
      refine lv_iload_n hx hb dX12_endOf_24 rfl (lv_at hl 0 rfl) ?_
      refine lv_goto (tgt := 29) hx hb dX12_endOf_25 (by decide) ?_
      obtain rfl := Option.some.inj hf
      exact tc_ri X hP hD hS rfl dX12_endOf_29 rfl rfl
def fX12_isNearTo  (S : ms_T) (a1 : Int32) (a2 : Int32) : Option (Int32) :=
  if inb ((24 : Int32) + a2) 1820 = true then
    if (2 : Int32) ≤ (jabs (((ia S 5 ((24 : Int32) + a2)) + (1 : Int32)) - a1)) then
      some ((0 : Int32))
    else
      some ((1 : Int32))
  else none
abbrev rmX12_isNearTo : Room := { frames := 1, cells := 0, slots := 0, locals := 23 }
theorem okX12_isNearTo : tc_ok yX12_isNearTo cX12_isNearTo 3 (some .boolean) 2 := ⟨wc_X12_isNearTo, wn_X12, by decide, by decide, by decide +kernel⟩
set_option maxRecDepth 20000 in
theorem mX12_isNearTo {q : Nat → Nat}  {S : ms_T} {a1 : Int32} {a2 : Int32} {z : Int32}  (hf : fX12_isNearTo S a1 a2 = some z) : tc_MI l dC dI ca yX12_isNearTo cX12_isNearTo 3 (some .boolean) rmX12_isNearTo [.ref (q 0), .int (a1), .int (a2)] (w12 ca q S) (w12 ca q S) (z) := by
  refine tc_metI (own := RX12) (by decide) rfl ?_ (Nat.le_of_ble_eq_true rfl)
  intro p e s m below meth c A X hP hD hS ls hl
  obtain ⟨hx, hb, hr, hml, hown, hts, hlk, hK, hA, hG⟩ := id X
  unfold fX12_isNearTo at hf
  have hl : lv_has ls 3 [(0, .ref (q 0)), (1, .int (a1)), (2, .int (a2))] := hl
  refine lv_aload_n hx hb dX12_isNearTo_0 rfl (lv_at hl 0 rfl) ?_
  refine va_get (D := (dC, dI)) (ci := 12) (v := .ref (q 5)) (C := RX12) (T := TX12) (N := 49) hx hb hts i_X12 hown hK hP 0 rfl rfl 20 (by decide) (hts _ wf_X12_35) (fun _ h9 => h9) rfl dX12_isNearTo_1 ?_
  refine lv_bipush (v := (24 : Int32)) hx hb dX12_isNearTo_4 (by decide) ?_
  refine lv_iload_n hx hb dX12_isNearTo_6 rfl (lv_at hl 2 rfl) ?_
  refine lv_iadd hx hb dX12_isNearTo_7 ?_
  obtain ⟨hi1, hf⟩ := tc_in hf
  refine va_iald hx hb hK hP 5 1 rfl rfl hi1 dX12_isNearTo_8 ?_
  refine lv_iconst (v := (1 : Int32)) hx hb dX12_isNearTo_9 (by decide) ?_
  refine lv_iadd hx hb dX12_isNearTo_10 ?_
  refine lv_iload_n hx hb dX12_isNearTo_11 rfl (lv_at hl 1 rfl) ?_
  refine lv_isub hx hb dX12_isNearTo_12 ?_
  refine tc_mabs (rest := []) X hl.1 wl_X12_357 (Nat.le_of_ble_eq_true rfl) (Nat.le_of_ble_eq_true rfl) dX12_isNearTo_13 ?_
  refine lv_iconst (v := (2 : Int32)) hx hb dX12_isNearTo_16 (by decide) ?_
  refine lv_icmp_ge (tgt := 24) hx hb dX12_isNearTo_17 (by decide) (fun hc => ?_) (fun hc => ?_)
  · have hf := tc_pos hc hf
    refine lv_iconst (v := (0 : Int32)) hx hb dX12_isNearTo_24 (by decide) ?_
    obtain rfl := Option.some.inj hf
    exact tc_rz X hP hD hS rfl dX12_isNearTo_25 (by decide) rfl rfl
  · have hf := tc_neg hc hf
    refine lv_iconst (v := (1 : Int32)) hx hb dX12_isNearTo_20 (by decide) ?_
    refine lv_goto (tgt := 25) hx hb dX12_isNearTo_21 (by decide) ?_
    obtain rfl := Option.some.inj hf
    exact tc_rz X hP hD hS rfl dX12_isNearTo_25 (by decide) rfl rfl
def fX12_laysWays_70   (k32 : ms_T → Int32 → Option (ms_T)) (k40 : ms_T → Int32 → Int32 → Option (ms_T)) (k56 : ms_T → Int32 → Int32 → Int32 → Int32 → Option (ms_T)) : Nat → ms_T → Int32 → Int32 → Int32 → Int32 → Int32 → Option (ms_T)
  | 0, _, _, _, _, _, _ => none
  | n + 1, S, v2, v3, v4, v5, v6 =>
    if (3 : Int32) < v6 then
      k56 S v2 v3 v4 (v5 + (1 : Int32))
    else
      (fX12_isNearTo S v3 v5).bind fun z3 =>
      if z3 = 0 then
        k56 S v2 v3 v4 (v5 + (1 : Int32))
      else
        if v4 = 0 then
          (fX12_endOf S v5 v6).bind fun z4 =>
          if z4 < 0 then
            fX12_laysWays_70 k32 k40 k56 n S v2 v3 (0 : Int32) v5 (v6 + (1 : Int32))
          else
            (fX12_endOf S v5 v6).bind fun z5 =>
            if inb z5 10 = true then
              if (ia S 8 z5) = (v2 - (1 : Int32)) then
                fX12_laysWays_70 k32 k40 k56 n S v2 v3 (1 : Int32) v5 (v6 + (1 : Int32))
              else
                fX12_laysWays_70 k32 k40 k56 n S v2 v3 (0 : Int32) v5 (v6 + (1 : Int32))
            else none
        else
          fX12_laysWays_70 k32 k40 k56 n S v2 v3 (1 : Int32) v5 (v6 + (1 : Int32))
def fX12_laysWays_56   (k32 : ms_T → Int32 → Option (ms_T)) (k40 : ms_T → Int32 → Int32 → Option (ms_T)) : Nat → ms_T → Int32 → Int32 → Int32 → Int32 → Option (ms_T)
  | 0, _, _, _, _, _ => none
  | n + 1, S, v2, v3, v4, v5 =>
    if (ia S 5 (1 : Int32)) ≤ v5 then
      if v4 = 0 then
        k40 S v2 (v3 + (1 : Int32))
      else
        if inb v3 10 = true then
          if 0 ≤ (ia S 8 v3) then
            k40 S v2 (v3 + (1 : Int32))
          else
            if inb v3 10 = true then
              k40 (sa S 8 v3 v2) v2 (v3 + (1 : Int32))
            else none
        else none
    else
      fX12_laysWays_70 k32 k40 (fX12_laysWays_56 k32 k40 n) FU S v2 v3 v4 v5 (0 : Int32)
def fX12_laysWays_40   (k32 : ms_T → Int32 → Option (ms_T)) : Nat → ms_T → Int32 → Int32 → Option (ms_T)
  | 0, _, _, _ => none
  | n + 1, S, v2, v3 =>
    if (ia S 5 (0 : Int32)) < v3 then
      k32 S (v2 + (1 : Int32))
    else
      fX12_laysWays_56 k32 (fX12_laysWays_40 k32 n) FU S v2 v3 (0 : Int32) (0 : Int32)
def fX12_laysWays_32    : Nat → ms_T → Int32 → Option (ms_T)
  | 0, _, _ => none
  | n + 1, S, v2 =>
    if (9 : Int32) < v2 then
      some (S)
    else
      fX12_laysWays_40 (fX12_laysWays_32 n) FU S v2 (1 : Int32)
def fX12_laysWays_2    : Nat → ms_T → Int32 → Int32 → Option (ms_T)
  | 0, _, _, _ => none
  | n + 1, S, v1, v2 =>
    if (9 : Int32) < v2 then
      fX12_laysWays_32 FU S (1 : Int32)
    else
      if v2 = v1 then
        if inb v2 10 = true then
          fX12_laysWays_2 n (sa S 8 v2 (0 : Int32)) v1 (v2 + (1 : Int32))
        else none
      else
        if inb v2 10 = true then
          fX12_laysWays_2 n (sa S 8 v2 (-1 : Int32)) v1 (v2 + (1 : Int32))
        else none
def fX12_laysWays  (S : ms_T) (a1 : Int32) : Option (ms_T) :=
  fX12_laysWays_2 FU S a1 (0 : Int32)
abbrev rmX12_laysWays : Room := { frames := 4, cells := 0, slots := 0, locals := 91 }
theorem okX12_laysWays : tc_ok yX12_laysWays cX12_laysWays 7 none 1 := ⟨wc_X12_laysWays, wn_X12, by decide, by decide, by decide +kernel⟩
set_option maxRecDepth 20000 in
theorem tX12_laysWays_70 {q : Nat → Nat}  (X : tc_X dC dI ca A RX12 cX12_laysWays 7 none p s m args meth c) (z : ms_T)   (k32 : ms_T → Int32 → Option (ms_T)) (k40 : ms_T → Int32 → Int32 → Option (ms_T)) (k56 : ms_T → Int32 → Int32 → Int32 → Int32 → Option (ms_T)) (hk32 : ∀ (S : ms_T) (v2 : Int32), k32 S v2 = some z → ∀ (H : Heap) (locs : List Loc) (ls : Array Slot), va_P (dC, dI) classes (w12 ca q S) H → va_D A (w12 ca q S) → va_S A s.heap H locs → lv_has ls 7 [(0, .ref (q 0)), (2, .int (v2))] → W p l e rmX12_laysWays s m args below meth c H locs 0 0 (MQ below (tc_QV dC dI ca A (w12 ca q z)) args s 0 0 A) (F0 m 32 ls [])) (hk40 : ∀ (S : ms_T) (v2 : Int32) (v3 : Int32), k40 S v2 v3 = some z → ∀ (H : Heap) (locs : List Loc) (ls : Array Slot), va_P (dC, dI) classes (w12 ca q S) H → va_D A (w12 ca q S) → va_S A s.heap H locs → lv_has ls 7 [(0, .ref (q 0)), (2, .int (v2)), (3, .int (v3))] → W p l e rmX12_laysWays s m args below meth c H locs 0 0 (MQ below (tc_QV dC dI ca A (w12 ca q z)) args s 0 0 A) (F0 m 40 ls [])) (hk56 : ∀ (S : ms_T) (v2 : Int32) (v3 : Int32) (v4 : Int32) (v5 : Int32), k56 S v2 v3 v4 v5 = some z → ∀ (H : Heap) (locs : List Loc) (ls : Array Slot), va_P (dC, dI) classes (w12 ca q S) H → va_D A (w12 ca q S) → va_S A s.heap H locs → lv_has ls 7 [(0, .ref (q 0)), (2, .int (v2)), (3, .int (v3)), (4, .int (v4)), (5, .int (v5))] → W p l e rmX12_laysWays s m args below meth c H locs 0 0 (MQ below (tc_QV dC dI ca A (w12 ca q z)) args s 0 0 A) (F0 m 56 ls [])) : ∀ n : Nat, ∀ (S : ms_T) (v2 : Int32) (v3 : Int32) (v4 : Int32) (v5 : Int32) (v6 : Int32), fX12_laysWays_70 k32 k40 k56 n S v2 v3 v4 v5 v6 = some z → ∀ (H : Heap) (locs : List Loc) (ls : Array Slot), va_P (dC, dI) classes (w12 ca q S) H → va_D A (w12 ca q S) → va_S A s.heap H locs → lv_has ls 7 [(0, .ref (q 0)), (2, .int (v2)), (3, .int (v3)), (4, .int (v4)), (5, .int (v5)), (6, .int (v6))] → W p l e rmX12_laysWays s m args below meth c H locs 0 0 (MQ below (tc_QV dC dI ca A (w12 ca q z)) args s 0 0 A) (F0 m 70 ls []) := by
  obtain ⟨hx, hb, hr, hml, hown, hts, hlk, hK, hA, hG⟩ := id X
  intro n
  induction n with
  | zero => intro S v2 v3 v4 v5 v6 hf; exact absurd (show none = some z from hf) (fun h => by cases h)
  | succ n ih =>
    intro S v2 v3 v4 v5 v6 hf H locs ls hP hD hS hl
    rw [fX12_laysWays_70] at hf
    refine lv_iload hx hb dX12_laysWays_70 (lv_at hl 5 rfl) ?_
    refine lv_iconst (v := (3 : Int32)) hx hb dX12_laysWays_72 (by decide) ?_
    refine lv_icmp_gt (tgt := 134) hx hb dX12_laysWays_73 (by decide) (fun hc => ?_) (fun hc => ?_)
    · have hf := tc_pos hc hf
      refine lv_iinc (v := v5 + (1 : Int32)) (lv' := [(5, .int (v5 + (1 : Int32))), (0, .ref (q 0)), (2, .int (v2)), (3, .int (v3)), (4, .int (v4)), (6, .int (v6))]) hx hb dX12_laysWays_134 hl (k := 4) rfl rfl (by decide) rfl (fun ls hl => ?_)
      refine lv_goto (tgt := 56) hx hb dX12_laysWays_137 (by decide) ?_
      exact hk56 S v2 v3 v4 (v5 + (1 : Int32)) hf _ _ _ hP hD hS (lv_sub hl [1, 2, 3, 4, 0] rfl)
    · have hf := tc_neg hc hf
      refine lv_aload_n hx hb dX12_laysWays_76 rfl (lv_at hl 0 rfl) ?_
      refine lv_iload_n hx hb dX12_laysWays_77 rfl (lv_at hl 2 rfl) ?_
      refine lv_iload hx hb dX12_laysWays_78 (lv_at hl 4 rfl) ?_
      obtain ⟨z3, hg, hf⟩ := tc_bi hf
      refine tc_iVs (As := [.int (v3), .int (v5)]) (rest := []) (b := q 0) X hP hD hS (mX12_isNearTo hg) okX12_isNearTo wl_X12_409 wi_X12_isNearTo ws_X12_X12_isNearTo_X12_isNearTo ⟨rfl, rfl, Nat.le_of_ble_eq_true rfl, Nat.le_of_ble_eq_true rfl⟩ 12 0 rfl rfl rfl hl.1 (Nat.le_of_ble_eq_true rfl) dX12_laysWays_80 (fun H locs hP hD hS => ?_)
      refine lv_if_eq (tgt := 134) hx hb dX12_laysWays_83 (by decide) (fun hc => ?_) (fun hc => ?_)
      · have hf := tc_pos hc hf
        refine lv_iinc (v := v5 + (1 : Int32)) (lv' := [(5, .int (v5 + (1 : Int32))), (0, .ref (q 0)), (2, .int (v2)), (3, .int (v3)), (4, .int (v4)), (6, .int (v6))]) hx hb dX12_laysWays_134 hl (k := 4) rfl rfl (by decide) rfl (fun ls hl => ?_)
        refine lv_goto (tgt := 56) hx hb dX12_laysWays_137 (by decide) ?_
        exact hk56 S v2 v3 v4 (v5 + (1 : Int32)) hf _ _ _ hP hD hS (lv_sub hl [1, 2, 3, 4, 0] rfl)
      · have hf := tc_neg hc hf
        refine lv_iload hx hb dX12_laysWays_86 (lv_at hl 3 rfl) ?_
        refine lv_if_ne (tgt := 121) hx hb dX12_laysWays_88 (by decide) (fun hc => ?_) (fun hc => ?_)
        · have hf := tc_neg hc hf
          refine lv_iconst (v := (1 : Int32)) hx hb dX12_laysWays_121 (by decide) ?_
          refine lv_goto (tgt := 126) hx hb dX12_laysWays_122 (by decide) ?_
          refine lv_istore (lv' := [(4, .int ((1 : Int32))), (0, .ref (q 0)), (2, .int (v2)), (3, .int (v3)), (5, .int (v5)), (6, .int (v6))]) hx hb dX12_laysWays_126 hl (by decide) rfl (fun ls hl => ?_)
          refine lv_iinc (v := v6 + (1 : Int32)) (lv' := [(6, .int (v6 + (1 : Int32))), (4, .int ((1 : Int32))), (0, .ref (q 0)), (2, .int (v2)), (3, .int (v3)), (5, .int (v5))]) hx hb dX12_laysWays_128 hl (k := 5) rfl rfl (by decide) rfl (fun ls hl => ?_)
          refine lv_goto (tgt := 70) hx hb dX12_laysWays_131 (by decide) ?_
          exact ih S v2 v3 (1 : Int32) v5 (v6 + (1 : Int32)) hf _ _ _ hP hD hS (lv_sub hl [2, 3, 4, 1, 5, 0] rfl)
        · have hf := tc_pos hc hf
          refine lv_aload_n hx hb dX12_laysWays_91 rfl (lv_at hl 0 rfl) ?_
          refine lv_iload hx hb dX12_laysWays_92 (lv_at hl 4 rfl) ?_
          refine lv_iload hx hb dX12_laysWays_94 (lv_at hl 5 rfl) ?_
          obtain ⟨z4, hg, hf⟩ := tc_bi hf
          refine tc_iVs (As := [.int (v5), .int (v6)]) (rest := []) (b := q 0) X hP hD hS (mX12_endOf hg) okX12_endOf wl_X12_412 wi_X12_endOf ws_X12_X12_endOf_X12_endOf ⟨rfl, rfl, Nat.le_of_ble_eq_true rfl, Nat.le_of_ble_eq_true rfl⟩ 12 0 rfl rfl rfl hl.1 (Nat.le_of_ble_eq_true rfl) dX12_laysWays_96 (fun H locs hP hD hS => ?_)
          refine lv_if_lt (tgt := 125) hx hb dX12_laysWays_99 (by decide) (fun hc => ?_) (fun hc => ?_)
          · have hf := tc_pos hc hf
            refine lv_iconst (v := (0 : Int32)) hx hb dX12_laysWays_125 (by decide) ?_
            refine lv_istore (lv' := [(4, .int ((0 : Int32))), (0, .ref (q 0)), (2, .int (v2)), (3, .int (v3)), (5, .int (v5)), (6, .int (v6))]) hx hb dX12_laysWays_126 hl (by decide) rfl (fun ls hl => ?_)
            refine lv_iinc (v := v6 + (1 : Int32)) (lv' := [(6, .int (v6 + (1 : Int32))), (4, .int ((0 : Int32))), (0, .ref (q 0)), (2, .int (v2)), (3, .int (v3)), (5, .int (v5))]) hx hb dX12_laysWays_128 hl (k := 5) rfl rfl (by decide) rfl (fun ls hl => ?_)
            refine lv_goto (tgt := 70) hx hb dX12_laysWays_131 (by decide) ?_
            exact ih S v2 v3 (0 : Int32) v5 (v6 + (1 : Int32)) hf _ _ _ hP hD hS (lv_sub hl [2, 3, 4, 1, 5, 0] rfl)
          · have hf := tc_neg hc hf
            refine lv_aload_n hx hb dX12_laysWays_102 rfl (lv_at hl 0 rfl) ?_
            refine va_get (D := (dC, dI)) (ci := 12) (v := .ref (q 8)) (C := RX12) (T := TX12) (N := 49) hx hb hts i_X12 hown hK hP 0 rfl rfl 26 (by decide) (hts _ wf_X12_44) (fun _ h9 => h9) rfl dX12_laysWays_103 ?_
            refine lv_aload_n hx hb dX12_laysWays_106 rfl (lv_at hl 0 rfl) ?_
            refine lv_iload hx hb dX12_laysWays_107 (lv_at hl 4 rfl) ?_
            refine lv_iload hx hb dX12_laysWays_109 (lv_at hl 5 rfl) ?_
            obtain ⟨z5, hg, hf⟩ := tc_bi hf
            refine tc_iVs (As := [.int (v5), .int (v6)]) (rest := [.ref (q 8)]) (b := q 0) X hP hD hS (mX12_endOf hg) okX12_endOf wl_X12_412 wi_X12_endOf ws_X12_X12_endOf_X12_endOf ⟨rfl, rfl, Nat.le_of_ble_eq_true rfl, Nat.le_of_ble_eq_true rfl⟩ 12 0 rfl rfl rfl hl.1 (Nat.le_of_ble_eq_true rfl) dX12_laysWays_111 (fun H locs hP hD hS => ?_)
            obtain ⟨hi6, hf⟩ := tc_in hf
            refine va_iald hx hb hK hP 8 1 rfl rfl hi6 dX12_laysWays_114 ?_
            refine lv_iload_n hx hb dX12_laysWays_115 rfl (lv_at hl 1 rfl) ?_
            refine lv_iconst (v := (1 : Int32)) hx hb dX12_laysWays_116 (by decide) ?_
            refine lv_isub hx hb dX12_laysWays_117 ?_
            refine lv_icmp_ne (tgt := 125) hx hb dX12_laysWays_118 (by decide) (fun hc => ?_) (fun hc => ?_)
            · have hf := tc_neg hc hf
              refine lv_iconst (v := (0 : Int32)) hx hb dX12_laysWays_125 (by decide) ?_
              refine lv_istore (lv' := [(4, .int ((0 : Int32))), (0, .ref (q 0)), (2, .int (v2)), (3, .int (v3)), (5, .int (v5)), (6, .int (v6))]) hx hb dX12_laysWays_126 hl (by decide) rfl (fun ls hl => ?_)
              refine lv_iinc (v := v6 + (1 : Int32)) (lv' := [(6, .int (v6 + (1 : Int32))), (4, .int ((0 : Int32))), (0, .ref (q 0)), (2, .int (v2)), (3, .int (v3)), (5, .int (v5))]) hx hb dX12_laysWays_128 hl (k := 5) rfl rfl (by decide) rfl (fun ls hl => ?_)
              refine lv_goto (tgt := 70) hx hb dX12_laysWays_131 (by decide) ?_
              exact ih S v2 v3 (0 : Int32) v5 (v6 + (1 : Int32)) hf _ _ _ hP hD hS (lv_sub hl [2, 3, 4, 1, 5, 0] rfl)
            · have hf := tc_pos hc hf
              refine lv_iconst (v := (1 : Int32)) hx hb dX12_laysWays_121 (by decide) ?_
              refine lv_goto (tgt := 126) hx hb dX12_laysWays_122 (by decide) ?_
              refine lv_istore (lv' := [(4, .int ((1 : Int32))), (0, .ref (q 0)), (2, .int (v2)), (3, .int (v3)), (5, .int (v5)), (6, .int (v6))]) hx hb dX12_laysWays_126 hl (by decide) rfl (fun ls hl => ?_)
              refine lv_iinc (v := v6 + (1 : Int32)) (lv' := [(6, .int (v6 + (1 : Int32))), (4, .int ((1 : Int32))), (0, .ref (q 0)), (2, .int (v2)), (3, .int (v3)), (5, .int (v5))]) hx hb dX12_laysWays_128 hl (k := 5) rfl rfl (by decide) rfl (fun ls hl => ?_)
              refine lv_goto (tgt := 70) hx hb dX12_laysWays_131 (by decide) ?_
              exact ih S v2 v3 (1 : Int32) v5 (v6 + (1 : Int32)) hf _ _ _ hP hD hS (lv_sub hl [2, 3, 4, 1, 5, 0] rfl)
set_option maxRecDepth 20000 in
theorem tX12_laysWays_56 {q : Nat → Nat}  (X : tc_X dC dI ca A RX12 cX12_laysWays 7 none p s m args meth c) (z : ms_T)   (k32 : ms_T → Int32 → Option (ms_T)) (k40 : ms_T → Int32 → Int32 → Option (ms_T)) (hk32 : ∀ (S : ms_T) (v2 : Int32), k32 S v2 = some z → ∀ (H : Heap) (locs : List Loc) (ls : Array Slot), va_P (dC, dI) classes (w12 ca q S) H → va_D A (w12 ca q S) → va_S A s.heap H locs → lv_has ls 7 [(0, .ref (q 0)), (2, .int (v2))] → W p l e rmX12_laysWays s m args below meth c H locs 0 0 (MQ below (tc_QV dC dI ca A (w12 ca q z)) args s 0 0 A) (F0 m 32 ls [])) (hk40 : ∀ (S : ms_T) (v2 : Int32) (v3 : Int32), k40 S v2 v3 = some z → ∀ (H : Heap) (locs : List Loc) (ls : Array Slot), va_P (dC, dI) classes (w12 ca q S) H → va_D A (w12 ca q S) → va_S A s.heap H locs → lv_has ls 7 [(0, .ref (q 0)), (2, .int (v2)), (3, .int (v3))] → W p l e rmX12_laysWays s m args below meth c H locs 0 0 (MQ below (tc_QV dC dI ca A (w12 ca q z)) args s 0 0 A) (F0 m 40 ls [])) : ∀ n : Nat, ∀ (S : ms_T) (v2 : Int32) (v3 : Int32) (v4 : Int32) (v5 : Int32), fX12_laysWays_56 k32 k40 n S v2 v3 v4 v5 = some z → ∀ (H : Heap) (locs : List Loc) (ls : Array Slot), va_P (dC, dI) classes (w12 ca q S) H → va_D A (w12 ca q S) → va_S A s.heap H locs → lv_has ls 7 [(0, .ref (q 0)), (2, .int (v2)), (3, .int (v3)), (4, .int (v4)), (5, .int (v5))] → W p l e rmX12_laysWays s m args below meth c H locs 0 0 (MQ below (tc_QV dC dI ca A (w12 ca q z)) args s 0 0 A) (F0 m 56 ls []) := by
  obtain ⟨hx, hb, hr, hml, hown, hts, hlk, hK, hA, hG⟩ := id X
  intro n
  induction n with
  | zero => intro S v2 v3 v4 v5 hf; exact absurd (show none = some z from hf) (fun h => by cases h)
  | succ n ih =>
    intro S v2 v3 v4 v5 hf H locs ls hP hD hS hl
    rw [fX12_laysWays_56] at hf
    refine lv_iload hx hb dX12_laysWays_56 (lv_at hl 4 rfl) ?_
    refine lv_aload_n hx hb dX12_laysWays_58 rfl (lv_at hl 0 rfl) ?_
    refine va_get (D := (dC, dI)) (ci := 12) (v := .ref (q 5)) (C := RX12) (T := TX12) (N := 49) hx hb hts i_X12 hown hK hP 0 rfl rfl 20 (by decide) (hts _ wf_X12_35) (fun _ h9 => h9) rfl dX12_laysWays_59 ?_
    refine lv_iconst (v := (1 : Int32)) hx hb dX12_laysWays_62 (by decide) ?_
    refine va_iald hx hb hK hP 5 1 rfl rfl (inb_vp (by decide)) dX12_laysWays_63 ?_
    refine lv_icmp_ge (tgt := 140) hx hb dX12_laysWays_64 (by decide) (fun hc => ?_) (fun hc => ?_)
    · have hf := tc_pos hc hf
      refine lv_iload hx hb dX12_laysWays_140 (lv_at hl 3 rfl) ?_
      refine lv_if_eq (tgt := 161) hx hb dX12_laysWays_142 (by decide) (fun hc => ?_) (fun hc => ?_)
      · have hf := tc_pos hc hf
        refine lv_iinc (v := v3 + (1 : Int32)) (lv' := [(3, .int (v3 + (1 : Int32))), (0, .ref (q 0)), (2, .int (v2)), (4, .int (v4)), (5, .int (v5))]) hx hb dX12_laysWays_161 hl (k := 2) rfl rfl (by decide) rfl (fun ls hl => ?_)
        refine lv_goto (tgt := 40) hx hb dX12_laysWays_164 (by decide) ?_
        exact hk40 S v2 (v3 + (1 : Int32)) hf _ _ _ hP hD hS (lv_sub hl [1, 2, 0] rfl)
      · have hf := tc_neg hc hf
        refine lv_aload_n hx hb dX12_laysWays_145 rfl (lv_at hl 0 rfl) ?_
        refine va_get (D := (dC, dI)) (ci := 12) (v := .ref (q 8)) (C := RX12) (T := TX12) (N := 49) hx hb hts i_X12 hown hK hP 0 rfl rfl 26 (by decide) (hts _ wf_X12_44) (fun _ h9 => h9) rfl dX12_laysWays_146 ?_
        refine lv_iload_n hx hb dX12_laysWays_149 rfl (lv_at hl 2 rfl) ?_
        obtain ⟨hi1, hf⟩ := tc_in hf
        refine va_iald hx hb hK hP 8 1 rfl rfl hi1 dX12_laysWays_150 ?_
        refine lv_if_ge (tgt := 161) hx hb dX12_laysWays_151 (by decide) (fun hc => ?_) (fun hc => ?_)
        · have hf := tc_pos hc hf
          refine lv_iinc (v := v3 + (1 : Int32)) (lv' := [(3, .int (v3 + (1 : Int32))), (0, .ref (q 0)), (2, .int (v2)), (4, .int (v4)), (5, .int (v5))]) hx hb dX12_laysWays_161 hl (k := 2) rfl rfl (by decide) rfl (fun ls hl => ?_)
          refine lv_goto (tgt := 40) hx hb dX12_laysWays_164 (by decide) ?_
          exact hk40 S v2 (v3 + (1 : Int32)) hf _ _ _ hP hD hS (lv_sub hl [1, 2, 0] rfl)
        · have hf := tc_neg hc hf
          refine lv_aload_n hx hb dX12_laysWays_154 rfl (lv_at hl 0 rfl) ?_
          refine va_get (D := (dC, dI)) (ci := 12) (v := .ref (q 8)) (C := RX12) (T := TX12) (N := 49) hx hb hts i_X12 hown hK hP 0 rfl rfl 26 (by decide) (hts _ wf_X12_44) (fun _ h9 => h9) rfl dX12_laysWays_155 ?_
          refine lv_iload_n hx hb dX12_laysWays_158 rfl (lv_at hl 2 rfl) ?_
          refine lv_iload_n hx hb dX12_laysWays_159 rfl (lv_at hl 1 rfl) ?_
          obtain ⟨hi2, hf⟩ := tc_in hf
          refine va_iast hx hb hK hP hD hS 8 1 rfl rfl hi2 dX12_laysWays_160 (fun H locs hP hD hS => ?_)
          have hP := tc_eP (aw12_0_8 ca q S v3 v2) hP
          have hD := tc_eD (aw12_0_8 ca q S v3 v2) hD
          refine lv_iinc (v := v3 + (1 : Int32)) (lv' := [(3, .int (v3 + (1 : Int32))), (0, .ref (q 0)), (2, .int (v2)), (4, .int (v4)), (5, .int (v5))]) hx hb dX12_laysWays_161 hl (k := 2) rfl rfl (by decide) rfl (fun ls hl => ?_)
          refine lv_goto (tgt := 40) hx hb dX12_laysWays_164 (by decide) ?_
          exact hk40 (sa S 8 v3 v2) v2 (v3 + (1 : Int32)) hf _ _ _ hP hD hS (lv_sub hl [1, 2, 0] rfl)
    · have hf := tc_neg hc hf
      refine lv_iconst (v := (0 : Int32)) hx hb dX12_laysWays_67 (by decide) ?_
      refine lv_istore (lv' := [(6, .int ((0 : Int32))), (0, .ref (q 0)), (2, .int (v2)), (3, .int (v3)), (4, .int (v4)), (5, .int (v5))]) hx hb dX12_laysWays_68 hl (by decide) rfl (fun ls hl => ?_)
      exact tX12_laysWays_70 X z k32 k40 (fX12_laysWays_56 k32 k40 n) hk32 hk40 ih FU S v2 v3 v4 v5 (0 : Int32) hf _ _ _ hP hD hS (lv_sub hl [1, 2, 3, 4, 5, 0] rfl)
set_option maxRecDepth 20000 in
theorem tX12_laysWays_40 {q : Nat → Nat}  (X : tc_X dC dI ca A RX12 cX12_laysWays 7 none p s m args meth c) (z : ms_T)   (k32 : ms_T → Int32 → Option (ms_T)) (hk32 : ∀ (S : ms_T) (v2 : Int32), k32 S v2 = some z → ∀ (H : Heap) (locs : List Loc) (ls : Array Slot), va_P (dC, dI) classes (w12 ca q S) H → va_D A (w12 ca q S) → va_S A s.heap H locs → lv_has ls 7 [(0, .ref (q 0)), (2, .int (v2))] → W p l e rmX12_laysWays s m args below meth c H locs 0 0 (MQ below (tc_QV dC dI ca A (w12 ca q z)) args s 0 0 A) (F0 m 32 ls [])) : ∀ n : Nat, ∀ (S : ms_T) (v2 : Int32) (v3 : Int32), fX12_laysWays_40 k32 n S v2 v3 = some z → ∀ (H : Heap) (locs : List Loc) (ls : Array Slot), va_P (dC, dI) classes (w12 ca q S) H → va_D A (w12 ca q S) → va_S A s.heap H locs → lv_has ls 7 [(0, .ref (q 0)), (2, .int (v2)), (3, .int (v3))] → W p l e rmX12_laysWays s m args below meth c H locs 0 0 (MQ below (tc_QV dC dI ca A (w12 ca q z)) args s 0 0 A) (F0 m 40 ls []) := by
  obtain ⟨hx, hb, hr, hml, hown, hts, hlk, hK, hA, hG⟩ := id X
  intro n
  induction n with
  | zero => intro S v2 v3 hf; exact absurd (show none = some z from hf) (fun h => by cases h)
  | succ n ih =>
    intro S v2 v3 hf H locs ls hP hD hS hl
    rw [fX12_laysWays_40] at hf
    refine lv_iload_n hx hb dX12_laysWays_40 rfl (lv_at hl 2 rfl) ?_
    refine lv_aload_n hx hb dX12_laysWays_41 rfl (lv_at hl 0 rfl) ?_
    refine va_get (D := (dC, dI)) (ci := 12) (v := .ref (q 5)) (C := RX12) (T := TX12) (N := 49) hx hb hts i_X12 hown hK hP 0 rfl rfl 20 (by decide) (hts _ wf_X12_35) (fun _ h9 => h9) rfl dX12_laysWays_42 ?_
    refine lv_iconst (v := (0 : Int32)) hx hb dX12_laysWays_45 (by decide) ?_
    refine va_iald hx hb hK hP 5 1 rfl rfl (inb_vp (by decide)) dX12_laysWays_46 ?_
    refine lv_icmp_gt (tgt := 167) hx hb dX12_laysWays_47 (by decide) (fun hc => ?_) (fun hc => ?_)
    · have hf := tc_pos hc hf
      refine lv_iinc (v := v2 + (1 : Int32)) (lv' := [(2, .int (v2 + (1 : Int32))), (0, .ref (q 0)), (3, .int (v3))]) hx hb dX12_laysWays_167 hl (k := 1) rfl rfl (by decide) rfl (fun ls hl => ?_)
      refine lv_goto (tgt := 32) hx hb dX12_laysWays_170 (by decide) ?_
      exact hk32 S (v2 + (1 : Int32)) hf _ _ _ hP hD hS (lv_sub hl [1, 0] rfl)
    · have hf := tc_neg hc hf
      refine lv_iconst (v := (0 : Int32)) hx hb dX12_laysWays_50 (by decide) ?_
      refine lv_istore (lv' := [(4, .int ((0 : Int32))), (0, .ref (q 0)), (2, .int (v2)), (3, .int (v3))]) hx hb dX12_laysWays_51 hl (by decide) rfl (fun ls hl => ?_)
      refine lv_iconst (v := (0 : Int32)) hx hb dX12_laysWays_53 (by decide) ?_
      refine lv_istore (lv' := [(5, .int ((0 : Int32))), (4, .int ((0 : Int32))), (0, .ref (q 0)), (2, .int (v2)), (3, .int (v3))]) hx hb dX12_laysWays_54 hl (by decide) rfl (fun ls hl => ?_)
      exact tX12_laysWays_56 X z k32 (fX12_laysWays_40 k32 n) hk32 ih FU S v2 v3 (0 : Int32) (0 : Int32) hf _ _ _ hP hD hS (lv_sub hl [2, 3, 4, 1, 0] rfl)
set_option maxRecDepth 20000 in
theorem tX12_laysWays_32 {q : Nat → Nat}  (X : tc_X dC dI ca A RX12 cX12_laysWays 7 none p s m args meth c) (z : ms_T)     : ∀ n : Nat, ∀ (S : ms_T) (v2 : Int32), fX12_laysWays_32 n S v2 = some z → ∀ (H : Heap) (locs : List Loc) (ls : Array Slot), va_P (dC, dI) classes (w12 ca q S) H → va_D A (w12 ca q S) → va_S A s.heap H locs → lv_has ls 7 [(0, .ref (q 0)), (2, .int (v2))] → W p l e rmX12_laysWays s m args below meth c H locs 0 0 (MQ below (tc_QV dC dI ca A (w12 ca q z)) args s 0 0 A) (F0 m 32 ls []) := by
  obtain ⟨hx, hb, hr, hml, hown, hts, hlk, hK, hA, hG⟩ := id X
  intro n
  induction n with
  | zero => intro S v2 hf; exact absurd (show none = some z from hf) (fun h => by cases h)
  | succ n ih =>
    intro S v2 hf H locs ls hP hD hS hl
    rw [fX12_laysWays_32] at hf
    refine lv_iload_n hx hb dX12_laysWays_32 rfl (lv_at hl 1 rfl) ?_
    refine lv_bipush (v := (9 : Int32)) hx hb dX12_laysWays_33 (by decide) ?_
    refine lv_icmp_gt (tgt := 173) hx hb dX12_laysWays_35 (by decide) (fun hc => ?_) (fun hc => ?_)
    · have hf := tc_pos hc hf
      obtain rfl := Option.some.inj hf
      exact tc_rv X hP hD hS rfl dX12_laysWays_173 rfl
    · have hf := tc_neg hc hf
      refine lv_iconst (v := (1 : Int32)) hx hb dX12_laysWays_38 (by decide) ?_
      refine lv_istore_n (lv' := [(3, .int ((1 : Int32))), (0, .ref (q 0)), (2, .int (v2))]) hx hb dX12_laysWays_39 rfl hl (by decide) rfl (fun ls hl => ?_)
      exact tX12_laysWays_40 X z (fX12_laysWays_32 n) ih FU S v2 (1 : Int32) hf _ _ _ hP hD hS (lv_sub hl [1, 2, 0] rfl)
set_option maxRecDepth 20000 in
theorem tX12_laysWays_2 {q : Nat → Nat}  (X : tc_X dC dI ca A RX12 cX12_laysWays 7 none p s m args meth c) (z : ms_T)     : ∀ n : Nat, ∀ (S : ms_T) (v1 : Int32) (v2 : Int32), fX12_laysWays_2 n S v1 v2 = some z → ∀ (H : Heap) (locs : List Loc) (ls : Array Slot), va_P (dC, dI) classes (w12 ca q S) H → va_D A (w12 ca q S) → va_S A s.heap H locs → lv_has ls 7 [(0, .ref (q 0)), (1, .int (v1)), (2, .int (v2))] → W p l e rmX12_laysWays s m args below meth c H locs 0 0 (MQ below (tc_QV dC dI ca A (w12 ca q z)) args s 0 0 A) (F0 m 2 ls []) := by
  obtain ⟨hx, hb, hr, hml, hown, hts, hlk, hK, hA, hG⟩ := id X
  intro n
  induction n with
  | zero => intro S v1 v2 hf; exact absurd (show none = some z from hf) (fun h => by cases h)
  | succ n ih =>
    intro S v1 v2 hf H locs ls hP hD hS hl
    rw [fX12_laysWays_2] at hf
    refine lv_iload_n hx hb dX12_laysWays_2 rfl (lv_at hl 2 rfl) ?_
    refine lv_bipush (v := (9 : Int32)) hx hb dX12_laysWays_3 (by decide) ?_
    refine lv_icmp_gt (tgt := 30) hx hb dX12_laysWays_5 (by decide) (fun hc => ?_) (fun hc => ?_)
    · have hf := tc_pos hc hf
      refine lv_iconst (v := (1 : Int32)) hx hb dX12_laysWays_30 (by decide) ?_
      refine lv_istore_n (lv' := [(2, .int ((1 : Int32))), (0, .ref (q 0)), (1, .int (v1))]) hx hb dX12_laysWays_31 rfl hl (by decide) rfl (fun ls hl => ?_)
      exact tX12_laysWays_32 X z FU S (1 : Int32) hf _ _ _ hP hD hS (lv_sub hl [1, 0] rfl)
    · have hf := tc_neg hc hf
      refine lv_aload_n hx hb dX12_laysWays_8 rfl (lv_at hl 0 rfl) ?_
      refine va_get (D := (dC, dI)) (ci := 12) (v := .ref (q 8)) (C := RX12) (T := TX12) (N := 49) hx hb hts i_X12 hown hK hP 0 rfl rfl 26 (by decide) (hts _ wf_X12_44) (fun _ h9 => h9) rfl dX12_laysWays_9 ?_
      refine lv_iload_n hx hb dX12_laysWays_12 rfl (lv_at hl 2 rfl) ?_
      refine lv_iload_n hx hb dX12_laysWays_13 rfl (lv_at hl 2 rfl) ?_
      refine lv_iload_n hx hb dX12_laysWays_14 rfl (lv_at hl 1 rfl) ?_
      refine lv_icmp_ne (tgt := 22) hx hb dX12_laysWays_15 (by decide) (fun hc => ?_) (fun hc => ?_)
      · have hf := tc_neg hc hf
        refine lv_iconst (v := (-1 : Int32)) hx hb dX12_laysWays_22 (by decide) ?_
        obtain ⟨hi7, hf⟩ := tc_in hf
        refine va_iast hx hb hK hP hD hS 8 1 rfl rfl hi7 dX12_laysWays_23 (fun H locs hP hD hS => ?_)
        have hP := tc_eP (aw12_0_8 ca q S v2 (-1 : Int32)) hP
        have hD := tc_eD (aw12_0_8 ca q S v2 (-1 : Int32)) hD
        refine lv_iinc (v := v2 + (1 : Int32)) (lv' := [(2, .int (v2 + (1 : Int32))), (0, .ref (q 0)), (1, .int (v1))]) hx hb dX12_laysWays_24 hl (k := 2) rfl rfl (by decide) rfl (fun ls hl => ?_)
        refine lv_goto (tgt := 2) hx hb dX12_laysWays_27 (by decide) ?_
        exact ih (sa S 8 v2 (-1 : Int32)) v1 (v2 + (1 : Int32)) hf _ _ _ hP hD hS (lv_sub hl [1, 2, 0] rfl)
      · have hf := tc_pos hc hf
        refine lv_iconst (v := (0 : Int32)) hx hb dX12_laysWays_18 (by decide) ?_
        refine lv_goto (tgt := 23) hx hb dX12_laysWays_19 (by decide) ?_
        obtain ⟨hi8, hf⟩ := tc_in hf
        refine va_iast hx hb hK hP hD hS 8 1 rfl rfl hi8 dX12_laysWays_23 (fun H locs hP hD hS => ?_)
        have hP := tc_eP (aw12_0_8 ca q S v2 (0 : Int32)) hP
        have hD := tc_eD (aw12_0_8 ca q S v2 (0 : Int32)) hD
        refine lv_iinc (v := v2 + (1 : Int32)) (lv' := [(2, .int (v2 + (1 : Int32))), (0, .ref (q 0)), (1, .int (v1))]) hx hb dX12_laysWays_24 hl (k := 2) rfl rfl (by decide) rfl (fun ls hl => ?_)
        refine lv_goto (tgt := 2) hx hb dX12_laysWays_27 (by decide) ?_
        exact ih (sa S 8 v2 (0 : Int32)) v1 (v2 + (1 : Int32)) hf _ _ _ hP hD hS (lv_sub hl [1, 2, 0] rfl)
set_option maxRecDepth 20000 in
theorem mX12_laysWays {q : Nat → Nat}  {S : ms_T} {a1 : Int32} {z : ms_T}  (hf : fX12_laysWays S a1 = some z) : tc_MV l dC dI ca yX12_laysWays cX12_laysWays 7 none rmX12_laysWays [.ref (q 0), .int (a1)] (w12 ca q S) (w12 ca q z) := by
  refine tc_metV (own := RX12) (by decide) rfl ?_ (Nat.le_of_ble_eq_true rfl)
  intro p e s m below meth c A X hP hD hS ls hl
  obtain ⟨hx, hb, hr, hml, hown, hts, hlk, hK, hA, hG⟩ := id X
  unfold fX12_laysWays at hf
  have hl : lv_has ls 7 [(0, .ref (q 0)), (1, .int (a1))] := hl
  refine lv_iconst (v := (0 : Int32)) hx hb dX12_laysWays_0 (by decide) ?_
  refine lv_istore_n (lv' := [(2, .int ((0 : Int32))), (0, .ref (q 0)), (1, .int (a1))]) hx hb dX12_laysWays_1 rfl hl (by decide) rfl (fun ls hl => ?_)
  exact tX12_laysWays_2 X z FU S a1 (0 : Int32) hf _ _ _ hP hD hS (lv_sub hl [1, 2, 0] rfl)
def fX12_whyNoWay  (S : ms_T) (a1 : Int32) (a2 : Int32) : Option (Int32) :=
  (fX12_isHeight S a1).bind fun z1 =>
  if z1 = 0 then
    some ((2 : Int32))
  else
    (fX12_isHeight S a2).bind fun z2 =>
    if z2 = 0 then
      some ((2 : Int32))
    else
      if a1 = 0 then
        some ((5 : Int32))
      else
        some ((0 : Int32))
abbrev rmX12_whyNoWay : Room := { frames := 2, cells := 0, slots := 0, locals := 46 }
theorem okX12_whyNoWay : tc_ok yX12_whyNoWay cX12_whyNoWay 3 (some .int) 2 := ⟨wc_X12_whyNoWay, wn_X12, by decide, by decide, by decide +kernel⟩
set_option maxRecDepth 20000 in
theorem mX12_whyNoWay {q : Nat → Nat}  {S : ms_T} {a1 : Int32} {a2 : Int32} {z : Int32}  (hf : fX12_whyNoWay S a1 a2 = some z) : tc_MI l dC dI ca yX12_whyNoWay cX12_whyNoWay 3 (some .int) rmX12_whyNoWay [.ref (q 0), .int (a1), .int (a2)] (w12 ca q S) (w12 ca q S) (z) := by
  refine tc_metI (own := RX12) (by decide) rfl ?_ (Nat.le_of_ble_eq_true rfl)
  intro p e s m below meth c A X hP hD hS ls hl
  obtain ⟨hx, hb, hr, hml, hown, hts, hlk, hK, hA, hG⟩ := id X
  unfold fX12_whyNoWay at hf
  have hl : lv_has ls 3 [(0, .ref (q 0)), (1, .int (a1)), (2, .int (a2))] := hl
  refine lv_aload_n hx hb dX12_whyNoWay_0 rfl (lv_at hl 0 rfl) ?_
  refine lv_iload_n hx hb dX12_whyNoWay_1 rfl (lv_at hl 1 rfl) ?_
  obtain ⟨z1, hg, hf⟩ := tc_bi hf
  refine tc_iVs (As := [.int (a1)]) (rest := []) (b := q 0) X hP hD hS (mX12_isHeight hg) okX12_isHeight wl_X12_399 wi_X12_isHeight ws_X12_X12_isHeight_X12_isHeight ⟨rfl, rfl, Nat.le_of_ble_eq_true rfl, Nat.le_of_ble_eq_true rfl⟩ 12 0 rfl rfl rfl hl.1 (Nat.le_of_ble_eq_true rfl) dX12_whyNoWay_2 (fun H locs hP hD hS => ?_)
  refine lv_if_eq (tgt := 16) hx hb dX12_whyNoWay_5 (by decide) (fun hc => ?_) (fun hc => ?_)
  · have hf := tc_pos hc hf
    refine lv_iconst (v := (2 : Int32)) hx hb dX12_whyNoWay_16 (by decide) ?_
    refine lv_goto (tgt := 29) hx hb dX12_whyNoWay_17 (by decide) ?_
    obtain rfl := Option.some.inj hf
    exact tc_ri X hP hD hS rfl dX12_whyNoWay_29 rfl rfl
  · have hf := tc_neg hc hf
    refine lv_aload_n hx hb dX12_whyNoWay_8 rfl (lv_at hl 0 rfl) ?_
    refine lv_iload_n hx hb dX12_whyNoWay_9 rfl (lv_at hl 2 rfl) ?_
    obtain ⟨z2, hg, hf⟩ := tc_bi hf
    refine tc_iVs (As := [.int (a2)]) (rest := []) (b := q 0) X hP hD hS (mX12_isHeight hg) okX12_isHeight wl_X12_399 wi_X12_isHeight ws_X12_X12_isHeight_X12_isHeight ⟨rfl, rfl, Nat.le_of_ble_eq_true rfl, Nat.le_of_ble_eq_true rfl⟩ 12 0 rfl rfl rfl hl.1 (Nat.le_of_ble_eq_true rfl) dX12_whyNoWay_10 (fun H locs hP hD hS => ?_)
    refine lv_if_ne (tgt := 20) hx hb dX12_whyNoWay_13 (by decide) (fun hc => ?_) (fun hc => ?_)
    · have hf := tc_neg hc hf
      refine lv_iload_n hx hb dX12_whyNoWay_20 rfl (lv_at hl 1 rfl) ?_
      refine lv_if_ne (tgt := 28) hx hb dX12_whyNoWay_21 (by decide) (fun hc => ?_) (fun hc => ?_)
      · have hf := tc_neg hc hf
        refine lv_iconst (v := (0 : Int32)) hx hb dX12_whyNoWay_28 (by decide) ?_
        obtain rfl := Option.some.inj hf
        exact tc_ri X hP hD hS rfl dX12_whyNoWay_29 rfl rfl
      · have hf := tc_pos hc hf
        refine lv_iconst (v := (5 : Int32)) hx hb dX12_whyNoWay_24 (by decide) ?_
        refine lv_goto (tgt := 29) hx hb dX12_whyNoWay_25 (by decide) ?_
        obtain rfl := Option.some.inj hf
        exact tc_ri X hP hD hS rfl dX12_whyNoWay_29 rfl rfl
    · have hf := tc_pos hc hf
      refine lv_iconst (v := (2 : Int32)) hx hb dX12_whyNoWay_16 (by decide) ?_
      refine lv_goto (tgt := 29) hx hb dX12_whyNoWay_17 (by decide) ?_
      obtain rfl := Option.some.inj hf
      exact tc_ri X hP hD hS rfl dX12_whyNoWay_29 rfl rfl
def fX12_way  (S : ms_T) (a1 : Int32) (a2 : Int32) : Option (Int32 × ms_T) :=
  (fX12_whyNoWay (si S 1 (0 : Int32)) a1 a2).bind fun z1 =>
  if (gi (si (si S 1 (0 : Int32)) 0 z1) 0) ≤ 0 then
    (fX12_laysWays (si (si S 1 (0 : Int32)) 0 z1) a2).bind fun z2 =>
    if inb a1 10 = true then
      if 0 ≤ (ia z2 8 a1) then
        if inb a1 10 = true then
          some (ia z2 8 a1, z2)
        else none
      else
        (fX12_refuse z2 (8 : Int32)).bind fun z5 =>
        some (z5.1, z5.2)
    else none
  else
    some ((-1 : Int32), si (si S 1 (0 : Int32)) 0 z1)
abbrev rmX12_way : Room := { frames := 5, cells := 0, slots := 0, locals := 117 }
theorem okX12_way : tc_ok yX12_way cX12_way 3 (some .int) 2 := ⟨wc_X12_way, wn_X12, by decide, by decide, by decide +kernel⟩
set_option maxRecDepth 20000 in
theorem mX12_way {q : Nat → Nat}  {S : ms_T} {a1 : Int32} {a2 : Int32} {z : Int32 × ms_T}  (hf : fX12_way S a1 a2 = some z) : tc_MI l dC dI ca yX12_way cX12_way 3 (some .int) rmX12_way [.ref (q 0), .int (a1), .int (a2)] (w12 ca q S) (w12 ca q z.2) (z.1) := by
  refine tc_metI (own := RX12) (by decide) rfl ?_ (Nat.le_of_ble_eq_true rfl)
  intro p e s m below meth c A X hP hD hS ls hl
  obtain ⟨hx, hb, hr, hml, hown, hts, hlk, hK, hA, hG⟩ := id X
  unfold fX12_way at hf
  have hl : lv_has ls 3 [(0, .ref (q 0)), (1, .int (a1)), (2, .int (a2))] := hl
  refine lv_aload_n hx hb dX12_way_0 rfl (lv_at hl 0 rfl) ?_
  refine lv_iconst (v := (0 : Int32)) hx hb dX12_way_1 (by decide) ?_
  refine va_put (D := (dC, dI)) (ci := 12) (v := .int ((0 : Int32))) (ty := .int) (C := RX12) (T := TX12) (N := 49) hx hb hts i_X12 tyX12 tyX12_ok nmX12 hown hK hP hD hS 0 rfl rfl 1 (by decide) (hts _ wf_X12_63) (fun _ h9 => h9) rfl (tyX12_ok 1 (by decide)) rfl rfl (Nat.le_of_ble_eq_true rfl) dX12_way_2 (fun H locs hP hD hS => ?_)
  have hP := tc_eP (pw12_0_1 ca q S (0 : Int32)) hP
  have hD := tc_eD (pw12_0_1 ca q S (0 : Int32)) hD
  refine lv_aload_n hx hb dX12_way_5 rfl (lv_at hl 0 rfl) ?_
  refine lv_aload_n hx hb dX12_way_6 rfl (lv_at hl 0 rfl) ?_
  refine lv_iload_n hx hb dX12_way_7 rfl (lv_at hl 1 rfl) ?_
  refine lv_iload_n hx hb dX12_way_8 rfl (lv_at hl 2 rfl) ?_
  obtain ⟨z1, hg, hf⟩ := tc_bi hf
  refine tc_iVs (As := [.int (a1), .int (a2)]) (rest := [.ref (q 0)]) (b := q 0) X hP hD hS (mX12_whyNoWay hg) okX12_whyNoWay wl_X12_415 wi_X12_whyNoWay ws_X12_X12_whyNoWay_X12_whyNoWay ⟨rfl, rfl, Nat.le_of_ble_eq_true rfl, Nat.le_of_ble_eq_true rfl⟩ 12 0 rfl rfl rfl hl.1 (Nat.le_of_ble_eq_true rfl) dX12_way_9 (fun H locs hP hD hS => ?_)
  refine va_put (D := (dC, dI)) (ci := 12) (v := .int (z1)) (ty := .int) (C := RX12) (T := TX12) (N := 49) hx hb hts i_X12 tyX12 tyX12_ok nmX12 hown hK hP hD hS 0 rfl rfl 0 (by decide) (hts _ wf_X12_66) (fun _ h9 => h9) rfl (tyX12_ok 0 (by decide)) rfl rfl (Nat.le_of_ble_eq_true rfl) dX12_way_12 (fun H locs hP hD hS => ?_)
  have hP := tc_eP (pw12_0_0 ca q (si S 1 (0 : Int32)) z1) hP
  have hD := tc_eD (pw12_0_0 ca q (si S 1 (0 : Int32)) z1) hD
  refine lv_aload_n hx hb dX12_way_15 rfl (lv_at hl 0 rfl) ?_
  refine va_get (D := (dC, dI)) (ci := 12) (v := .int (gi (si (si S 1 (0 : Int32)) 0 z1) 0)) (C := RX12) (T := TX12) (N := 49) hx hb hts i_X12 hown hK hP 0 rfl rfl 0 (by decide) (hts _ wf_X12_66) (fun _ h9 => h9) rfl dX12_way_16 ?_
  refine lv_if_le (tgt := 24) hx hb dX12_way_19 (by decide) (fun hc => ?_) (fun hc => ?_)
  · have hf := tc_pos hc hf
    refine lv_aload_n hx hb dX12_way_24 rfl (lv_at hl 0 rfl) ?_
    refine lv_iload_n hx hb dX12_way_25 rfl (lv_at hl 2 rfl) ?_
    obtain ⟨z2, hg, hf⟩ := tc_bi hf
    refine tc_vVs (As := [.int (a2)]) (rest := []) (b := q 0) X hP hD hS (mX12_laysWays hg) okX12_laysWays wl_X12_418 wi_X12_laysWays ws_X12_X12_laysWays_X12_laysWays ⟨rfl, rfl, Nat.le_of_ble_eq_true rfl, Nat.le_of_ble_eq_true rfl⟩ 12 0 rfl rfl rfl hl.1 (Nat.le_of_ble_eq_true rfl) dX12_way_26 (fun H locs hP hD hS => ?_)
    refine lv_aload_n hx hb dX12_way_29 rfl (lv_at hl 0 rfl) ?_
    refine va_get (D := (dC, dI)) (ci := 12) (v := .ref (q 8)) (C := RX12) (T := TX12) (N := 49) hx hb hts i_X12 hown hK hP 0 rfl rfl 26 (by decide) (hts _ wf_X12_44) (fun _ h9 => h9) rfl dX12_way_30 ?_
    refine lv_iload_n hx hb dX12_way_33 rfl (lv_at hl 1 rfl) ?_
    obtain ⟨hi3, hf⟩ := tc_in hf
    refine va_iald hx hb hK hP 8 1 rfl rfl hi3 dX12_way_34 ?_
    refine lv_if_ge (tgt := 47) hx hb dX12_way_35 (by decide) (fun hc => ?_) (fun hc => ?_)
    · have hf := tc_pos hc hf
      refine lv_aload_n hx hb dX12_way_47 rfl (lv_at hl 0 rfl) ?_
      refine va_get (D := (dC, dI)) (ci := 12) (v := .ref (q 8)) (C := RX12) (T := TX12) (N := 49) hx hb hts i_X12 hown hK hP 0 rfl rfl 26 (by decide) (hts _ wf_X12_44) (fun _ h9 => h9) rfl dX12_way_48 ?_
      refine lv_iload_n hx hb dX12_way_51 rfl (lv_at hl 1 rfl) ?_
      obtain ⟨hi4, hf⟩ := tc_in hf
      refine va_iald hx hb hK hP 8 1 rfl rfl hi4 dX12_way_52 ?_
      obtain rfl := Option.some.inj hf
      exact tc_ri X hP hD hS rfl dX12_way_53 rfl rfl
    · have hf := tc_neg hc hf
      refine lv_aload_n hx hb dX12_way_38 rfl (lv_at hl 0 rfl) ?_
      refine lv_bipush (v := (8 : Int32)) hx hb dX12_way_39 (by decide) ?_
      obtain ⟨z5, hg, hf⟩ := tc_bi hf
      refine tc_iVs (As := [.int ((8 : Int32))]) (rest := []) (b := q 0) X hP hD hS (mX12_refuse hg) okX12_refuse wl_X12_333 wi_X12_refuse ws_X12_X12_refuse_X12_refuse ⟨rfl, rfl, Nat.le_of_ble_eq_true rfl, Nat.le_of_ble_eq_true rfl⟩ 12 0 rfl rfl rfl hl.1 (Nat.le_of_ble_eq_true rfl) dX12_way_41 (fun H locs hP hD hS => ?_)
      refine lv_goto (tgt := 53) hx hb dX12_way_44 (by decide) ?_
      obtain rfl := Option.some.inj hf
      exact tc_ri X hP hD hS rfl dX12_way_53 rfl rfl
  · have hf := tc_neg hc hf
    refine lv_iconst (v := (-1 : Int32)) hx hb dX12_way_22 (by decide) ?_
    obtain rfl := Option.some.inj hf
    exact tc_ri X hP hD hS rfl dX12_way_23 rfl rfl
def fX12_firstSaying_14  (S : ms_T) (k2 : Int32 → Int32 → Option (Int32)) : Nat → Int32 → Int32 → Int32 → Option (Int32)
  | 0, _, _, _ => none
  | n + 1, v1, v2, v3 =>
    if (3 : Int32) < v3 then
      k2 v1 (v2 + (1 : Int32))
    else
      (fX12_isNearTo S v1 v2).bind fun z1 =>
      if z1 = 0 then
        k2 v1 (v2 + (1 : Int32))
      else
        (fX12_endOf S v2 v3).bind fun z2 =>
        if z2 < 0 then
          fX12_firstSaying_14 S k2 n v1 v2 (v3 + (1 : Int32))
        else
          if inb z2 10 = true then
            if inb v1 10 = true then
              if (ia S 8 z2) = ((ia S 8 v1) - (1 : Int32)) then
                some (((4 : Int32) * v2) + v3)
              else
                fX12_firstSaying_14 S k2 n v1 v2 (v3 + (1 : Int32))
            else none
          else none
def fX12_firstSaying_2  (S : ms_T)  : Nat → Int32 → Int32 → Option (Int32)
  | 0, _, _ => none
  | n + 1, v1, v2 =>
    if (ia S 5 (1 : Int32)) ≤ v2 then
      some ((-1 : Int32))
    else
      fX12_firstSaying_14 S (fX12_firstSaying_2 S n) FU v1 v2 (0 : Int32)
def fX12_firstSaying  (S : ms_T) (a1 : Int32) : Option (Int32) :=
  fX12_firstSaying_2 S FU a1 (0 : Int32)
abbrev rmX12_firstSaying : Room := { frames := 4, cells := 0, slots := 0, locals := 91 }
theorem okX12_firstSaying : tc_ok yX12_firstSaying cX12_firstSaying 5 (some .int) 1 := ⟨wc_X12_firstSaying, wn_X12, by decide, by decide, by decide +kernel⟩
set_option maxRecDepth 20000 in
theorem tX12_firstSaying_14 {q : Nat → Nat}  (X : tc_X dC dI ca A RX12 cX12_firstSaying 5 (some .int) p s m args meth c) (z : Int32)  (S : ms_T) (k2 : Int32 → Int32 → Option (Int32)) (hk2 : ∀ (v1 : Int32) (v2 : Int32), k2 v1 v2 = some z → ∀ (H : Heap) (locs : List Loc) (ls : Array Slot), va_P (dC, dI) classes (w12 ca q S) H → va_D A (w12 ca q S) → va_S A s.heap H locs → lv_has ls 5 [(0, .ref (q 0)), (1, .int (v1)), (2, .int (v2))] → W p l e rmX12_firstSaying s m args below meth c H locs 0 0 (MQ below (tc_QI dC dI ca A (w12 ca q S) (z)) args s 0 0 A) (F0 m 2 ls [])) : ∀ n : Nat, ∀ (v1 : Int32) (v2 : Int32) (v3 : Int32), fX12_firstSaying_14 S k2 n v1 v2 v3 = some z → ∀ (H : Heap) (locs : List Loc) (ls : Array Slot), va_P (dC, dI) classes (w12 ca q S) H → va_D A (w12 ca q S) → va_S A s.heap H locs → lv_has ls 5 [(0, .ref (q 0)), (1, .int (v1)), (2, .int (v2)), (3, .int (v3))] → W p l e rmX12_firstSaying s m args below meth c H locs 0 0 (MQ below (tc_QI dC dI ca A (w12 ca q S) (z)) args s 0 0 A) (F0 m 14 ls []) := by
  obtain ⟨hx, hb, hr, hml, hown, hts, hlk, hK, hA, hG⟩ := id X
  intro n
  induction n with
  | zero => intro v1 v2 v3 hf; exact absurd (show none = some z from hf) (fun h => by cases h)
  | succ n ih =>
    intro v1 v2 v3 hf H locs ls hP hD hS hl
    rw [fX12_firstSaying_14] at hf
    refine lv_iload_n hx hb dX12_firstSaying_14 rfl (lv_at hl 3 rfl) ?_
    refine lv_iconst (v := (3 : Int32)) hx hb dX12_firstSaying_15 (by decide) ?_
    refine lv_icmp_gt (tgt := 71) hx hb dX12_firstSaying_16 (by decide) (fun hc => ?_) (fun hc => ?_)
    · have hf := tc_pos hc hf
      refine lv_iinc (v := v2 + (1 : Int32)) (lv' := [(2, .int (v2 + (1 : Int32))), (0, .ref (q 0)), (1, .int (v1)), (3, .int (v3))]) hx hb dX12_firstSaying_71 hl (k := 2) rfl rfl (by decide) rfl (fun ls hl => ?_)
      refine lv_goto (tgt := 2) hx hb dX12_firstSaying_74 (by decide) ?_
      exact hk2 v1 (v2 + (1 : Int32)) hf _ _ _ hP hD hS (lv_sub hl [1, 2, 0] rfl)
    · have hf := tc_neg hc hf
      refine lv_aload_n hx hb dX12_firstSaying_19 rfl (lv_at hl 0 rfl) ?_
      refine lv_iload_n hx hb dX12_firstSaying_20 rfl (lv_at hl 1 rfl) ?_
      refine lv_iload_n hx hb dX12_firstSaying_21 rfl (lv_at hl 2 rfl) ?_
      obtain ⟨z1, hg, hf⟩ := tc_bi hf
      refine tc_iVs (As := [.int (v1), .int (v2)]) (rest := []) (b := q 0) X hP hD hS (mX12_isNearTo hg) okX12_isNearTo wl_X12_409 wi_X12_isNearTo ws_X12_X12_isNearTo_X12_isNearTo ⟨rfl, rfl, Nat.le_of_ble_eq_true rfl, Nat.le_of_ble_eq_true rfl⟩ 12 0 rfl rfl rfl hl.1 (Nat.le_of_ble_eq_true rfl) dX12_firstSaying_22 (fun H locs hP hD hS => ?_)
      refine lv_if_eq (tgt := 71) hx hb dX12_firstSaying_25 (by decide) (fun hc => ?_) (fun hc => ?_)
      · have hf := tc_pos hc hf
        refine lv_iinc (v := v2 + (1 : Int32)) (lv' := [(2, .int (v2 + (1 : Int32))), (0, .ref (q 0)), (1, .int (v1)), (3, .int (v3))]) hx hb dX12_firstSaying_71 hl (k := 2) rfl rfl (by decide) rfl (fun ls hl => ?_)
        refine lv_goto (tgt := 2) hx hb dX12_firstSaying_74 (by decide) ?_
        exact hk2 v1 (v2 + (1 : Int32)) hf _ _ _ hP hD hS (lv_sub hl [1, 2, 0] rfl)
      · have hf := tc_neg hc hf
        refine lv_aload_n hx hb dX12_firstSaying_28 rfl (lv_at hl 0 rfl) ?_
        refine lv_iload_n hx hb dX12_firstSaying_29 rfl (lv_at hl 2 rfl) ?_
        refine lv_iload_n hx hb dX12_firstSaying_30 rfl (lv_at hl 3 rfl) ?_
        obtain ⟨z2, hg, hf⟩ := tc_bi hf
        refine tc_iVs (As := [.int (v2), .int (v3)]) (rest := []) (b := q 0) X hP hD hS (mX12_endOf hg) okX12_endOf wl_X12_412 wi_X12_endOf ws_X12_X12_endOf_X12_endOf ⟨rfl, rfl, Nat.le_of_ble_eq_true rfl, Nat.le_of_ble_eq_true rfl⟩ 12 0 rfl rfl rfl hl.1 (Nat.le_of_ble_eq_true rfl) dX12_firstSaying_31 (fun H locs hP hD hS => ?_)
        refine lv_istore (lv' := [(4, .int (z2)), (0, .ref (q 0)), (1, .int (v1)), (2, .int (v2)), (3, .int (v3))]) hx hb dX12_firstSaying_34 hl (by decide) rfl (fun ls hl => ?_)
        refine lv_iload hx hb dX12_firstSaying_36 (lv_at hl 0 rfl) ?_
        refine lv_if_lt (tgt := 65) hx hb dX12_firstSaying_38 (by decide) (fun hc => ?_) (fun hc => ?_)
        · have hf := tc_pos hc hf
          refine lv_iinc (v := v3 + (1 : Int32)) (lv' := [(3, .int (v3 + (1 : Int32))), (4, .int (z2)), (0, .ref (q 0)), (1, .int (v1)), (2, .int (v2))]) hx hb dX12_firstSaying_65 hl (k := 4) rfl rfl (by decide) rfl (fun ls hl => ?_)
          refine lv_goto (tgt := 14) hx hb dX12_firstSaying_68 (by decide) ?_
          exact ih v1 v2 (v3 + (1 : Int32)) hf _ _ _ hP hD hS (lv_sub hl [2, 3, 4, 0] rfl)
        · have hf := tc_neg hc hf
          refine lv_aload_n hx hb dX12_firstSaying_41 rfl (lv_at hl 1 rfl) ?_
          refine va_get (D := (dC, dI)) (ci := 12) (v := .ref (q 8)) (C := RX12) (T := TX12) (N := 49) hx hb hts i_X12 hown hK hP 0 rfl rfl 26 (by decide) (hts _ wf_X12_44) (fun _ h9 => h9) rfl dX12_firstSaying_42 ?_
          refine lv_iload hx hb dX12_firstSaying_45 (lv_at hl 0 rfl) ?_
          obtain ⟨hi3, hf⟩ := tc_in hf
          refine va_iald hx hb hK hP 8 1 rfl rfl hi3 dX12_firstSaying_47 ?_
          refine lv_aload_n hx hb dX12_firstSaying_48 rfl (lv_at hl 1 rfl) ?_
          refine va_get (D := (dC, dI)) (ci := 12) (v := .ref (q 8)) (C := RX12) (T := TX12) (N := 49) hx hb hts i_X12 hown hK hP 0 rfl rfl 26 (by decide) (hts _ wf_X12_44) (fun _ h9 => h9) rfl dX12_firstSaying_49 ?_
          refine lv_iload_n hx hb dX12_firstSaying_52 rfl (lv_at hl 2 rfl) ?_
          obtain ⟨hi4, hf⟩ := tc_in hf
          refine va_iald hx hb hK hP 8 1 rfl rfl hi4 dX12_firstSaying_53 ?_
          refine lv_iconst (v := (1 : Int32)) hx hb dX12_firstSaying_54 (by decide) ?_
          refine lv_isub hx hb dX12_firstSaying_55 ?_
          refine lv_icmp_ne (tgt := 65) hx hb dX12_firstSaying_56 (by decide) (fun hc => ?_) (fun hc => ?_)
          · have hf := tc_neg hc hf
            refine lv_iinc (v := v3 + (1 : Int32)) (lv' := [(3, .int (v3 + (1 : Int32))), (4, .int (z2)), (0, .ref (q 0)), (1, .int (v1)), (2, .int (v2))]) hx hb dX12_firstSaying_65 hl (k := 4) rfl rfl (by decide) rfl (fun ls hl => ?_)
            refine lv_goto (tgt := 14) hx hb dX12_firstSaying_68 (by decide) ?_
            exact ih v1 v2 (v3 + (1 : Int32)) hf _ _ _ hP hD hS (lv_sub hl [2, 3, 4, 0] rfl)
          · have hf := tc_pos hc hf
            refine lv_iconst (v := (4 : Int32)) hx hb dX12_firstSaying_59 (by decide) ?_
            refine lv_iload_n hx hb dX12_firstSaying_60 rfl (lv_at hl 3 rfl) ?_
            refine lv_imul hx hb dX12_firstSaying_61 ?_
            refine lv_iload_n hx hb dX12_firstSaying_62 rfl (lv_at hl 4 rfl) ?_
            refine lv_iadd hx hb dX12_firstSaying_63 ?_
            obtain rfl := Option.some.inj hf
            exact tc_ri X hP hD hS rfl dX12_firstSaying_64 rfl rfl
set_option maxRecDepth 20000 in
theorem tX12_firstSaying_2 {q : Nat → Nat}  (X : tc_X dC dI ca A RX12 cX12_firstSaying 5 (some .int) p s m args meth c) (z : Int32)  (S : ms_T)   : ∀ n : Nat, ∀ (v1 : Int32) (v2 : Int32), fX12_firstSaying_2 S n v1 v2 = some z → ∀ (H : Heap) (locs : List Loc) (ls : Array Slot), va_P (dC, dI) classes (w12 ca q S) H → va_D A (w12 ca q S) → va_S A s.heap H locs → lv_has ls 5 [(0, .ref (q 0)), (1, .int (v1)), (2, .int (v2))] → W p l e rmX12_firstSaying s m args below meth c H locs 0 0 (MQ below (tc_QI dC dI ca A (w12 ca q S) (z)) args s 0 0 A) (F0 m 2 ls []) := by
  obtain ⟨hx, hb, hr, hml, hown, hts, hlk, hK, hA, hG⟩ := id X
  intro n
  induction n with
  | zero => intro v1 v2 hf; exact absurd (show none = some z from hf) (fun h => by cases h)
  | succ n ih =>
    intro v1 v2 hf H locs ls hP hD hS hl
    rw [fX12_firstSaying_2] at hf
    refine lv_iload_n hx hb dX12_firstSaying_2 rfl (lv_at hl 2 rfl) ?_
    refine lv_aload_n hx hb dX12_firstSaying_3 rfl (lv_at hl 0 rfl) ?_
    refine va_get (D := (dC, dI)) (ci := 12) (v := .ref (q 5)) (C := RX12) (T := TX12) (N := 49) hx hb hts i_X12 hown hK hP 0 rfl rfl 20 (by decide) (hts _ wf_X12_35) (fun _ h9 => h9) rfl dX12_firstSaying_4 ?_
    refine lv_iconst (v := (1 : Int32)) hx hb dX12_firstSaying_7 (by decide) ?_
    refine va_iald hx hb hK hP 5 1 rfl rfl (inb_vp (by decide)) dX12_firstSaying_8 ?_
    refine lv_icmp_ge (tgt := 77) hx hb dX12_firstSaying_9 (by decide) (fun hc => ?_) (fun hc => ?_)
    · have hf := tc_pos hc hf
      refine lv_iconst (v := (-1 : Int32)) hx hb dX12_firstSaying_77 (by decide) ?_
      obtain rfl := Option.some.inj hf
      exact tc_ri X hP hD hS rfl dX12_firstSaying_78 rfl rfl
    · have hf := tc_neg hc hf
      refine lv_iconst (v := (0 : Int32)) hx hb dX12_firstSaying_12 (by decide) ?_
      refine lv_istore_n (lv' := [(3, .int ((0 : Int32))), (0, .ref (q 0)), (1, .int (v1)), (2, .int (v2))]) hx hb dX12_firstSaying_13 rfl hl (by decide) rfl (fun ls hl => ?_)
      exact tX12_firstSaying_14 X z S (fX12_firstSaying_2 S n) ih FU v1 v2 (0 : Int32) hf _ _ _ hP hD hS (lv_sub hl [1, 2, 3, 0] rfl)
set_option maxRecDepth 20000 in
theorem mX12_firstSaying {q : Nat → Nat}  {S : ms_T} {a1 : Int32} {z : Int32}  (hf : fX12_firstSaying S a1 = some z) : tc_MI l dC dI ca yX12_firstSaying cX12_firstSaying 5 (some .int) rmX12_firstSaying [.ref (q 0), .int (a1)] (w12 ca q S) (w12 ca q S) (z) := by
  refine tc_metI (own := RX12) (by decide) rfl ?_ (Nat.le_of_ble_eq_true rfl)
  intro p e s m below meth c A X hP hD hS ls hl
  obtain ⟨hx, hb, hr, hml, hown, hts, hlk, hK, hA, hG⟩ := id X
  unfold fX12_firstSaying at hf
  have hl : lv_has ls 5 [(0, .ref (q 0)), (1, .int (a1))] := hl
  refine lv_iconst (v := (0 : Int32)) hx hb dX12_firstSaying_0 (by decide) ?_
  refine lv_istore_n (lv' := [(2, .int ((0 : Int32))), (0, .ref (q 0)), (1, .int (a1))]) hx hb dX12_firstSaying_1 rfl hl (by decide) rfl (fun ls hl => ?_)
  exact tX12_firstSaying_2 X z S FU a1 (0 : Int32) hf _ _ _ hP hD hS (lv_sub hl [1, 2, 0] rfl)
def fX12_wayAt_88    : Nat → ms_T → Int32 → Int32 → Int32 → Int32 → Int32 → Option (Int32 × ms_T)
  | 0, _, _, _, _, _, _ => none
  | n + 1, S, v3, v4, v5, v6, v7 =>
    if v3 < v7 then
      if v4 = 0 then
        some (v6 / (4 : Int32), S)
      else
        if v4 = (1 : Int32) then
          some (v6 - v6 / (4 : Int32) * (4 : Int32), S)
        else
          some (v5, S)
    else
      (fX12_firstSaying S v5).bind fun z5 =>
      (fX12_endOf S (z5 / (4 : Int32)) (z5 - z5 / (4 : Int32) * (4 : Int32))).bind fun z6 =>
      fX12_wayAt_88 n S v3 v4 z6 z5 (v7 + (1 : Int32))
def fX12_wayAt_40    (S : ms_T) (v1 : Int32) (v2 : Int32) (v3 : Int32) (v4 : Int32) : Option (Int32 × ms_T) :=
  if (gi S 0) ≤ 0 then
    (fX12_laysWays S v2).bind fun z2 =>
    if inb v1 10 = true then
      (fX12_isIn v3.toInt64 (0 : Int64) (((ia z2 8 v1) - (1 : Int32)).toInt64)).bind fun z4 =>
      if z4 = 0 then
        (fX12_refuse z2 (8 : Int32)).bind fun z7 =>
        some (z7.1, z7.2)
      else
        fX12_wayAt_88 FU z2 v3 v4 v1 (0 : Int32) (0 : Int32)
    else none
  else
    some ((-1 : Int32), S)
def fX12_wayAt  (S : ms_T) (a1 : Int32) (a2 : Int32) (a3 : Int32) (a4 : Int32) : Option (Int32 × ms_T) :=
  (fX12_whyNoWay (si S 1 (0 : Int32)) a1 a2).bind fun z1 =>
  if (gi (si (si S 1 (0 : Int32)) 0 z1) 0) = 0 then
    (fX12_isIn a4.toInt64 (0 : Int64) (2 : Int64)).bind fun z8 =>
    if z8 = 0 then
      fX12_wayAt_40 (si (si (si S 1 (0 : Int32)) 0 z1) 0 (5 : Int32)) a1 a2 a3 a4
    else
      fX12_wayAt_40 (si (si S 1 (0 : Int32)) 0 z1) a1 a2 a3 a4
  else
    fX12_wayAt_40 (si (si S 1 (0 : Int32)) 0 z1) a1 a2 a3 a4
abbrev rmX12_wayAt : Room := { frames := 5, cells := 0, slots := 0, locals := 117 }
theorem okX12_wayAt : tc_ok yX12_wayAt cX12_wayAt 8 (some .int) 4 := ⟨wc_X12_wayAt, wn_X12, by decide, by decide, by decide +kernel⟩
set_option maxRecDepth 20000 in
theorem tX12_wayAt_88 {q : Nat → Nat}  (X : tc_X dC dI ca A RX12 cX12_wayAt 8 (some .int) p s m args meth c) (z : Int32 × ms_T)     : ∀ n : Nat, ∀ (S : ms_T) (v3 : Int32) (v4 : Int32) (v5 : Int32) (v6 : Int32) (v7 : Int32), fX12_wayAt_88 n S v3 v4 v5 v6 v7 = some z → ∀ (H : Heap) (locs : List Loc) (ls : Array Slot), va_P (dC, dI) classes (w12 ca q S) H → va_D A (w12 ca q S) → va_S A s.heap H locs → lv_has ls 8 [(0, .ref (q 0)), (3, .int (v3)), (4, .int (v4)), (5, .int (v5)), (6, .int (v6)), (7, .int (v7))] → W p l e rmX12_wayAt s m args below meth c H locs 0 0 (MQ below (tc_QI dC dI ca A (w12 ca q z.2) (z.1)) args s 0 0 A) (F0 m 88 ls []) := by
  obtain ⟨hx, hb, hr, hml, hown, hts, hlk, hK, hA, hG⟩ := id X
  intro n
  induction n with
  | zero => intro S v3 v4 v5 v6 v7 hf; exact absurd (show none = some z from hf) (fun h => by cases h)
  | succ n ih =>
    intro S v3 v4 v5 v6 v7 hf H locs ls hP hD hS hl
    rw [fX12_wayAt_88] at hf
    refine lv_iload hx hb dX12_wayAt_88 (lv_at hl 5 rfl) ?_
    refine lv_iload_n hx hb dX12_wayAt_90 rfl (lv_at hl 1 rfl) ?_
    refine lv_icmp_gt (tgt := 122) hx hb dX12_wayAt_91 (by decide) (fun hc => ?_) (fun hc => ?_)
    · have hf := tc_pos hc hf
      refine lv_iload hx hb dX12_wayAt_122 (lv_at hl 2 rfl) ?_
      refine lv_if_ne (tgt := 134) hx hb dX12_wayAt_124 (by decide) (fun hc => ?_) (fun hc => ?_)
      · have hf := tc_neg hc hf
        refine lv_iload hx hb dX12_wayAt_134 (lv_at hl 2 rfl) ?_
        refine lv_iconst (v := (1 : Int32)) hx hb dX12_wayAt_136 (by decide) ?_
        refine lv_icmp_ne (tgt := 147) hx hb dX12_wayAt_137 (by decide) (fun hc => ?_) (fun hc => ?_)
        · have hf := tc_neg hc hf
          refine lv_iload hx hb dX12_wayAt_147 (lv_at hl 3 rfl) ?_
          obtain rfl := Option.some.inj hf
          exact tc_ri X hP hD hS rfl dX12_wayAt_149 rfl rfl
        · have hf := tc_pos hc hf
          refine lv_iload hx hb dX12_wayAt_140 (lv_at hl 4 rfl) ?_
          refine lv_iconst (v := (4 : Int32)) hx hb dX12_wayAt_142 (by decide) ?_
          refine lv_irem hx hb dX12_wayAt_143 (by decide) ?_
          refine lv_goto (tgt := 149) hx hb dX12_wayAt_144 (by decide) ?_
          obtain rfl := Option.some.inj hf
          exact tc_ri X hP hD hS rfl dX12_wayAt_149 rfl rfl
      · have hf := tc_pos hc hf
        refine lv_iload hx hb dX12_wayAt_127 (lv_at hl 4 rfl) ?_
        refine lv_iconst (v := (4 : Int32)) hx hb dX12_wayAt_129 (by decide) ?_
        refine lv_idiv hx hb dX12_wayAt_130 (by decide) ?_
        refine lv_goto (tgt := 149) hx hb dX12_wayAt_131 (by decide) ?_
        obtain rfl := Option.some.inj hf
        exact tc_ri X hP hD hS rfl dX12_wayAt_149 rfl rfl
    · have hf := tc_neg hc hf
      refine lv_aload_n hx hb dX12_wayAt_94 rfl (lv_at hl 0 rfl) ?_
      refine lv_iload hx hb dX12_wayAt_95 (lv_at hl 3 rfl) ?_
      obtain ⟨z5, hg, hf⟩ := tc_bi hf
      refine tc_iVs (As := [.int (v5)]) (rest := []) (b := q 0) X hP hD hS (mX12_firstSaying hg) okX12_firstSaying wl_X12_423 wi_X12_firstSaying ws_X12_X12_firstSaying_X12_firstSaying ⟨rfl, rfl, Nat.le_of_ble_eq_true rfl, Nat.le_of_ble_eq_true rfl⟩ 12 0 rfl rfl rfl hl.1 (Nat.le_of_ble_eq_true rfl) dX12_wayAt_97 (fun H locs hP hD hS => ?_)
      refine lv_istore (lv' := [(6, .int (z5)), (0, .ref (q 0)), (3, .int (v3)), (4, .int (v4)), (5, .int (v5)), (7, .int (v7))]) hx hb dX12_wayAt_100 hl (by decide) rfl (fun ls hl => ?_)
      refine lv_aload_n hx hb dX12_wayAt_102 rfl (lv_at hl 1 rfl) ?_
      refine lv_iload hx hb dX12_wayAt_103 (lv_at hl 0 rfl) ?_
      refine lv_iconst (v := (4 : Int32)) hx hb dX12_wayAt_105 (by decide) ?_
      refine lv_idiv hx hb dX12_wayAt_106 (by decide) ?_
      refine lv_iload hx hb dX12_wayAt_107 (lv_at hl 0 rfl) ?_
      refine lv_iconst (v := (4 : Int32)) hx hb dX12_wayAt_109 (by decide) ?_
      refine lv_irem hx hb dX12_wayAt_110 (by decide) ?_
      obtain ⟨z6, hg, hf⟩ := tc_bi hf
      refine tc_iVs (As := [.int (z5 / (4 : Int32)), .int (z5 - z5 / (4 : Int32) * (4 : Int32))]) (rest := []) (b := q 0) X hP hD hS (mX12_endOf hg) okX12_endOf wl_X12_412 wi_X12_endOf ws_X12_X12_endOf_X12_endOf ⟨rfl, rfl, Nat.le_of_ble_eq_true rfl, Nat.le_of_ble_eq_true rfl⟩ 12 0 rfl rfl rfl hl.1 (Nat.le_of_ble_eq_true rfl) dX12_wayAt_111 (fun H locs hP hD hS => ?_)
      refine lv_istore (lv' := [(5, .int (z6)), (6, .int (z5)), (0, .ref (q 0)), (3, .int (v3)), (4, .int (v4)), (7, .int (v7))]) hx hb dX12_wayAt_114 hl (by decide) rfl (fun ls hl => ?_)
      refine lv_iinc (v := v7 + (1 : Int32)) (lv' := [(7, .int (v7 + (1 : Int32))), (5, .int (z6)), (6, .int (z5)), (0, .ref (q 0)), (3, .int (v3)), (4, .int (v4))]) hx hb dX12_wayAt_116 hl (k := 5) rfl rfl (by decide) rfl (fun ls hl => ?_)
      refine lv_goto (tgt := 88) hx hb dX12_wayAt_119 (by decide) ?_
      exact ih S v3 v4 z6 z5 (v7 + (1 : Int32)) hf _ _ _ hP hD hS (lv_sub hl [3, 4, 5, 1, 2, 0] rfl)
set_option maxRecDepth 20000 in
theorem tX12_wayAt_40 {q : Nat → Nat}  (X : tc_X dC dI ca A RX12 cX12_wayAt 8 (some .int) p s m args meth c) (z : Int32 × ms_T)     : ∀ (S : ms_T) (v1 : Int32) (v2 : Int32) (v3 : Int32) (v4 : Int32), fX12_wayAt_40 S v1 v2 v3 v4 = some z → ∀ (H : Heap) (locs : List Loc) (ls : Array Slot), va_P (dC, dI) classes (w12 ca q S) H → va_D A (w12 ca q S) → va_S A s.heap H locs → lv_has ls 8 [(0, .ref (q 0)), (1, .int (v1)), (2, .int (v2)), (3, .int (v3)), (4, .int (v4))] → W p l e rmX12_wayAt s m args below meth c H locs 0 0 (MQ below (tc_QI dC dI ca A (w12 ca q z.2) (z.1)) args s 0 0 A) (F0 m 40 ls []) := by
  obtain ⟨hx, hb, hr, hml, hown, hts, hlk, hK, hA, hG⟩ := id X
  intro S v1 v2 v3 v4 hf H locs ls hP hD hS hl
  unfold fX12_wayAt_40 at hf
  refine lv_aload_n hx hb dX12_wayAt_40 rfl (lv_at hl 0 rfl) ?_
  refine va_get (D := (dC, dI)) (ci := 12) (v := .int (gi S 0)) (C := RX12) (T := TX12) (N := 49) hx hb hts i_X12 hown hK hP 0 rfl rfl 0 (by decide) (hts _ wf_X12_66) (fun _ h9 => h9) rfl dX12_wayAt_41 ?_
  refine lv_if_le (tgt := 49) hx hb dX12_wayAt_44 (by decide) (fun hc => ?_) (fun hc => ?_)
  · have hf := tc_pos hc hf
    refine lv_aload_n hx hb dX12_wayAt_49 rfl (lv_at hl 0 rfl) ?_
    refine lv_iload_n hx hb dX12_wayAt_50 rfl (lv_at hl 2 rfl) ?_
    obtain ⟨z2, hg, hf⟩ := tc_bi hf
    refine tc_vVs (As := [.int (v2)]) (rest := []) (b := q 0) X hP hD hS (mX12_laysWays hg) okX12_laysWays wl_X12_418 wi_X12_laysWays ws_X12_X12_laysWays_X12_laysWays ⟨rfl, rfl, Nat.le_of_ble_eq_true rfl, Nat.le_of_ble_eq_true rfl⟩ 12 0 rfl rfl rfl hl.1 (Nat.le_of_ble_eq_true rfl) dX12_wayAt_51 (fun H locs hP hD hS => ?_)
    refine lv_iload_n hx hb dX12_wayAt_54 rfl (lv_at hl 3 rfl) ?_
    refine lv_i2l (v := v3.toInt64) hx hb dX12_wayAt_55 rfl ?_
    refine lv_lconst (v := (0 : Int64)) hx hb dX12_wayAt_56 (by decide) ?_
    refine lv_aload_n hx hb dX12_wayAt_57 rfl (lv_at hl 0 rfl) ?_
    refine va_get (D := (dC, dI)) (ci := 12) (v := .ref (q 8)) (C := RX12) (T := TX12) (N := 49) hx hb hts i_X12 hown hK hP 0 rfl rfl 26 (by decide) (hts _ wf_X12_44) (fun _ h9 => h9) rfl dX12_wayAt_58 ?_
    refine lv_iload_n hx hb dX12_wayAt_61 rfl (lv_at hl 1 rfl) ?_
    obtain ⟨hi3, hf⟩ := tc_in hf
    refine va_iald hx hb hK hP 8 1 rfl rfl hi3 dX12_wayAt_62 ?_
    refine lv_iconst (v := (1 : Int32)) hx hb dX12_wayAt_63 (by decide) ?_
    refine lv_isub hx hb dX12_wayAt_64 ?_
    refine lv_i2l (v := ((ia z2 8 v1) - (1 : Int32)).toInt64) hx hb dX12_wayAt_65 rfl ?_
    obtain ⟨z4, hg, hf⟩ := tc_bi hf
    refine tc_iS0 (As := [.long (v3.toInt64), .long ((0 : Int64)), .long (((ia z2 8 v1) - (1 : Int32)).toInt64)]) (rest := []) X hP hD hS (mX12_isIn hg) okX12_isIn wl_X12_98 wt_X12_isIn ⟨rfl, rfl, Nat.le_of_ble_eq_true rfl, Nat.le_of_ble_eq_true rfl⟩ rfl hl.1 (Nat.le_of_ble_eq_true rfl) dX12_wayAt_66 (fun H locs hP hD hS => ?_)
    refine lv_if_ne (tgt := 79) hx hb dX12_wayAt_69 (by decide) (fun hc => ?_) (fun hc => ?_)
    · have hf := tc_neg hc hf
      refine lv_iload_n hx hb dX12_wayAt_79 rfl (lv_at hl 1 rfl) ?_
      refine lv_istore (lv' := [(5, .int (v1)), (0, .ref (q 0)), (1, .int (v1)), (2, .int (v2)), (3, .int (v3)), (4, .int (v4))]) hx hb dX12_wayAt_80 hl (by decide) rfl (fun ls hl => ?_)
      refine lv_iconst (v := (0 : Int32)) hx hb dX12_wayAt_82 (by decide) ?_
      refine lv_istore (lv' := [(6, .int ((0 : Int32))), (5, .int (v1)), (0, .ref (q 0)), (1, .int (v1)), (2, .int (v2)), (3, .int (v3)), (4, .int (v4))]) hx hb dX12_wayAt_83 hl (by decide) rfl (fun ls hl => ?_)
      refine lv_iconst (v := (0 : Int32)) hx hb dX12_wayAt_85 (by decide) ?_
      refine lv_istore (lv' := [(7, .int ((0 : Int32))), (6, .int ((0 : Int32))), (5, .int (v1)), (0, .ref (q 0)), (1, .int (v1)), (2, .int (v2)), (3, .int (v3)), (4, .int (v4))]) hx hb dX12_wayAt_86 hl (by decide) rfl (fun ls hl => ?_)
      exact tX12_wayAt_88 X z FU z2 v3 v4 v1 (0 : Int32) (0 : Int32) hf _ _ _ hP hD hS (lv_sub hl [3, 6, 7, 2, 1, 0] rfl)
    · have hf := tc_pos hc hf
      refine lv_aload_n hx hb dX12_wayAt_72 rfl (lv_at hl 0 rfl) ?_
      refine lv_bipush (v := (8 : Int32)) hx hb dX12_wayAt_73 (by decide) ?_
      obtain ⟨z7, hg, hf⟩ := tc_bi hf
      refine tc_iVs (As := [.int ((8 : Int32))]) (rest := []) (b := q 0) X hP hD hS (mX12_refuse hg) okX12_refuse wl_X12_333 wi_X12_refuse ws_X12_X12_refuse_X12_refuse ⟨rfl, rfl, Nat.le_of_ble_eq_true rfl, Nat.le_of_ble_eq_true rfl⟩ 12 0 rfl rfl rfl hl.1 (Nat.le_of_ble_eq_true rfl) dX12_wayAt_75 (fun H locs hP hD hS => ?_)
      obtain rfl := Option.some.inj hf
      exact tc_ri X hP hD hS rfl dX12_wayAt_78 rfl rfl
  · have hf := tc_neg hc hf
    refine lv_iconst (v := (-1 : Int32)) hx hb dX12_wayAt_47 (by decide) ?_
    obtain rfl := Option.some.inj hf
    exact tc_ri X hP hD hS rfl dX12_wayAt_48 rfl rfl
set_option maxRecDepth 20000 in
theorem mX12_wayAt {q : Nat → Nat}  {S : ms_T} {a1 : Int32} {a2 : Int32} {a3 : Int32} {a4 : Int32} {z : Int32 × ms_T}  (hf : fX12_wayAt S a1 a2 a3 a4 = some z) : tc_MI l dC dI ca yX12_wayAt cX12_wayAt 8 (some .int) rmX12_wayAt [.ref (q 0), .int (a1), .int (a2), .int (a3), .int (a4)] (w12 ca q S) (w12 ca q z.2) (z.1) := by
  refine tc_metI (own := RX12) (by decide) rfl ?_ (Nat.le_of_ble_eq_true rfl)
  intro p e s m below meth c A X hP hD hS ls hl
  obtain ⟨hx, hb, hr, hml, hown, hts, hlk, hK, hA, hG⟩ := id X
  unfold fX12_wayAt at hf
  have hl : lv_has ls 8 [(0, .ref (q 0)), (1, .int (a1)), (2, .int (a2)), (3, .int (a3)), (4, .int (a4))] := hl
  refine lv_aload_n hx hb dX12_wayAt_0 rfl (lv_at hl 0 rfl) ?_
  refine lv_iconst (v := (0 : Int32)) hx hb dX12_wayAt_1 (by decide) ?_
  refine va_put (D := (dC, dI)) (ci := 12) (v := .int ((0 : Int32))) (ty := .int) (C := RX12) (T := TX12) (N := 49) hx hb hts i_X12 tyX12 tyX12_ok nmX12 hown hK hP hD hS 0 rfl rfl 1 (by decide) (hts _ wf_X12_63) (fun _ h9 => h9) rfl (tyX12_ok 1 (by decide)) rfl rfl (Nat.le_of_ble_eq_true rfl) dX12_wayAt_2 (fun H locs hP hD hS => ?_)
  have hP := tc_eP (pw12_0_1 ca q S (0 : Int32)) hP
  have hD := tc_eD (pw12_0_1 ca q S (0 : Int32)) hD
  refine lv_aload_n hx hb dX12_wayAt_5 rfl (lv_at hl 0 rfl) ?_
  refine lv_aload_n hx hb dX12_wayAt_6 rfl (lv_at hl 0 rfl) ?_
  refine lv_iload_n hx hb dX12_wayAt_7 rfl (lv_at hl 1 rfl) ?_
  refine lv_iload_n hx hb dX12_wayAt_8 rfl (lv_at hl 2 rfl) ?_
  obtain ⟨z1, hg, hf⟩ := tc_bi hf
  refine tc_iVs (As := [.int (a1), .int (a2)]) (rest := [.ref (q 0)]) (b := q 0) X hP hD hS (mX12_whyNoWay hg) okX12_whyNoWay wl_X12_415 wi_X12_whyNoWay ws_X12_X12_whyNoWay_X12_whyNoWay ⟨rfl, rfl, Nat.le_of_ble_eq_true rfl, Nat.le_of_ble_eq_true rfl⟩ 12 0 rfl rfl rfl hl.1 (Nat.le_of_ble_eq_true rfl) dX12_wayAt_9 (fun H locs hP hD hS => ?_)
  refine va_put (D := (dC, dI)) (ci := 12) (v := .int (z1)) (ty := .int) (C := RX12) (T := TX12) (N := 49) hx hb hts i_X12 tyX12 tyX12_ok nmX12 hown hK hP hD hS 0 rfl rfl 0 (by decide) (hts _ wf_X12_66) (fun _ h9 => h9) rfl (tyX12_ok 0 (by decide)) rfl rfl (Nat.le_of_ble_eq_true rfl) dX12_wayAt_12 (fun H locs hP hD hS => ?_)
  have hP := tc_eP (pw12_0_0 ca q (si S 1 (0 : Int32)) z1) hP
  have hD := tc_eD (pw12_0_0 ca q (si S 1 (0 : Int32)) z1) hD
  refine lv_aload_n hx hb dX12_wayAt_15 rfl (lv_at hl 0 rfl) ?_
  refine va_get (D := (dC, dI)) (ci := 12) (v := .int (gi (si (si S 1 (0 : Int32)) 0 z1) 0)) (C := RX12) (T := TX12) (N := 49) hx hb hts i_X12 hown hK hP 0 rfl rfl 0 (by decide) (hts _ wf_X12_66) (fun _ h9 => h9) rfl dX12_wayAt_16 ?_
  refine lv_if_ne (tgt := 40) hx hb dX12_wayAt_19 (by decide) (fun hc => ?_) (fun hc => ?_)
  · have hf := tc_neg hc hf
    exact tX12_wayAt_40 X z (si (si S 1 (0 : Int32)) 0 z1) a1 a2 a3 a4 hf _ _ _ hP hD hS (lv_sub hl [0, 1, 2, 3, 4] rfl)
  · have hf := tc_pos hc hf
    refine lv_iload hx hb dX12_wayAt_22 (lv_at hl 4 rfl) ?_
    refine lv_i2l (v := a4.toInt64) hx hb dX12_wayAt_24 rfl ?_
    refine lv_lconst (v := (0 : Int64)) hx hb dX12_wayAt_25 (by decide) ?_
    refine lv_ldc2 (v := (2 : Int64)) hx hb hown (hts _ wk_X12_421) dX12_wayAt_26 ?_
    obtain ⟨z8, hg, hf⟩ := tc_bi hf
    refine tc_iS0 (As := [.long (a4.toInt64), .long ((0 : Int64)), .long ((2 : Int64))]) (rest := []) X hP hD hS (mX12_isIn hg) okX12_isIn wl_X12_98 wt_X12_isIn ⟨rfl, rfl, Nat.le_of_ble_eq_true rfl, Nat.le_of_ble_eq_true rfl⟩ rfl hl.1 (Nat.le_of_ble_eq_true rfl) dX12_wayAt_29 (fun H locs hP hD hS => ?_)
    refine lv_if_ne (tgt := 40) hx hb dX12_wayAt_32 (by decide) (fun hc => ?_) (fun hc => ?_)
    · have hf := tc_neg hc hf
      exact tX12_wayAt_40 X z (si (si S 1 (0 : Int32)) 0 z1) a1 a2 a3 a4 hf _ _ _ hP hD hS (lv_sub hl [0, 1, 2, 3, 4] rfl)
    · have hf := tc_pos hc hf
      refine lv_aload_n hx hb dX12_wayAt_35 rfl (lv_at hl 0 rfl) ?_
      refine lv_iconst (v := (5 : Int32)) hx hb dX12_wayAt_36 (by decide) ?_
      refine va_put (D := (dC, dI)) (ci := 12) (v := .int ((5 : Int32))) (ty := .int) (C := RX12) (T := TX12) (N := 49) hx hb hts i_X12 tyX12 tyX12_ok nmX12 hown hK hP hD hS 0 rfl rfl 0 (by decide) (hts _ wf_X12_66) (fun _ h9 => h9) rfl (tyX12_ok 0 (by decide)) rfl rfl (Nat.le_of_ble_eq_true rfl) dX12_wayAt_37 (fun H locs hP hD hS => ?_)
      have hP := tc_eP (pw12_0_0 ca q (si (si S 1 (0 : Int32)) 0 z1) (5 : Int32)) hP
      have hD := tc_eD (pw12_0_0 ca q (si (si S 1 (0 : Int32)) 0 z1) (5 : Int32)) hD
      exact tX12_wayAt_40 X z (si (si (si S 1 (0 : Int32)) 0 z1) 0 (5 : Int32)) a1 a2 a3 a4 hf _ _ _ hP hD hS (lv_sub hl [0, 1, 2, 3, 4] rfl)
def fX12_couplesTo_19  (S : ms_T) (k5 : Int32 → Int32 → Int32 → Int32 → Option (Int32)) : Nat → Int32 → Int32 → Int32 → Int32 → Int32 → Option (Int32)
  | 0, _, _, _, _, _ => none
  | n + 1, v1, v2, v3, v4, v5 =>
    if (3 : Int32) < v5 then
      k5 v1 v2 v3 (v4 + (1 : Int32))
    else
      (fX12_isHollow S v4).bind fun z1 =>
      if z1 = 0 then
        fX12_couplesTo_19 S k5 n v1 v2 (v3 + (0 : Int32)) v4 (v5 + (1 : Int32))
      else
        (fX12_endOf S v4 v5).bind fun z2 =>
        if z2 = v1 then
          if v2 < 0 then
            fX12_couplesTo_19 S k5 n v1 v2 (v3 + (1 : Int32)) v4 (v5 + (1 : Int32))
          else
            if v2 = v4 then
              fX12_couplesTo_19 S k5 n v1 v2 (v3 + (1 : Int32)) v4 (v5 + (1 : Int32))
            else
              fX12_couplesTo_19 S k5 n v1 v2 (v3 + (0 : Int32)) v4 (v5 + (1 : Int32))
        else
          fX12_couplesTo_19 S k5 n v1 v2 (v3 + (0 : Int32)) v4 (v5 + (1 : Int32))
def fX12_couplesTo_5  (S : ms_T)  : Nat → Int32 → Int32 → Int32 → Int32 → Option (Int32)
  | 0, _, _, _, _ => none
  | n + 1, v1, v2, v3, v4 =>
    if (ia S 5 (1 : Int32)) ≤ v4 then
      some (v3)
    else
      fX12_couplesTo_19 S (fX12_couplesTo_5 S n) FU v1 v2 v3 v4 (0 : Int32)
def fX12_couplesTo  (S : ms_T) (a1 : Int32) (a2 : Int32) : Option (Int32) :=
  fX12_couplesTo_5 S FU a1 a2 (0 : Int32) (0 : Int32)
abbrev rmX12_couplesTo : Room := { frames := 4, cells := 0, slots := 0, locals := 91 }
theorem okX12_couplesTo : tc_ok yX12_couplesTo cX12_couplesTo 6 (some .int) 2 := ⟨wc_X12_couplesTo, wn_X12, by decide, by decide, by decide +kernel⟩
set_option maxRecDepth 20000 in
theorem tX12_couplesTo_19 {q : Nat → Nat}  (X : tc_X dC dI ca A RX12 cX12_couplesTo 6 (some .int) p s m args meth c) (z : Int32)  (S : ms_T) (k5 : Int32 → Int32 → Int32 → Int32 → Option (Int32)) (hk5 : ∀ (v1 : Int32) (v2 : Int32) (v3 : Int32) (v4 : Int32), k5 v1 v2 v3 v4 = some z → ∀ (H : Heap) (locs : List Loc) (ls : Array Slot), va_P (dC, dI) classes (w12 ca q S) H → va_D A (w12 ca q S) → va_S A s.heap H locs → lv_has ls 6 [(0, .ref (q 0)), (1, .int (v1)), (2, .int (v2)), (3, .int (v3)), (4, .int (v4))] → W p l e rmX12_couplesTo s m args below meth c H locs 0 0 (MQ below (tc_QI dC dI ca A (w12 ca q S) (z)) args s 0 0 A) (F0 m 5 ls [])) : ∀ n : Nat, ∀ (v1 : Int32) (v2 : Int32) (v3 : Int32) (v4 : Int32) (v5 : Int32), fX12_couplesTo_19 S k5 n v1 v2 v3 v4 v5 = some z → ∀ (H : Heap) (locs : List Loc) (ls : Array Slot), va_P (dC, dI) classes (w12 ca q S) H → va_D A (w12 ca q S) → va_S A s.heap H locs → lv_has ls 6 [(0, .ref (q 0)), (1, .int (v1)), (2, .int (v2)), (3, .int (v3)), (4, .int (v4)), (5, .int (v5))] → W p l e rmX12_couplesTo s m args below meth c H locs 0 0 (MQ below (tc_QI dC dI ca A (w12 ca q S) (z)) args s 0 0 A) (F0 m 19 ls []) := by
  obtain ⟨hx, hb, hr, hml, hown, hts, hlk, hK, hA, hG⟩ := id X
  intro n
  induction n with
  | zero => intro v1 v2 v3 v4 v5 hf; exact absurd (show none = some z from hf) (fun h => by cases h)
  | succ n ih =>
    intro v1 v2 v3 v4 v5 hf H locs ls hP hD hS hl
    rw [fX12_couplesTo_19] at hf
    refine lv_iload hx hb dX12_couplesTo_19 (lv_at hl 5 rfl) ?_
    refine lv_iconst (v := (3 : Int32)) hx hb dX12_couplesTo_21 (by decide) ?_
    refine lv_icmp_gt (tgt := 70) hx hb dX12_couplesTo_22 (by decide) (fun hc => ?_) (fun hc => ?_)
    · have hf := tc_pos hc hf
      refine lv_iinc (v := v4 + (1 : Int32)) (lv' := [(4, .int (v4 + (1 : Int32))), (0, .ref (q 0)), (1, .int (v1)), (2, .int (v2)), (3, .int (v3)), (5, .int (v5))]) hx hb dX12_couplesTo_70 hl (k := 4) rfl rfl (by decide) rfl (fun ls hl => ?_)
      refine lv_goto (tgt := 5) hx hb dX12_couplesTo_73 (by decide) ?_
      exact hk5 v1 v2 v3 (v4 + (1 : Int32)) hf _ _ _ hP hD hS (lv_sub hl [1, 2, 3, 4, 0] rfl)
    · have hf := tc_neg hc hf
      refine lv_iload_n hx hb dX12_couplesTo_25 rfl (lv_at hl 3 rfl) ?_
      refine lv_aload_n hx hb dX12_couplesTo_26 rfl (lv_at hl 0 rfl) ?_
      refine lv_iload hx hb dX12_couplesTo_27 (lv_at hl 4 rfl) ?_
      obtain ⟨z1, hg, hf⟩ := tc_bi hf
      refine tc_iVs (As := [.int (v4)]) (rest := [.int (v3)]) (b := q 0) X hP hD hS (mX12_isHollow hg) okX12_isHollow wl_X12_354 wi_X12_isHollow ws_X12_X12_isHollow_X12_isHollow ⟨rfl, rfl, Nat.le_of_ble_eq_true rfl, Nat.le_of_ble_eq_true rfl⟩ 12 0 rfl rfl rfl hl.1 (Nat.le_of_ble_eq_true rfl) dX12_couplesTo_29 (fun H locs hP hD hS => ?_)
      refine lv_if_eq (tgt := 61) hx hb dX12_couplesTo_32 (by decide) (fun hc => ?_) (fun hc => ?_)
      · have hf := tc_pos hc hf
        refine lv_iconst (v := (0 : Int32)) hx hb dX12_couplesTo_61 (by decide) ?_
        refine lv_iadd hx hb dX12_couplesTo_62 ?_
        refine lv_istore_n (lv' := [(3, .int (v3 + (0 : Int32))), (0, .ref (q 0)), (1, .int (v1)), (2, .int (v2)), (4, .int (v4)), (5, .int (v5))]) hx hb dX12_couplesTo_63 rfl hl (by decide) rfl (fun ls hl => ?_)
        refine lv_iinc (v := v5 + (1 : Int32)) (lv' := [(5, .int (v5 + (1 : Int32))), (3, .int (v3 + (0 : Int32))), (0, .ref (q 0)), (1, .int (v1)), (2, .int (v2)), (4, .int (v4))]) hx hb dX12_couplesTo_64 hl (k := 5) rfl rfl (by decide) rfl (fun ls hl => ?_)
        refine lv_goto (tgt := 19) hx hb dX12_couplesTo_67 (by decide) ?_
        exact ih v1 v2 (v3 + (0 : Int32)) v4 (v5 + (1 : Int32)) hf _ _ _ hP hD hS (lv_sub hl [2, 3, 4, 1, 5, 0] rfl)
      · have hf := tc_neg hc hf
        refine lv_aload_n hx hb dX12_couplesTo_35 rfl (lv_at hl 0 rfl) ?_
        refine lv_iload hx hb dX12_couplesTo_36 (lv_at hl 4 rfl) ?_
        refine lv_iload hx hb dX12_couplesTo_38 (lv_at hl 5 rfl) ?_
        obtain ⟨z2, hg, hf⟩ := tc_bi hf
        refine tc_iVs (As := [.int (v4), .int (v5)]) (rest := [.int (v3)]) (b := q 0) X hP hD hS (mX12_endOf hg) okX12_endOf wl_X12_412 wi_X12_endOf ws_X12_X12_endOf_X12_endOf ⟨rfl, rfl, Nat.le_of_ble_eq_true rfl, Nat.le_of_ble_eq_true rfl⟩ 12 0 rfl rfl rfl hl.1 (Nat.le_of_ble_eq_true rfl) dX12_couplesTo_40 (fun H locs hP hD hS => ?_)
        refine lv_iload_n hx hb dX12_couplesTo_43 rfl (lv_at hl 1 rfl) ?_
        refine lv_icmp_ne (tgt := 61) hx hb dX12_couplesTo_44 (by decide) (fun hc => ?_) (fun hc => ?_)
        · have hf := tc_neg hc hf
          refine lv_iconst (v := (0 : Int32)) hx hb dX12_couplesTo_61 (by decide) ?_
          refine lv_iadd hx hb dX12_couplesTo_62 ?_
          refine lv_istore_n (lv' := [(3, .int (v3 + (0 : Int32))), (0, .ref (q 0)), (1, .int (v1)), (2, .int (v2)), (4, .int (v4)), (5, .int (v5))]) hx hb dX12_couplesTo_63 rfl hl (by decide) rfl (fun ls hl => ?_)
          refine lv_iinc (v := v5 + (1 : Int32)) (lv' := [(5, .int (v5 + (1 : Int32))), (3, .int (v3 + (0 : Int32))), (0, .ref (q 0)), (1, .int (v1)), (2, .int (v2)), (4, .int (v4))]) hx hb dX12_couplesTo_64 hl (k := 5) rfl rfl (by decide) rfl (fun ls hl => ?_)
          refine lv_goto (tgt := 19) hx hb dX12_couplesTo_67 (by decide) ?_
          exact ih v1 v2 (v3 + (0 : Int32)) v4 (v5 + (1 : Int32)) hf _ _ _ hP hD hS (lv_sub hl [2, 3, 4, 1, 5, 0] rfl)
        · have hf := tc_pos hc hf
          refine lv_iload_n hx hb dX12_couplesTo_47 rfl (lv_at hl 2 rfl) ?_
          refine lv_if_lt (tgt := 57) hx hb dX12_couplesTo_48 (by decide) (fun hc => ?_) (fun hc => ?_)
          · have hf := tc_pos hc hf
            refine lv_iconst (v := (1 : Int32)) hx hb dX12_couplesTo_57 (by decide) ?_
            refine lv_goto (tgt := 62) hx hb dX12_couplesTo_58 (by decide) ?_
            refine lv_iadd hx hb dX12_couplesTo_62 ?_
            refine lv_istore_n (lv' := [(3, .int (v3 + (1 : Int32))), (0, .ref (q 0)), (1, .int (v1)), (2, .int (v2)), (4, .int (v4)), (5, .int (v5))]) hx hb dX12_couplesTo_63 rfl hl (by decide) rfl (fun ls hl => ?_)
            refine lv_iinc (v := v5 + (1 : Int32)) (lv' := [(5, .int (v5 + (1 : Int32))), (3, .int (v3 + (1 : Int32))), (0, .ref (q 0)), (1, .int (v1)), (2, .int (v2)), (4, .int (v4))]) hx hb dX12_couplesTo_64 hl (k := 5) rfl rfl (by decide) rfl (fun ls hl => ?_)
            refine lv_goto (tgt := 19) hx hb dX12_couplesTo_67 (by decide) ?_
            exact ih v1 v2 (v3 + (1 : Int32)) v4 (v5 + (1 : Int32)) hf _ _ _ hP hD hS (lv_sub hl [2, 3, 4, 1, 5, 0] rfl)
          · have hf := tc_neg hc hf
            refine lv_iload_n hx hb dX12_couplesTo_51 rfl (lv_at hl 2 rfl) ?_
            refine lv_iload hx hb dX12_couplesTo_52 (lv_at hl 4 rfl) ?_
            refine lv_icmp_ne (tgt := 61) hx hb dX12_couplesTo_54 (by decide) (fun hc => ?_) (fun hc => ?_)
            · have hf := tc_neg hc hf
              refine lv_iconst (v := (0 : Int32)) hx hb dX12_couplesTo_61 (by decide) ?_
              refine lv_iadd hx hb dX12_couplesTo_62 ?_
              refine lv_istore_n (lv' := [(3, .int (v3 + (0 : Int32))), (0, .ref (q 0)), (1, .int (v1)), (2, .int (v2)), (4, .int (v4)), (5, .int (v5))]) hx hb dX12_couplesTo_63 rfl hl (by decide) rfl (fun ls hl => ?_)
              refine lv_iinc (v := v5 + (1 : Int32)) (lv' := [(5, .int (v5 + (1 : Int32))), (3, .int (v3 + (0 : Int32))), (0, .ref (q 0)), (1, .int (v1)), (2, .int (v2)), (4, .int (v4))]) hx hb dX12_couplesTo_64 hl (k := 5) rfl rfl (by decide) rfl (fun ls hl => ?_)
              refine lv_goto (tgt := 19) hx hb dX12_couplesTo_67 (by decide) ?_
              exact ih v1 v2 (v3 + (0 : Int32)) v4 (v5 + (1 : Int32)) hf _ _ _ hP hD hS (lv_sub hl [2, 3, 4, 1, 5, 0] rfl)
            · have hf := tc_pos hc hf
              refine lv_iconst (v := (1 : Int32)) hx hb dX12_couplesTo_57 (by decide) ?_
              refine lv_goto (tgt := 62) hx hb dX12_couplesTo_58 (by decide) ?_
              refine lv_iadd hx hb dX12_couplesTo_62 ?_
              refine lv_istore_n (lv' := [(3, .int (v3 + (1 : Int32))), (0, .ref (q 0)), (1, .int (v1)), (2, .int (v2)), (4, .int (v4)), (5, .int (v5))]) hx hb dX12_couplesTo_63 rfl hl (by decide) rfl (fun ls hl => ?_)
              refine lv_iinc (v := v5 + (1 : Int32)) (lv' := [(5, .int (v5 + (1 : Int32))), (3, .int (v3 + (1 : Int32))), (0, .ref (q 0)), (1, .int (v1)), (2, .int (v2)), (4, .int (v4))]) hx hb dX12_couplesTo_64 hl (k := 5) rfl rfl (by decide) rfl (fun ls hl => ?_)
              refine lv_goto (tgt := 19) hx hb dX12_couplesTo_67 (by decide) ?_
              exact ih v1 v2 (v3 + (1 : Int32)) v4 (v5 + (1 : Int32)) hf _ _ _ hP hD hS (lv_sub hl [2, 3, 4, 1, 5, 0] rfl)
set_option maxRecDepth 20000 in
theorem tX12_couplesTo_5 {q : Nat → Nat}  (X : tc_X dC dI ca A RX12 cX12_couplesTo 6 (some .int) p s m args meth c) (z : Int32)  (S : ms_T)   : ∀ n : Nat, ∀ (v1 : Int32) (v2 : Int32) (v3 : Int32) (v4 : Int32), fX12_couplesTo_5 S n v1 v2 v3 v4 = some z → ∀ (H : Heap) (locs : List Loc) (ls : Array Slot), va_P (dC, dI) classes (w12 ca q S) H → va_D A (w12 ca q S) → va_S A s.heap H locs → lv_has ls 6 [(0, .ref (q 0)), (1, .int (v1)), (2, .int (v2)), (3, .int (v3)), (4, .int (v4))] → W p l e rmX12_couplesTo s m args below meth c H locs 0 0 (MQ below (tc_QI dC dI ca A (w12 ca q S) (z)) args s 0 0 A) (F0 m 5 ls []) := by
  obtain ⟨hx, hb, hr, hml, hown, hts, hlk, hK, hA, hG⟩ := id X
  intro n
  induction n with
  | zero => intro v1 v2 v3 v4 hf; exact absurd (show none = some z from hf) (fun h => by cases h)
  | succ n ih =>
    intro v1 v2 v3 v4 hf H locs ls hP hD hS hl
    rw [fX12_couplesTo_5] at hf
    refine lv_iload hx hb dX12_couplesTo_5 (lv_at hl 4 rfl) ?_
    refine lv_aload_n hx hb dX12_couplesTo_7 rfl (lv_at hl 0 rfl) ?_
    refine va_get (D := (dC, dI)) (ci := 12) (v := .ref (q 5)) (C := RX12) (T := TX12) (N := 49) hx hb hts i_X12 hown hK hP 0 rfl rfl 20 (by decide) (hts _ wf_X12_35) (fun _ h9 => h9) rfl dX12_couplesTo_8 ?_
    refine lv_iconst (v := (1 : Int32)) hx hb dX12_couplesTo_11 (by decide) ?_
    refine va_iald hx hb hK hP 5 1 rfl rfl (inb_vp (by decide)) dX12_couplesTo_12 ?_
    refine lv_icmp_ge (tgt := 76) hx hb dX12_couplesTo_13 (by decide) (fun hc => ?_) (fun hc => ?_)
    · have hf := tc_pos hc hf
      refine lv_iload_n hx hb dX12_couplesTo_76 rfl (lv_at hl 3 rfl) ?_
      obtain rfl := Option.some.inj hf
      exact tc_ri X hP hD hS rfl dX12_couplesTo_77 rfl rfl
    · have hf := tc_neg hc hf
      refine lv_iconst (v := (0 : Int32)) hx hb dX12_couplesTo_16 (by decide) ?_
      refine lv_istore (lv' := [(5, .int ((0 : Int32))), (0, .ref (q 0)), (1, .int (v1)), (2, .int (v2)), (3, .int (v3)), (4, .int (v4))]) hx hb dX12_couplesTo_17 hl (by decide) rfl (fun ls hl => ?_)
      exact tX12_couplesTo_19 X z S (fX12_couplesTo_5 S n) ih FU v1 v2 v3 v4 (0 : Int32) hf _ _ _ hP hD hS (lv_sub hl [1, 2, 3, 4, 5, 0] rfl)
set_option maxRecDepth 20000 in
theorem mX12_couplesTo {q : Nat → Nat}  {S : ms_T} {a1 : Int32} {a2 : Int32} {z : Int32}  (hf : fX12_couplesTo S a1 a2 = some z) : tc_MI l dC dI ca yX12_couplesTo cX12_couplesTo 6 (some .int) rmX12_couplesTo [.ref (q 0), .int (a1), .int (a2)] (w12 ca q S) (w12 ca q S) (z) := by
  refine tc_metI (own := RX12) (by decide) rfl ?_ (Nat.le_of_ble_eq_true rfl)
  intro p e s m below meth c A X hP hD hS ls hl
  obtain ⟨hx, hb, hr, hml, hown, hts, hlk, hK, hA, hG⟩ := id X
  unfold fX12_couplesTo at hf
  have hl : lv_has ls 6 [(0, .ref (q 0)), (1, .int (a1)), (2, .int (a2))] := hl
  refine lv_iconst (v := (0 : Int32)) hx hb dX12_couplesTo_0 (by decide) ?_
  refine lv_istore_n (lv' := [(3, .int ((0 : Int32))), (0, .ref (q 0)), (1, .int (a1)), (2, .int (a2))]) hx hb dX12_couplesTo_1 rfl hl (by decide) rfl (fun ls hl => ?_)
  refine lv_iconst (v := (0 : Int32)) hx hb dX12_couplesTo_2 (by decide) ?_
  refine lv_istore (lv' := [(4, .int ((0 : Int32))), (3, .int ((0 : Int32))), (0, .ref (q 0)), (1, .int (a1)), (2, .int (a2))]) hx hb dX12_couplesTo_3 hl (by decide) rfl (fun ls hl => ?_)
  exact tX12_couplesTo_5 X z S FU a1 a2 (0 : Int32) (0 : Int32) hf _ _ _ hP hD hS (lv_sub hl [2, 3, 4, 1, 0] rfl)
def fX12_from  (S : ms_T) (a1 : Int32) : Option (Int32 × ms_T) :=
  (fX12_isHeight (si (si S 1 (0 : Int32)) 0 (0 : Int32)) a1).bind fun z1 =>
  if z1 = 0 then
    (fX12_refuse (si (si S 1 (0 : Int32)) 0 (0 : Int32)) (2 : Int32)).bind fun z2 =>
    some (z2.1, z2.2)
  else
    (fX12_couplesTo (si (si S 1 (0 : Int32)) 0 (0 : Int32)) a1 (-1 : Int32)).bind fun z3 =>
    some (z3, si (si S 1 (0 : Int32)) 0 (0 : Int32))
abbrev rmX12_from : Room := { frames := 5, cells := 0, slots := 0, locals := 116 }
theorem okX12_from : tc_ok yX12_from cX12_from 2 (some .int) 1 := ⟨wc_X12_from, wn_X12, by decide, by decide, by decide +kernel⟩
set_option maxRecDepth 20000 in
theorem mX12_from {q : Nat → Nat}  {S : ms_T} {a1 : Int32} {z : Int32 × ms_T}  (hf : fX12_from S a1 = some z) : tc_MI l dC dI ca yX12_from cX12_from 2 (some .int) rmX12_from [.ref (q 0), .int (a1)] (w12 ca q S) (w12 ca q z.2) (z.1) := by
  refine tc_metI (own := RX12) (by decide) rfl ?_ (Nat.le_of_ble_eq_true rfl)
  intro p e s m below meth c A X hP hD hS ls hl
  obtain ⟨hx, hb, hr, hml, hown, hts, hlk, hK, hA, hG⟩ := id X
  unfold fX12_from at hf
  have hl : lv_has ls 2 [(0, .ref (q 0)), (1, .int (a1))] := hl
  refine lv_aload_n hx hb dX12_from_0 rfl (lv_at hl 0 rfl) ?_
  refine lv_iconst (v := (0 : Int32)) hx hb dX12_from_1 (by decide) ?_
  refine va_put (D := (dC, dI)) (ci := 12) (v := .int ((0 : Int32))) (ty := .int) (C := RX12) (T := TX12) (N := 49) hx hb hts i_X12 tyX12 tyX12_ok nmX12 hown hK hP hD hS 0 rfl rfl 1 (by decide) (hts _ wf_X12_63) (fun _ h9 => h9) rfl (tyX12_ok 1 (by decide)) rfl rfl (Nat.le_of_ble_eq_true rfl) dX12_from_2 (fun H locs hP hD hS => ?_)
  have hP := tc_eP (pw12_0_1 ca q S (0 : Int32)) hP
  have hD := tc_eD (pw12_0_1 ca q S (0 : Int32)) hD
  refine lv_aload_n hx hb dX12_from_5 rfl (lv_at hl 0 rfl) ?_
  refine lv_iconst (v := (0 : Int32)) hx hb dX12_from_6 (by decide) ?_
  refine va_put (D := (dC, dI)) (ci := 12) (v := .int ((0 : Int32))) (ty := .int) (C := RX12) (T := TX12) (N := 49) hx hb hts i_X12 tyX12 tyX12_ok nmX12 hown hK hP hD hS 0 rfl rfl 0 (by decide) (hts _ wf_X12_66) (fun _ h9 => h9) rfl (tyX12_ok 0 (by decide)) rfl rfl (Nat.le_of_ble_eq_true rfl) dX12_from_7 (fun H locs hP hD hS => ?_)
  have hP := tc_eP (pw12_0_0 ca q (si S 1 (0 : Int32)) (0 : Int32)) hP
  have hD := tc_eD (pw12_0_0 ca q (si S 1 (0 : Int32)) (0 : Int32)) hD
  refine lv_aload_n hx hb dX12_from_10 rfl (lv_at hl 0 rfl) ?_
  refine lv_iload_n hx hb dX12_from_11 rfl (lv_at hl 1 rfl) ?_
  obtain ⟨z1, hg, hf⟩ := tc_bi hf
  refine tc_iVs (As := [.int (a1)]) (rest := []) (b := q 0) X hP hD hS (mX12_isHeight hg) okX12_isHeight wl_X12_399 wi_X12_isHeight ws_X12_X12_isHeight_X12_isHeight ⟨rfl, rfl, Nat.le_of_ble_eq_true rfl, Nat.le_of_ble_eq_true rfl⟩ 12 0 rfl rfl rfl hl.1 (Nat.le_of_ble_eq_true rfl) dX12_from_12 (fun H locs hP hD hS => ?_)
  refine lv_if_eq (tgt := 27) hx hb dX12_from_15 (by decide) (fun hc => ?_) (fun hc => ?_)
  · have hf := tc_pos hc hf
    refine lv_aload_n hx hb dX12_from_27 rfl (lv_at hl 0 rfl) ?_
    refine lv_iconst (v := (2 : Int32)) hx hb dX12_from_28 (by decide) ?_
    obtain ⟨z2, hg, hf⟩ := tc_bi hf
    refine tc_iVs (As := [.int ((2 : Int32))]) (rest := []) (b := q 0) X hP hD hS (mX12_refuse hg) okX12_refuse wl_X12_333 wi_X12_refuse ws_X12_X12_refuse_X12_refuse ⟨rfl, rfl, Nat.le_of_ble_eq_true rfl, Nat.le_of_ble_eq_true rfl⟩ 12 0 rfl rfl rfl hl.1 (Nat.le_of_ble_eq_true rfl) dX12_from_29 (fun H locs hP hD hS => ?_)
    obtain rfl := Option.some.inj hf
    exact tc_ri X hP hD hS rfl dX12_from_32 rfl rfl
  · have hf := tc_neg hc hf
    refine lv_aload_n hx hb dX12_from_18 rfl (lv_at hl 0 rfl) ?_
    refine lv_iload_n hx hb dX12_from_19 rfl (lv_at hl 1 rfl) ?_
    refine lv_iconst (v := (-1 : Int32)) hx hb dX12_from_20 (by decide) ?_
    obtain ⟨z3, hg, hf⟩ := tc_bi hf
    refine tc_iVs (As := [.int (a1), .int ((-1 : Int32))]) (rest := []) (b := q 0) X hP hD hS (mX12_couplesTo hg) okX12_couplesTo wl_X12_426 wi_X12_couplesTo ws_X12_X12_couplesTo_X12_couplesTo ⟨rfl, rfl, Nat.le_of_ble_eq_true rfl, Nat.le_of_ble_eq_true rfl⟩ 12 0 rfl rfl rfl hl.1 (Nat.le_of_ble_eq_true rfl) dX12_from_21 (fun H locs hP hD hS => ?_)
    refine lv_goto (tgt := 32) hx hb dX12_from_24 (by decide) ?_
    obtain rfl := Option.some.inj hf
    exact tc_ri X hP hD hS rfl dX12_from_32 rfl rfl
def fX12_oddsThat_26    (S : ms_T) : Option (Int32 × ms_T) :=
  (fX12_no S (2 : Int32)).bind fun z2 =>
  if z2.1 &&& 1 = z2.1 then
    some (z2.1, z2.2)
  else none
def fX12_oddsThat  (S : ms_T) (a1 : Int32) (a2 : Int32) : Option (Int32 × ms_T) :=
  (fX12_isHeight (si (si S 1 (0 : Int32)) 0 (0 : Int32)) a1).bind fun z1 =>
  if z1 = 0 then
    fX12_oddsThat_26 (si (si S 1 (0 : Int32)) 0 (0 : Int32))
  else
    (fX12_isClaimAt (si (si S 1 (0 : Int32)) 0 (0 : Int32)) a2).bind fun z3 =>
    if z3 = 0 then
      fX12_oddsThat_26 (si (si S 1 (0 : Int32)) 0 (0 : Int32))
    else
      (fX12_couplesTo (si (si S 1 (0 : Int32)) 0 (0 : Int32)) a1 (-1 : Int32)).bind fun z4 =>
      if z4 = 0 then
        (fX12_no (si (si S 1 (0 : Int32)) 0 (0 : Int32)) (8 : Int32)).bind fun z7 =>
        if z7.1 &&& 1 = z7.1 then
          some (z7.1, z7.2)
        else none
      else
        (fX12_couplesTo (si (si S 1 (0 : Int32)) 0 (0 : Int32)) a1 a2).bind fun z5 =>
        (fX12_fraction (si (si S 1 (0 : Int32)) 0 (0 : Int32)) z5.toInt64 z4.toInt64).bind fun z6 =>
        if z6.1 &&& 1 = z6.1 then
          some (z6.1, z6.2)
        else none
abbrev rmX12_oddsThat : Room := { frames := 5, cells := 0, slots := 0, locals := 116 }
theorem okX12_oddsThat : tc_ok yX12_oddsThat cX12_oddsThat 4 (some .boolean) 2 := ⟨wc_X12_oddsThat, wn_X12, by decide, by decide, by decide +kernel⟩
set_option maxRecDepth 20000 in
theorem tX12_oddsThat_26 {q : Nat → Nat}  (X : tc_X dC dI ca A RX12 cX12_oddsThat 4 (some .boolean) p s m args meth c) (z : Int32 × ms_T)     : ∀ (S : ms_T), fX12_oddsThat_26 S = some z → ∀ (H : Heap) (locs : List Loc) (ls : Array Slot), va_P (dC, dI) classes (w12 ca q S) H → va_D A (w12 ca q S) → va_S A s.heap H locs → lv_has ls 4 [(0, .ref (q 0))] → W p l e rmX12_oddsThat s m args below meth c H locs 0 0 (MQ below (tc_QI dC dI ca A (w12 ca q z.2) (z.1)) args s 0 0 A) (F0 m 26 ls []) := by
  obtain ⟨hx, hb, hr, hml, hown, hts, hlk, hK, hA, hG⟩ := id X
  intro S hf H locs ls hP hD hS hl
  unfold fX12_oddsThat_26 at hf
  refine lv_aload_n hx hb dX12_oddsThat_26 rfl (lv_at hl 0 rfl) ?_
  refine lv_iconst (v := (2 : Int32)) hx hb dX12_oddsThat_27 (by decide) ?_
  obtain ⟨z2, hg, hf⟩ := tc_bi hf
  refine tc_iVs (As := [.int ((2 : Int32))]) (rest := []) (b := q 0) X hP hD hS (mX12_no hg) okX12_no wl_X12_78 wi_X12_no ws_X12_X12_no_X12_no ⟨rfl, rfl, Nat.le_of_ble_eq_true rfl, Nat.le_of_ble_eq_true rfl⟩ 12 0 rfl rfl rfl hl.1 (Nat.le_of_ble_eq_true rfl) dX12_oddsThat_28 (fun H locs hP hD hS => ?_)
  obtain ⟨hz1, hf⟩ := tc_ck hf
  obtain rfl := Option.some.inj hf
  exact tc_rz X hP hD hS rfl dX12_oddsThat_31 hz1 rfl rfl
set_option maxRecDepth 20000 in
theorem mX12_oddsThat {q : Nat → Nat}  {S : ms_T} {a1 : Int32} {a2 : Int32} {z : Int32 × ms_T}  (hf : fX12_oddsThat S a1 a2 = some z) : tc_MI l dC dI ca yX12_oddsThat cX12_oddsThat 4 (some .boolean) rmX12_oddsThat [.ref (q 0), .int (a1), .int (a2)] (w12 ca q S) (w12 ca q z.2) (z.1) := by
  refine tc_metI (own := RX12) (by decide) rfl ?_ (Nat.le_of_ble_eq_true rfl)
  intro p e s m below meth c A X hP hD hS ls hl
  obtain ⟨hx, hb, hr, hml, hown, hts, hlk, hK, hA, hG⟩ := id X
  unfold fX12_oddsThat at hf
  have hl : lv_has ls 4 [(0, .ref (q 0)), (1, .int (a1)), (2, .int (a2))] := hl
  refine lv_aload_n hx hb dX12_oddsThat_0 rfl (lv_at hl 0 rfl) ?_
  refine lv_iconst (v := (0 : Int32)) hx hb dX12_oddsThat_1 (by decide) ?_
  refine va_put (D := (dC, dI)) (ci := 12) (v := .int ((0 : Int32))) (ty := .int) (C := RX12) (T := TX12) (N := 49) hx hb hts i_X12 tyX12 tyX12_ok nmX12 hown hK hP hD hS 0 rfl rfl 1 (by decide) (hts _ wf_X12_63) (fun _ h9 => h9) rfl (tyX12_ok 1 (by decide)) rfl rfl (Nat.le_of_ble_eq_true rfl) dX12_oddsThat_2 (fun H locs hP hD hS => ?_)
  have hP := tc_eP (pw12_0_1 ca q S (0 : Int32)) hP
  have hD := tc_eD (pw12_0_1 ca q S (0 : Int32)) hD
  refine lv_aload_n hx hb dX12_oddsThat_5 rfl (lv_at hl 0 rfl) ?_
  refine lv_iconst (v := (0 : Int32)) hx hb dX12_oddsThat_6 (by decide) ?_
  refine va_put (D := (dC, dI)) (ci := 12) (v := .int ((0 : Int32))) (ty := .int) (C := RX12) (T := TX12) (N := 49) hx hb hts i_X12 tyX12 tyX12_ok nmX12 hown hK hP hD hS 0 rfl rfl 0 (by decide) (hts _ wf_X12_66) (fun _ h9 => h9) rfl (tyX12_ok 0 (by decide)) rfl rfl (Nat.le_of_ble_eq_true rfl) dX12_oddsThat_7 (fun H locs hP hD hS => ?_)
  have hP := tc_eP (pw12_0_0 ca q (si S 1 (0 : Int32)) (0 : Int32)) hP
  have hD := tc_eD (pw12_0_0 ca q (si S 1 (0 : Int32)) (0 : Int32)) hD
  refine lv_aload_n hx hb dX12_oddsThat_10 rfl (lv_at hl 0 rfl) ?_
  refine lv_iload_n hx hb dX12_oddsThat_11 rfl (lv_at hl 1 rfl) ?_
  obtain ⟨z1, hg, hf⟩ := tc_bi hf
  refine tc_iVs (As := [.int (a1)]) (rest := []) (b := q 0) X hP hD hS (mX12_isHeight hg) okX12_isHeight wl_X12_399 wi_X12_isHeight ws_X12_X12_isHeight_X12_isHeight ⟨rfl, rfl, Nat.le_of_ble_eq_true rfl, Nat.le_of_ble_eq_true rfl⟩ 12 0 rfl rfl rfl hl.1 (Nat.le_of_ble_eq_true rfl) dX12_oddsThat_12 (fun H locs hP hD hS => ?_)
  refine lv_if_eq (tgt := 26) hx hb dX12_oddsThat_15 (by decide) (fun hc => ?_) (fun hc => ?_)
  · have hf := tc_pos hc hf
    exact tX12_oddsThat_26 X z (si (si S 1 (0 : Int32)) 0 (0 : Int32)) hf _ _ _ hP hD hS (lv_sub hl [0] rfl)
  · have hf := tc_neg hc hf
    refine lv_aload_n hx hb dX12_oddsThat_18 rfl (lv_at hl 0 rfl) ?_
    refine lv_iload_n hx hb dX12_oddsThat_19 rfl (lv_at hl 2 rfl) ?_
    obtain ⟨z3, hg, hf⟩ := tc_bi hf
    refine tc_iVs (As := [.int (a2)]) (rest := []) (b := q 0) X hP hD hS (mX12_isClaimAt hg) okX12_isClaimAt wl_X12_351 wi_X12_isClaimAt ws_X12_X12_isClaimAt_X12_isClaimAt ⟨rfl, rfl, Nat.le_of_ble_eq_true rfl, Nat.le_of_ble_eq_true rfl⟩ 12 0 rfl rfl rfl hl.1 (Nat.le_of_ble_eq_true rfl) dX12_oddsThat_20 (fun H locs hP hD hS => ?_)
    refine lv_if_ne (tgt := 32) hx hb dX12_oddsThat_23 (by decide) (fun hc => ?_) (fun hc => ?_)
    · have hf := tc_neg hc hf
      refine lv_aload_n hx hb dX12_oddsThat_32 rfl (lv_at hl 0 rfl) ?_
      refine lv_iload_n hx hb dX12_oddsThat_33 rfl (lv_at hl 1 rfl) ?_
      refine lv_iconst (v := (-1 : Int32)) hx hb dX12_oddsThat_34 (by decide) ?_
      obtain ⟨z4, hg, hf⟩ := tc_bi hf
      refine tc_iVs (As := [.int (a1), .int ((-1 : Int32))]) (rest := []) (b := q 0) X hP hD hS (mX12_couplesTo hg) okX12_couplesTo wl_X12_426 wi_X12_couplesTo ws_X12_X12_couplesTo_X12_couplesTo ⟨rfl, rfl, Nat.le_of_ble_eq_true rfl, Nat.le_of_ble_eq_true rfl⟩ 12 0 rfl rfl rfl hl.1 (Nat.le_of_ble_eq_true rfl) dX12_oddsThat_35 (fun H locs hP hD hS => ?_)
      refine lv_istore_n (lv' := [(3, .int (z4)), (0, .ref (q 0)), (1, .int (a1)), (2, .int (a2))]) hx hb dX12_oddsThat_38 rfl hl (by decide) rfl (fun ls hl => ?_)
      refine lv_iload_n hx hb dX12_oddsThat_39 rfl (lv_at hl 0 rfl) ?_
      refine lv_if_ne (tgt := 52) hx hb dX12_oddsThat_40 (by decide) (fun hc => ?_) (fun hc => ?_)
      · have hf := tc_neg hc hf
        refine lv_aload_n hx hb dX12_oddsThat_52 rfl (lv_at hl 1 rfl) ?_
        refine lv_aload_n hx hb dX12_oddsThat_53 rfl (lv_at hl 1 rfl) ?_
        refine lv_iload_n hx hb dX12_oddsThat_54 rfl (lv_at hl 2 rfl) ?_
        refine lv_iload_n hx hb dX12_oddsThat_55 rfl (lv_at hl 3 rfl) ?_
        obtain ⟨z5, hg, hf⟩ := tc_bi hf
        refine tc_iVs (As := [.int (a1), .int (a2)]) (rest := [.ref (q 0)]) (b := q 0) X hP hD hS (mX12_couplesTo hg) okX12_couplesTo wl_X12_426 wi_X12_couplesTo ws_X12_X12_couplesTo_X12_couplesTo ⟨rfl, rfl, Nat.le_of_ble_eq_true rfl, Nat.le_of_ble_eq_true rfl⟩ 12 0 rfl rfl rfl hl.1 (Nat.le_of_ble_eq_true rfl) dX12_oddsThat_56 (fun H locs hP hD hS => ?_)
        refine lv_i2l (v := z5.toInt64) hx hb dX12_oddsThat_59 rfl ?_
        refine lv_iload_n hx hb dX12_oddsThat_60 rfl (lv_at hl 0 rfl) ?_
        refine lv_i2l (v := z4.toInt64) hx hb dX12_oddsThat_61 rfl ?_
        obtain ⟨z6, hg, hf⟩ := tc_bi hf
        refine tc_iVs (As := [.long (z5.toInt64), .long (z4.toInt64)]) (rest := []) (b := q 0) X hP hD hS (mX12_fraction hg) okX12_fraction wl_X12_429 wi_X12_fraction ws_X12_X12_fraction_X12_fraction ⟨rfl, rfl, Nat.le_of_ble_eq_true rfl, Nat.le_of_ble_eq_true rfl⟩ 12 0 rfl rfl rfl hl.1 (Nat.le_of_ble_eq_true rfl) dX12_oddsThat_62 (fun H locs hP hD hS => ?_)
        obtain ⟨hz1, hf⟩ := tc_ck hf
        obtain rfl := Option.some.inj hf
        exact tc_rz X hP hD hS rfl dX12_oddsThat_65 hz1 rfl rfl
      · have hf := tc_pos hc hf
        refine lv_aload_n hx hb dX12_oddsThat_43 rfl (lv_at hl 1 rfl) ?_
        refine lv_bipush (v := (8 : Int32)) hx hb dX12_oddsThat_44 (by decide) ?_
        obtain ⟨z7, hg, hf⟩ := tc_bi hf
        refine tc_iVs (As := [.int ((8 : Int32))]) (rest := []) (b := q 0) X hP hD hS (mX12_no hg) okX12_no wl_X12_78 wi_X12_no ws_X12_X12_no_X12_no ⟨rfl, rfl, Nat.le_of_ble_eq_true rfl, Nat.le_of_ble_eq_true rfl⟩ 12 0 rfl rfl rfl hl.1 (Nat.le_of_ble_eq_true rfl) dX12_oddsThat_46 (fun H locs hP hD hS => ?_)
        refine lv_goto (tgt := 65) hx hb dX12_oddsThat_49 (by decide) ?_
        obtain ⟨hz1, hf⟩ := tc_ck hf
        obtain rfl := Option.some.inj hf
        exact tc_rz X hP hD hS rfl dX12_oddsThat_65 hz1 rfl rfl
    · have hf := tc_pos hc hf
      exact tX12_oddsThat_26 X z (si (si S 1 (0 : Int32)) 0 (0 : Int32)) hf _ _ _ hP hD hS (lv_sub hl [0] rfl)
def fX12_lands   (a0 : Int32) (a1 : Int32) : Option (Int32) :=
  some (jmax (0 : Int32) (a1 - ((((a0 / (8 : Int32)) * a1) + (a0 - a0 / (8 : Int32) * (8 : Int32))) / (4 : Int32))))
abbrev rmX12_lands : Room := { frames := 1, cells := 0, slots := 0, locals := 23 }
theorem okX12_lands : tc_ok yX12_lands cX12_lands 2 (some .int) 2 := ⟨wc_X12_lands, wn_X12, by decide, by decide, by decide +kernel⟩
set_option maxRecDepth 20000 in
theorem mX12_lands    {a0 : Int32} {a1 : Int32} {z : Int32}  (hf : fX12_lands a0 a1 = some z) : tc_MI l dC dI ca yX12_lands cX12_lands 2 (some .int) rmX12_lands [.int (a0), .int (a1)] [] [] (z) := by
  refine tc_metI (own := RX12) (by decide) rfl ?_ (Nat.le_of_ble_eq_true rfl)
  intro p e s m below meth c A X hP hD hS ls hl
  obtain ⟨hx, hb, hr, hml, hown, hts, hlk, hK, hA, hG⟩ := id X
  unfold fX12_lands at hf
  have hl : lv_has ls 2 [(0, .int (a0)), (1, .int (a1))] := hl
  refine lv_iconst (v := (0 : Int32)) hx hb dX12_lands_0 (by decide) ?_
  refine lv_iload_n hx hb dX12_lands_1 rfl (lv_at hl 1 rfl) ?_
  refine lv_iload_n hx hb dX12_lands_2 rfl (lv_at hl 0 rfl) ?_
  refine lv_bipush (v := (8 : Int32)) hx hb dX12_lands_3 (by decide) ?_
  refine lv_idiv hx hb dX12_lands_5 (by decide) ?_
  refine lv_iload_n hx hb dX12_lands_6 rfl (lv_at hl 1 rfl) ?_
  refine lv_imul hx hb dX12_lands_7 ?_
  refine lv_iload_n hx hb dX12_lands_8 rfl (lv_at hl 0 rfl) ?_
  refine lv_bipush (v := (8 : Int32)) hx hb dX12_lands_9 (by decide) ?_
  refine lv_irem hx hb dX12_lands_11 (by decide) ?_
  refine lv_iadd hx hb dX12_lands_12 ?_
  refine lv_iconst (v := (4 : Int32)) hx hb dX12_lands_13 (by decide) ?_
  refine lv_idiv hx hb dX12_lands_14 (by decide) ?_
  refine lv_isub hx hb dX12_lands_15 ?_
  refine tc_mmax (rest := []) X hl.1 wl_X12_247 (Nat.le_of_ble_eq_true rfl) (Nat.le_of_ble_eq_true rfl) dX12_lands_16 ?_
  obtain rfl := Option.some.inj hf
  exact tc_ri X hP hD hS rfl dX12_lands_19 rfl rfl
def fX12_whyNoLaw_56  (S : ms_T)  : Nat → Int32 → Int32 → Int32 → Option (Int32)
  | 0, _, _, _ => none
  | n + 1, v1, v2, v3 =>
    if v2 ≤ v3 then
      some ((0 : Int32))
    else
      (fX12_numberOf S v1 ((2 : Int32) * v3)).bind fun z5 =>
      (fX12_isIn z5 (1 : Int64) (9 : Int64)).bind fun z6 =>
      if z6 = 0 then
        some ((5 : Int32))
      else
        (fX12_numberOf S v1 (((2 : Int32) * v3) + (1 : Int32))).bind fun z7 =>
        (fX12_isIn z7 (0 : Int64) (9 : Int64)).bind fun z8 =>
        if z8 = 0 then
          some ((5 : Int32))
        else
          fX12_whyNoLaw_56 S n v1 v2 (v3 + (1 : Int32))
def fX12_whyNoLaw  (S : ms_T) (a1 : Int32) (a2 : Int32) : Option (Int32) :=
  (fX12_isTray S a1).bind fun z1 =>
  if z1 = 0 then
    some ((1 : Int32))
  else
    if inb a1 4 = true then
      if 0 ≤ (ia S 2 a1) then
        if inb a1 4 = true then
          if 0 ≤ (lg_cmp ((ia S 2 a1).toInt64) ((2 : Int64) * a2.toInt64)) then
            (fX12_isIn a2.toInt64 (0 : Int64) (20 : Int64)).bind fun z4 =>
            if z4 = 0 then
              some ((5 : Int32))
            else
              fX12_whyNoLaw_56 S FU a1 a2 (0 : Int32)
          else
            some ((4 : Int32))
        else none
      else
        some ((3 : Int32))
    else none
abbrev rmX12_whyNoLaw : Room := { frames := 2, cells := 0, slots := 0, locals := 46 }
theorem okX12_whyNoLaw : tc_ok yX12_whyNoLaw cX12_whyNoLaw 4 (some .int) 2 := ⟨wc_X12_whyNoLaw, wn_X12, by decide, by decide, by decide +kernel⟩
set_option maxRecDepth 20000 in
theorem tX12_whyNoLaw_56 {q : Nat → Nat}  (X : tc_X dC dI ca A RX12 cX12_whyNoLaw 4 (some .int) p s m args meth c) (z : Int32)  (S : ms_T)   : ∀ n : Nat, ∀ (v1 : Int32) (v2 : Int32) (v3 : Int32), fX12_whyNoLaw_56 S n v1 v2 v3 = some z → ∀ (H : Heap) (locs : List Loc) (ls : Array Slot), va_P (dC, dI) classes (w12 ca q S) H → va_D A (w12 ca q S) → va_S A s.heap H locs → lv_has ls 4 [(0, .ref (q 0)), (1, .int (v1)), (2, .int (v2)), (3, .int (v3))] → W p l e rmX12_whyNoLaw s m args below meth c H locs 0 0 (MQ below (tc_QI dC dI ca A (w12 ca q S) (z)) args s 0 0 A) (F0 m 56 ls []) := by
  obtain ⟨hx, hb, hr, hml, hown, hts, hlk, hK, hA, hG⟩ := id X
  intro n
  induction n with
  | zero => intro v1 v2 v3 hf; exact absurd (show none = some z from hf) (fun h => by cases h)
  | succ n ih =>
    intro v1 v2 v3 hf H locs ls hP hD hS hl
    rw [fX12_whyNoLaw_56] at hf
    refine lv_iload_n hx hb dX12_whyNoLaw_56 rfl (lv_at hl 3 rfl) ?_
    refine lv_iload_n hx hb dX12_whyNoLaw_57 rfl (lv_at hl 2 rfl) ?_
    refine lv_icmp_ge (tgt := 107) hx hb dX12_whyNoLaw_58 (by decide) (fun hc => ?_) (fun hc => ?_)
    · have hf := tc_pos hc hf
      refine lv_iconst (v := (0 : Int32)) hx hb dX12_whyNoLaw_107 (by decide) ?_
      obtain rfl := Option.some.inj hf
      exact tc_ri X hP hD hS rfl dX12_whyNoLaw_108 rfl rfl
    · have hf := tc_neg hc hf
      refine lv_aload_n hx hb dX12_whyNoLaw_61 rfl (lv_at hl 0 rfl) ?_
      refine lv_iload_n hx hb dX12_whyNoLaw_62 rfl (lv_at hl 1 rfl) ?_
      refine lv_iconst (v := (2 : Int32)) hx hb dX12_whyNoLaw_63 (by decide) ?_
      refine lv_iload_n hx hb dX12_whyNoLaw_64 rfl (lv_at hl 3 rfl) ?_
      refine lv_imul hx hb dX12_whyNoLaw_65 ?_
      obtain ⟨z5, hg, hf⟩ := tc_bi hf
      refine tc_lVs (As := [.int (v1), .int ((2 : Int32) * v3)]) (rest := []) (b := q 0) X hP hD hS (mX12_numberOf hg) okX12_numberOf wl_X12_433 wi_X12_numberOf ws_X12_X12_numberOf_X12_numberOf ⟨rfl, rfl, Nat.le_of_ble_eq_true rfl, Nat.le_of_ble_eq_true rfl⟩ 12 0 rfl rfl rfl hl.1 (Nat.le_of_ble_eq_true rfl) dX12_whyNoLaw_66 (fun H locs hP hD hS => ?_)
      refine lv_lconst (v := (1 : Int64)) hx hb dX12_whyNoLaw_69 (by decide) ?_
      refine lv_ldc2 (v := (9 : Int64)) hx hb hown (hts _ wk_X12_331) dX12_whyNoLaw_70 ?_
      obtain ⟨z6, hg, hf⟩ := tc_bi hf
      refine tc_iS0 (As := [.long (z5), .long ((1 : Int64)), .long ((9 : Int64))]) (rest := []) X hP hD hS (mX12_isIn hg) okX12_isIn wl_X12_98 wt_X12_isIn ⟨rfl, rfl, Nat.le_of_ble_eq_true rfl, Nat.le_of_ble_eq_true rfl⟩ rfl hl.1 (Nat.le_of_ble_eq_true rfl) dX12_whyNoLaw_73 (fun H locs hP hD hS => ?_)
      refine lv_if_eq (tgt := 99) hx hb dX12_whyNoLaw_76 (by decide) (fun hc => ?_) (fun hc => ?_)
      · have hf := tc_pos hc hf
        refine lv_iconst (v := (5 : Int32)) hx hb dX12_whyNoLaw_99 (by decide) ?_
        obtain rfl := Option.some.inj hf
        exact tc_ri X hP hD hS rfl dX12_whyNoLaw_100 rfl rfl
      · have hf := tc_neg hc hf
        refine lv_aload_n hx hb dX12_whyNoLaw_79 rfl (lv_at hl 0 rfl) ?_
        refine lv_iload_n hx hb dX12_whyNoLaw_80 rfl (lv_at hl 1 rfl) ?_
        refine lv_iconst (v := (2 : Int32)) hx hb dX12_whyNoLaw_81 (by decide) ?_
        refine lv_iload_n hx hb dX12_whyNoLaw_82 rfl (lv_at hl 3 rfl) ?_
        refine lv_imul hx hb dX12_whyNoLaw_83 ?_
        refine lv_iconst (v := (1 : Int32)) hx hb dX12_whyNoLaw_84 (by decide) ?_
        refine lv_iadd hx hb dX12_whyNoLaw_85 ?_
        obtain ⟨z7, hg, hf⟩ := tc_bi hf
        refine tc_lVs (As := [.int (v1), .int (((2 : Int32) * v3) + (1 : Int32))]) (rest := []) (b := q 0) X hP hD hS (mX12_numberOf hg) okX12_numberOf wl_X12_433 wi_X12_numberOf ws_X12_X12_numberOf_X12_numberOf ⟨rfl, rfl, Nat.le_of_ble_eq_true rfl, Nat.le_of_ble_eq_true rfl⟩ 12 0 rfl rfl rfl hl.1 (Nat.le_of_ble_eq_true rfl) dX12_whyNoLaw_86 (fun H locs hP hD hS => ?_)
        refine lv_lconst (v := (0 : Int64)) hx hb dX12_whyNoLaw_89 (by decide) ?_
        refine lv_ldc2 (v := (9 : Int64)) hx hb hown (hts _ wk_X12_331) dX12_whyNoLaw_90 ?_
        obtain ⟨z8, hg, hf⟩ := tc_bi hf
        refine tc_iS0 (As := [.long (z7), .long ((0 : Int64)), .long ((9 : Int64))]) (rest := []) X hP hD hS (mX12_isIn hg) okX12_isIn wl_X12_98 wt_X12_isIn ⟨rfl, rfl, Nat.le_of_ble_eq_true rfl, Nat.le_of_ble_eq_true rfl⟩ rfl hl.1 (Nat.le_of_ble_eq_true rfl) dX12_whyNoLaw_93 (fun H locs hP hD hS => ?_)
        refine lv_if_ne (tgt := 101) hx hb dX12_whyNoLaw_96 (by decide) (fun hc => ?_) (fun hc => ?_)
        · have hf := tc_neg hc hf
          refine lv_iinc (v := v3 + (1 : Int32)) (lv' := [(3, .int (v3 + (1 : Int32))), (0, .ref (q 0)), (1, .int (v1)), (2, .int (v2))]) hx hb dX12_whyNoLaw_101 hl (k := 3) rfl rfl (by decide) rfl (fun ls hl => ?_)
          refine lv_goto (tgt := 56) hx hb dX12_whyNoLaw_104 (by decide) ?_
          exact ih v1 v2 (v3 + (1 : Int32)) hf _ _ _ hP hD hS (lv_sub hl [1, 2, 3, 0] rfl)
        · have hf := tc_pos hc hf
          refine lv_iconst (v := (5 : Int32)) hx hb dX12_whyNoLaw_99 (by decide) ?_
          obtain rfl := Option.some.inj hf
          exact tc_ri X hP hD hS rfl dX12_whyNoLaw_100 rfl rfl
set_option maxRecDepth 20000 in
theorem mX12_whyNoLaw {q : Nat → Nat}  {S : ms_T} {a1 : Int32} {a2 : Int32} {z : Int32}  (hf : fX12_whyNoLaw S a1 a2 = some z) : tc_MI l dC dI ca yX12_whyNoLaw cX12_whyNoLaw 4 (some .int) rmX12_whyNoLaw [.ref (q 0), .int (a1), .int (a2)] (w12 ca q S) (w12 ca q S) (z) := by
  refine tc_metI (own := RX12) (by decide) rfl ?_ (Nat.le_of_ble_eq_true rfl)
  intro p e s m below meth c A X hP hD hS ls hl
  obtain ⟨hx, hb, hr, hml, hown, hts, hlk, hK, hA, hG⟩ := id X
  unfold fX12_whyNoLaw at hf
  have hl : lv_has ls 4 [(0, .ref (q 0)), (1, .int (a1)), (2, .int (a2))] := hl
  refine lv_aload_n hx hb dX12_whyNoLaw_0 rfl (lv_at hl 0 rfl) ?_
  refine lv_iload_n hx hb dX12_whyNoLaw_1 rfl (lv_at hl 1 rfl) ?_
  obtain ⟨z1, hg, hf⟩ := tc_bi hf
  refine tc_iVs (As := [.int (a1)]) (rest := []) (b := q 0) X hP hD hS (mX12_isTray hg) okX12_isTray wl_X12_370 wi_X12_isTray ws_X12_X12_isTray_X12_isTray ⟨rfl, rfl, Nat.le_of_ble_eq_true rfl, Nat.le_of_ble_eq_true rfl⟩ 12 0 rfl rfl rfl hl.1 (Nat.le_of_ble_eq_true rfl) dX12_whyNoLaw_2 (fun H locs hP hD hS => ?_)
  refine lv_if_ne (tgt := 10) hx hb dX12_whyNoLaw_5 (by decide) (fun hc => ?_) (fun hc => ?_)
  · have hf := tc_neg hc hf
    refine lv_aload_n hx hb dX12_whyNoLaw_10 rfl (lv_at hl 0 rfl) ?_
    refine va_get (D := (dC, dI)) (ci := 12) (v := .ref (q 2)) (C := RX12) (T := TX12) (N := 49) hx hb hts i_X12 hown hK hP 0 rfl rfl 5 (by decide) (hts _ wf_X12_17) (fun _ h9 => h9) rfl dX12_whyNoLaw_11 ?_
    refine lv_iload_n hx hb dX12_whyNoLaw_14 rfl (lv_at hl 1 rfl) ?_
    obtain ⟨hi2, hf⟩ := tc_in hf
    refine va_iald hx hb hK hP 2 1 rfl rfl hi2 dX12_whyNoLaw_15 ?_
    refine lv_if_ge (tgt := 21) hx hb dX12_whyNoLaw_16 (by decide) (fun hc => ?_) (fun hc => ?_)
    · have hf := tc_pos hc hf
      refine lv_aload_n hx hb dX12_whyNoLaw_21 rfl (lv_at hl 0 rfl) ?_
      refine va_get (D := (dC, dI)) (ci := 12) (v := .ref (q 2)) (C := RX12) (T := TX12) (N := 49) hx hb hts i_X12 hown hK hP 0 rfl rfl 5 (by decide) (hts _ wf_X12_17) (fun _ h9 => h9) rfl dX12_whyNoLaw_22 ?_
      refine lv_iload_n hx hb dX12_whyNoLaw_25 rfl (lv_at hl 1 rfl) ?_
      obtain ⟨hi3, hf⟩ := tc_in hf
      refine va_iald hx hb hK hP 2 1 rfl rfl hi3 dX12_whyNoLaw_26 ?_
      refine lv_i2l (v := (ia S 2 a1).toInt64) hx hb dX12_whyNoLaw_27 rfl ?_
      refine lv_ldc2 (v := (2 : Int64)) hx hb hown (hts _ wk_X12_421) dX12_whyNoLaw_28 ?_
      refine lv_iload_n hx hb dX12_whyNoLaw_31 rfl (lv_at hl 2 rfl) ?_
      refine lv_i2l (v := a2.toInt64) hx hb dX12_whyNoLaw_32 rfl ?_
      refine lv_lmul hx hb dX12_whyNoLaw_33 ?_
      refine W.lcmp hx hb dX12_whyNoLaw_34 ?_
      refine lv_if_ge (tgt := 40) hx hb dX12_whyNoLaw_35 (by decide) (fun hc => ?_) (fun hc => ?_)
      · have hf := tc_pos hc hf
        refine lv_iload_n hx hb dX12_whyNoLaw_40 rfl (lv_at hl 2 rfl) ?_
        refine lv_i2l (v := a2.toInt64) hx hb dX12_whyNoLaw_41 rfl ?_
        refine lv_lconst (v := (0 : Int64)) hx hb dX12_whyNoLaw_42 (by decide) ?_
        refine lv_ldc2 (v := (20 : Int64)) hx hb hown (hts _ wk_X12_402) dX12_whyNoLaw_43 ?_
        obtain ⟨z4, hg, hf⟩ := tc_bi hf
        refine tc_iS0 (As := [.long (a2.toInt64), .long ((0 : Int64)), .long ((20 : Int64))]) (rest := []) X hP hD hS (mX12_isIn hg) okX12_isIn wl_X12_98 wt_X12_isIn ⟨rfl, rfl, Nat.le_of_ble_eq_true rfl, Nat.le_of_ble_eq_true rfl⟩ rfl hl.1 (Nat.le_of_ble_eq_true rfl) dX12_whyNoLaw_46 (fun H locs hP hD hS => ?_)
        refine lv_if_ne (tgt := 54) hx hb dX12_whyNoLaw_49 (by decide) (fun hc => ?_) (fun hc => ?_)
        · have hf := tc_neg hc hf
          refine lv_iconst (v := (0 : Int32)) hx hb dX12_whyNoLaw_54 (by decide) ?_
          refine lv_istore_n (lv' := [(3, .int ((0 : Int32))), (0, .ref (q 0)), (1, .int (a1)), (2, .int (a2))]) hx hb dX12_whyNoLaw_55 rfl hl (by decide) rfl (fun ls hl => ?_)
          exact tX12_whyNoLaw_56 X z S FU a1 a2 (0 : Int32) hf _ _ _ hP hD hS (lv_sub hl [1, 2, 3, 0] rfl)
        · have hf := tc_pos hc hf
          refine lv_iconst (v := (5 : Int32)) hx hb dX12_whyNoLaw_52 (by decide) ?_
          obtain rfl := Option.some.inj hf
          exact tc_ri X hP hD hS rfl dX12_whyNoLaw_53 rfl rfl
      · have hf := tc_neg hc hf
        refine lv_iconst (v := (4 : Int32)) hx hb dX12_whyNoLaw_38 (by decide) ?_
        obtain rfl := Option.some.inj hf
        exact tc_ri X hP hD hS rfl dX12_whyNoLaw_39 rfl rfl
    · have hf := tc_neg hc hf
      refine lv_iconst (v := (3 : Int32)) hx hb dX12_whyNoLaw_19 (by decide) ?_
      obtain rfl := Option.some.inj hf
      exact tc_ri X hP hD hS rfl dX12_whyNoLaw_20 rfl rfl
  · have hf := tc_pos hc hf
    refine lv_iconst (v := (1 : Int32)) hx hb dX12_whyNoLaw_8 (by decide) ?_
    obtain rfl := Option.some.inj hf
    exact tc_ri X hP hD hS rfl dX12_whyNoLaw_9 rfl rfl
def fX12_laysLaws_93   (k12 : ms_T → Int32 → Int32 → Int32 → Option (ms_T)) (S : ms_T) (v1 : Int32) (v2 : Int32) (v3 : Int32) (v4 : Int32) (t0 : Int32) (t1 : Int32) : Option (ms_T) :=
  if v4 = 0 then
    k12 (si (si S 27 (t1 + t0)) 28 ((gi (si S 27 (t1 + t0)) 28) ||| (0 : Int32))) v1 v2 (v3 + (1 : Int32))
  else
    k12 (si (si S 27 (t1 + t0)) 28 ((gi (si S 27 (t1 + t0)) 28) ||| ((1 : Int32) <<< (v3 &&& 31)))) v1 v2 (v3 + (1 : Int32))
def fX12_laysLaws_24   (k12 : ms_T → Int32 → Int32 → Int32 → Option (ms_T)) : Nat → ms_T → Int32 → Int32 → Int32 → Int32 → Int32 → Option (ms_T)
  | 0, _, _, _, _, _, _ => none
  | n + 1, S, v1, v2, v3, v4, v5 =>
    if v2 ≤ v5 then
      if v4 = 0 then
        fX12_laysLaws_93 k12 S v1 v2 v3 v4 (0 : Int32) (gi S 27)
      else
        fX12_laysLaws_93 k12 S v1 v2 v3 v4 (1 : Int32) (gi S 27)
    else
      if v4 = 0 then
        fX12_laysLaws_24 k12 n S v1 v2 v3 (0 : Int32) (v5 + (1 : Int32))
      else
        (fX12_numberOf S v1 ((2 : Int32) * v5)).bind fun z1 =>
        (fX12_lands v3 z1.toInt32).bind fun z2 =>
        (fX12_numberOf S v1 (((2 : Int32) * v5) + (1 : Int32))).bind fun z3 =>
        if (lg_cmp z2.toInt64 z3) = 0 then
          fX12_laysLaws_24 k12 n S v1 v2 v3 (1 : Int32) (v5 + (1 : Int32))
        else
          fX12_laysLaws_24 k12 n S v1 v2 v3 (0 : Int32) (v5 + (1 : Int32))
def fX12_laysLaws_12    : Nat → ms_T → Int32 → Int32 → Int32 → Option (ms_T)
  | 0, _, _, _, _ => none
  | n + 1, S, v1, v2, v3 =>
    if (32 : Int32) ≤ v3 then
      some (S)
    else
      fX12_laysLaws_24 (fX12_laysLaws_12 n) FU S v1 v2 v3 (1 : Int32) (0 : Int32)
def fX12_laysLaws  (S : ms_T) (a1 : Int32) (a2 : Int32) : Option (ms_T) :=
  fX12_laysLaws_12 FU (si (si S 27 (0 : Int32)) 28 (0 : Int32)) a1 a2 (0 : Int32)
abbrev rmX12_laysLaws : Room := { frames := 2, cells := 0, slots := 0, locals := 44 }
theorem okX12_laysLaws : tc_ok yX12_laysLaws cX12_laysLaws 6 none 2 := ⟨wc_X12_laysLaws, wn_X12, by decide, by decide, by decide +kernel⟩
set_option maxRecDepth 20000 in
theorem tX12_laysLaws_93 {q : Nat → Nat}  (X : tc_X dC dI ca A RX12 cX12_laysLaws 6 none p s m args meth c) (z : ms_T)   (k12 : ms_T → Int32 → Int32 → Int32 → Option (ms_T)) (hk12 : ∀ (S : ms_T) (v1 : Int32) (v2 : Int32) (v3 : Int32), k12 S v1 v2 v3 = some z → ∀ (H : Heap) (locs : List Loc) (ls : Array Slot), va_P (dC, dI) classes (w12 ca q S) H → va_D A (w12 ca q S) → va_S A s.heap H locs → lv_has ls 6 [(0, .ref (q 0)), (1, .int (v1)), (2, .int (v2)), (3, .int (v3))] → W p l e rmX12_laysLaws s m args below meth c H locs 0 0 (MQ below (tc_QV dC dI ca A (w12 ca q z)) args s 0 0 A) (F0 m 12 ls [])) : ∀ (S : ms_T) (v1 : Int32) (v2 : Int32) (v3 : Int32) (v4 : Int32) (t0 : Int32) (t1 : Int32), fX12_laysLaws_93 k12 S v1 v2 v3 v4 t0 t1 = some z → ∀ (H : Heap) (locs : List Loc) (ls : Array Slot), va_P (dC, dI) classes (w12 ca q S) H → va_D A (w12 ca q S) → va_S A s.heap H locs → lv_has ls 6 [(0, .ref (q 0)), (1, .int (v1)), (2, .int (v2)), (3, .int (v3)), (4, .int (v4))] → W p l e rmX12_laysLaws s m args below meth c H locs 0 0 (MQ below (tc_QV dC dI ca A (w12 ca q z)) args s 0 0 A) (F0 m 93 ls [.int (t0), .int (t1), .ref (q 0)]) := by
  obtain ⟨hx, hb, hr, hml, hown, hts, hlk, hK, hA, hG⟩ := id X
  intro S v1 v2 v3 v4 t0 t1 hf H locs ls hP hD hS hl
  unfold fX12_laysLaws_93 at hf
  refine lv_iadd hx hb dX12_laysLaws_93 ?_
  refine va_put (D := (dC, dI)) (ci := 12) (v := .int (t1 + t0)) (ty := .int) (C := RX12) (T := TX12) (N := 49) hx hb hts i_X12 tyX12 tyX12_ok nmX12 hown hK hP hD hS 0 rfl rfl 27 (by decide) (hts _ wf_X12_437) (fun _ h9 => h9) rfl (tyX12_ok 27 (by decide)) rfl rfl (Nat.le_of_ble_eq_true rfl) dX12_laysLaws_94 (fun H locs hP hD hS => ?_)
  have hP := tc_eP (pw12_0_27 ca q S (t1 + t0)) hP
  have hD := tc_eD (pw12_0_27 ca q S (t1 + t0)) hD
  refine lv_aload_n hx hb dX12_laysLaws_97 rfl (lv_at hl 0 rfl) ?_
  refine lv_dup hx hb dX12_laysLaws_98 rfl ?_
  refine va_get (D := (dC, dI)) (ci := 12) (v := .int (gi (si S 27 (t1 + t0)) 28)) (C := RX12) (T := TX12) (N := 49) hx hb hts i_X12 hown hK hP 0 rfl rfl 28 (by decide) (hts _ wf_X12_440) (fun _ h9 => h9) rfl dX12_laysLaws_99 ?_
  refine lv_iload hx hb dX12_laysLaws_102 (lv_at hl 4 rfl) ?_
  refine lv_if_eq (tgt := 113) hx hb dX12_laysLaws_104 (by decide) (fun hc => ?_) (fun hc => ?_)
  · have hf := tc_pos hc hf
    refine lv_iconst (v := (0 : Int32)) hx hb dX12_laysLaws_113 (by decide) ?_
    refine lv_ior hx hb dX12_laysLaws_114 ?_
    refine va_put (D := (dC, dI)) (ci := 12) (v := .int ((gi (si S 27 (t1 + t0)) 28) ||| (0 : Int32))) (ty := .int) (C := RX12) (T := TX12) (N := 49) hx hb hts i_X12 tyX12 tyX12_ok nmX12 hown hK hP hD hS 0 rfl rfl 28 (by decide) (hts _ wf_X12_440) (fun _ h9 => h9) rfl (tyX12_ok 28 (by decide)) rfl rfl (Nat.le_of_ble_eq_true rfl) dX12_laysLaws_115 (fun H locs hP hD hS => ?_)
    have hP := tc_eP (pw12_0_28 ca q (si S 27 (t1 + t0)) ((gi (si S 27 (t1 + t0)) 28) ||| (0 : Int32))) hP
    have hD := tc_eD (pw12_0_28 ca q (si S 27 (t1 + t0)) ((gi (si S 27 (t1 + t0)) 28) ||| (0 : Int32))) hD
    refine lv_iinc (v := v3 + (1 : Int32)) (lv' := [(3, .int (v3 + (1 : Int32))), (0, .ref (q 0)), (1, .int (v1)), (2, .int (v2)), (4, .int (v4))]) hx hb dX12_laysLaws_118 hl (k := 3) rfl rfl (by decide) rfl (fun ls hl => ?_)
    refine lv_goto (tgt := 12) hx hb dX12_laysLaws_121 (by decide) ?_
    exact hk12 (si (si S 27 (t1 + t0)) 28 ((gi (si S 27 (t1 + t0)) 28) ||| (0 : Int32))) v1 v2 (v3 + (1 : Int32)) hf _ _ _ hP hD hS (lv_sub hl [1, 2, 3, 0] rfl)
  · have hf := tc_neg hc hf
    refine lv_iconst (v := (1 : Int32)) hx hb dX12_laysLaws_107 (by decide) ?_
    refine lv_iload_n hx hb dX12_laysLaws_108 rfl (lv_at hl 3 rfl) ?_
    refine lv_ishl hx hb dX12_laysLaws_109 ?_
    refine lv_goto (tgt := 114) hx hb dX12_laysLaws_110 (by decide) ?_
    refine lv_ior hx hb dX12_laysLaws_114 ?_
    refine va_put (D := (dC, dI)) (ci := 12) (v := .int ((gi (si S 27 (t1 + t0)) 28) ||| ((1 : Int32) <<< (v3 &&& 31)))) (ty := .int) (C := RX12) (T := TX12) (N := 49) hx hb hts i_X12 tyX12 tyX12_ok nmX12 hown hK hP hD hS 0 rfl rfl 28 (by decide) (hts _ wf_X12_440) (fun _ h9 => h9) rfl (tyX12_ok 28 (by decide)) rfl rfl (Nat.le_of_ble_eq_true rfl) dX12_laysLaws_115 (fun H locs hP hD hS => ?_)
    have hP := tc_eP (pw12_0_28 ca q (si S 27 (t1 + t0)) ((gi (si S 27 (t1 + t0)) 28) ||| ((1 : Int32) <<< (v3 &&& 31)))) hP
    have hD := tc_eD (pw12_0_28 ca q (si S 27 (t1 + t0)) ((gi (si S 27 (t1 + t0)) 28) ||| ((1 : Int32) <<< (v3 &&& 31)))) hD
    refine lv_iinc (v := v3 + (1 : Int32)) (lv' := [(3, .int (v3 + (1 : Int32))), (0, .ref (q 0)), (1, .int (v1)), (2, .int (v2)), (4, .int (v4))]) hx hb dX12_laysLaws_118 hl (k := 3) rfl rfl (by decide) rfl (fun ls hl => ?_)
    refine lv_goto (tgt := 12) hx hb dX12_laysLaws_121 (by decide) ?_
    exact hk12 (si (si S 27 (t1 + t0)) 28 ((gi (si S 27 (t1 + t0)) 28) ||| ((1 : Int32) <<< (v3 &&& 31)))) v1 v2 (v3 + (1 : Int32)) hf _ _ _ hP hD hS (lv_sub hl [1, 2, 3, 0] rfl)
set_option maxRecDepth 20000 in
theorem tX12_laysLaws_24 {q : Nat → Nat}  (X : tc_X dC dI ca A RX12 cX12_laysLaws 6 none p s m args meth c) (z : ms_T)   (k12 : ms_T → Int32 → Int32 → Int32 → Option (ms_T)) (hk12 : ∀ (S : ms_T) (v1 : Int32) (v2 : Int32) (v3 : Int32), k12 S v1 v2 v3 = some z → ∀ (H : Heap) (locs : List Loc) (ls : Array Slot), va_P (dC, dI) classes (w12 ca q S) H → va_D A (w12 ca q S) → va_S A s.heap H locs → lv_has ls 6 [(0, .ref (q 0)), (1, .int (v1)), (2, .int (v2)), (3, .int (v3))] → W p l e rmX12_laysLaws s m args below meth c H locs 0 0 (MQ below (tc_QV dC dI ca A (w12 ca q z)) args s 0 0 A) (F0 m 12 ls [])) : ∀ n : Nat, ∀ (S : ms_T) (v1 : Int32) (v2 : Int32) (v3 : Int32) (v4 : Int32) (v5 : Int32), fX12_laysLaws_24 k12 n S v1 v2 v3 v4 v5 = some z → ∀ (H : Heap) (locs : List Loc) (ls : Array Slot), va_P (dC, dI) classes (w12 ca q S) H → va_D A (w12 ca q S) → va_S A s.heap H locs → lv_has ls 6 [(0, .ref (q 0)), (1, .int (v1)), (2, .int (v2)), (3, .int (v3)), (4, .int (v4)), (5, .int (v5))] → W p l e rmX12_laysLaws s m args below meth c H locs 0 0 (MQ below (tc_QV dC dI ca A (w12 ca q z)) args s 0 0 A) (F0 m 24 ls []) := by
  obtain ⟨hx, hb, hr, hml, hown, hts, hlk, hK, hA, hG⟩ := id X
  intro n
  induction n with
  | zero => intro S v1 v2 v3 v4 v5 hf; exact absurd (show none = some z from hf) (fun h => by cases h)
  | succ n ih =>
    intro S v1 v2 v3 v4 v5 hf H locs ls hP hD hS hl
    rw [fX12_laysLaws_24] at hf
    refine lv_iload hx hb dX12_laysLaws_24 (lv_at hl 5 rfl) ?_
    refine lv_iload_n hx hb dX12_laysLaws_26 rfl (lv_at hl 2 rfl) ?_
    refine lv_icmp_ge (tgt := 78) hx hb dX12_laysLaws_27 (by decide) (fun hc => ?_) (fun hc => ?_)
    · have hf := tc_pos hc hf
      refine lv_aload_n hx hb dX12_laysLaws_78 rfl (lv_at hl 0 rfl) ?_
      refine lv_dup hx hb dX12_laysLaws_79 rfl ?_
      refine va_get (D := (dC, dI)) (ci := 12) (v := .int (gi S 27)) (C := RX12) (T := TX12) (N := 49) hx hb hts i_X12 hown hK hP 0 rfl rfl 27 (by decide) (hts _ wf_X12_437) (fun _ h9 => h9) rfl dX12_laysLaws_80 ?_
      refine lv_iload hx hb dX12_laysLaws_83 (lv_at hl 4 rfl) ?_
      refine lv_if_eq (tgt := 92) hx hb dX12_laysLaws_85 (by decide) (fun hc => ?_) (fun hc => ?_)
      · have hf := tc_pos hc hf
        refine lv_iconst (v := (0 : Int32)) hx hb dX12_laysLaws_92 (by decide) ?_
        exact tX12_laysLaws_93 X z k12 hk12 S v1 v2 v3 v4 (0 : Int32) (gi S 27) hf _ _ _ hP hD hS (lv_sub hl [0, 1, 2, 3, 4] rfl)
      · have hf := tc_neg hc hf
        refine lv_iconst (v := (1 : Int32)) hx hb dX12_laysLaws_88 (by decide) ?_
        refine lv_goto (tgt := 93) hx hb dX12_laysLaws_89 (by decide) ?_
        exact tX12_laysLaws_93 X z k12 hk12 S v1 v2 v3 v4 (1 : Int32) (gi S 27) hf _ _ _ hP hD hS (lv_sub hl [0, 1, 2, 3, 4] rfl)
    · have hf := tc_neg hc hf
      refine lv_iload hx hb dX12_laysLaws_30 (lv_at hl 4 rfl) ?_
      refine lv_if_eq (tgt := 69) hx hb dX12_laysLaws_32 (by decide) (fun hc => ?_) (fun hc => ?_)
      · have hf := tc_pos hc hf
        refine lv_iconst (v := (0 : Int32)) hx hb dX12_laysLaws_69 (by decide) ?_
        refine lv_istore (lv' := [(4, .int ((0 : Int32))), (0, .ref (q 0)), (1, .int (v1)), (2, .int (v2)), (3, .int (v3)), (5, .int (v5))]) hx hb dX12_laysLaws_70 hl (by decide) rfl (fun ls hl => ?_)
        refine lv_iinc (v := v5 + (1 : Int32)) (lv' := [(5, .int (v5 + (1 : Int32))), (4, .int ((0 : Int32))), (0, .ref (q 0)), (1, .int (v1)), (2, .int (v2)), (3, .int (v3))]) hx hb dX12_laysLaws_72 hl (k := 5) rfl rfl (by decide) rfl (fun ls hl => ?_)
        refine lv_goto (tgt := 24) hx hb dX12_laysLaws_75 (by decide) ?_
        exact ih S v1 v2 v3 (0 : Int32) (v5 + (1 : Int32)) hf _ _ _ hP hD hS (lv_sub hl [2, 3, 4, 5, 1, 0] rfl)
      · have hf := tc_neg hc hf
        refine lv_iload_n hx hb dX12_laysLaws_35 rfl (lv_at hl 3 rfl) ?_
        refine lv_aload_n hx hb dX12_laysLaws_36 rfl (lv_at hl 0 rfl) ?_
        refine lv_iload_n hx hb dX12_laysLaws_37 rfl (lv_at hl 1 rfl) ?_
        refine lv_iconst (v := (2 : Int32)) hx hb dX12_laysLaws_38 (by decide) ?_
        refine lv_iload hx hb dX12_laysLaws_39 (lv_at hl 5 rfl) ?_
        refine lv_imul hx hb dX12_laysLaws_41 ?_
        obtain ⟨z1, hg, hf⟩ := tc_bi hf
        refine tc_lVs (As := [.int (v1), .int ((2 : Int32) * v5)]) (rest := [.int (v3)]) (b := q 0) X hP hD hS (mX12_numberOf hg) okX12_numberOf wl_X12_433 wi_X12_numberOf ws_X12_X12_numberOf_X12_numberOf ⟨rfl, rfl, Nat.le_of_ble_eq_true rfl, Nat.le_of_ble_eq_true rfl⟩ 12 0 rfl rfl rfl hl.1 (Nat.le_of_ble_eq_true rfl) dX12_laysLaws_42 (fun H locs hP hD hS => ?_)
        refine lv_l2i (v := z1.toInt32) hx hb dX12_laysLaws_45 rfl ?_
        obtain ⟨z2, hg, hf⟩ := tc_bi hf
        refine tc_iS0 (As := [.int (v3), .int (z1.toInt32)]) (rest := []) X hP hD hS (mX12_lands hg) okX12_lands wl_X12_443 wt_X12_lands ⟨rfl, rfl, Nat.le_of_ble_eq_true rfl, Nat.le_of_ble_eq_true rfl⟩ rfl hl.1 (Nat.le_of_ble_eq_true rfl) dX12_laysLaws_46 (fun H locs hP hD hS => ?_)
        refine lv_i2l (v := z2.toInt64) hx hb dX12_laysLaws_49 rfl ?_
        refine lv_aload_n hx hb dX12_laysLaws_50 rfl (lv_at hl 0 rfl) ?_
        refine lv_iload_n hx hb dX12_laysLaws_51 rfl (lv_at hl 1 rfl) ?_
        refine lv_iconst (v := (2 : Int32)) hx hb dX12_laysLaws_52 (by decide) ?_
        refine lv_iload hx hb dX12_laysLaws_53 (lv_at hl 5 rfl) ?_
        refine lv_imul hx hb dX12_laysLaws_55 ?_
        refine lv_iconst (v := (1 : Int32)) hx hb dX12_laysLaws_56 (by decide) ?_
        refine lv_iadd hx hb dX12_laysLaws_57 ?_
        obtain ⟨z3, hg, hf⟩ := tc_bi hf
        refine tc_lVs (As := [.int (v1), .int (((2 : Int32) * v5) + (1 : Int32))]) (rest := [.long (z2.toInt64)]) (b := q 0) X hP hD hS (mX12_numberOf hg) okX12_numberOf wl_X12_433 wi_X12_numberOf ws_X12_X12_numberOf_X12_numberOf ⟨rfl, rfl, Nat.le_of_ble_eq_true rfl, Nat.le_of_ble_eq_true rfl⟩ 12 0 rfl rfl rfl hl.1 (Nat.le_of_ble_eq_true rfl) dX12_laysLaws_58 (fun H locs hP hD hS => ?_)
        refine W.lcmp hx hb dX12_laysLaws_61 ?_
        refine lv_if_ne (tgt := 69) hx hb dX12_laysLaws_62 (by decide) (fun hc => ?_) (fun hc => ?_)
        · have hf := tc_neg hc hf
          refine lv_iconst (v := (0 : Int32)) hx hb dX12_laysLaws_69 (by decide) ?_
          refine lv_istore (lv' := [(4, .int ((0 : Int32))), (0, .ref (q 0)), (1, .int (v1)), (2, .int (v2)), (3, .int (v3)), (5, .int (v5))]) hx hb dX12_laysLaws_70 hl (by decide) rfl (fun ls hl => ?_)
          refine lv_iinc (v := v5 + (1 : Int32)) (lv' := [(5, .int (v5 + (1 : Int32))), (4, .int ((0 : Int32))), (0, .ref (q 0)), (1, .int (v1)), (2, .int (v2)), (3, .int (v3))]) hx hb dX12_laysLaws_72 hl (k := 5) rfl rfl (by decide) rfl (fun ls hl => ?_)
          refine lv_goto (tgt := 24) hx hb dX12_laysLaws_75 (by decide) ?_
          exact ih S v1 v2 v3 (0 : Int32) (v5 + (1 : Int32)) hf _ _ _ hP hD hS (lv_sub hl [2, 3, 4, 5, 1, 0] rfl)
        · have hf := tc_pos hc hf
          refine lv_iconst (v := (1 : Int32)) hx hb dX12_laysLaws_65 (by decide) ?_
          refine lv_goto (tgt := 70) hx hb dX12_laysLaws_66 (by decide) ?_
          refine lv_istore (lv' := [(4, .int ((1 : Int32))), (0, .ref (q 0)), (1, .int (v1)), (2, .int (v2)), (3, .int (v3)), (5, .int (v5))]) hx hb dX12_laysLaws_70 hl (by decide) rfl (fun ls hl => ?_)
          refine lv_iinc (v := v5 + (1 : Int32)) (lv' := [(5, .int (v5 + (1 : Int32))), (4, .int ((1 : Int32))), (0, .ref (q 0)), (1, .int (v1)), (2, .int (v2)), (3, .int (v3))]) hx hb dX12_laysLaws_72 hl (k := 5) rfl rfl (by decide) rfl (fun ls hl => ?_)
          refine lv_goto (tgt := 24) hx hb dX12_laysLaws_75 (by decide) ?_
          exact ih S v1 v2 v3 (1 : Int32) (v5 + (1 : Int32)) hf _ _ _ hP hD hS (lv_sub hl [2, 3, 4, 5, 1, 0] rfl)
set_option maxRecDepth 20000 in
theorem tX12_laysLaws_12 {q : Nat → Nat}  (X : tc_X dC dI ca A RX12 cX12_laysLaws 6 none p s m args meth c) (z : ms_T)     : ∀ n : Nat, ∀ (S : ms_T) (v1 : Int32) (v2 : Int32) (v3 : Int32), fX12_laysLaws_12 n S v1 v2 v3 = some z → ∀ (H : Heap) (locs : List Loc) (ls : Array Slot), va_P (dC, dI) classes (w12 ca q S) H → va_D A (w12 ca q S) → va_S A s.heap H locs → lv_has ls 6 [(0, .ref (q 0)), (1, .int (v1)), (2, .int (v2)), (3, .int (v3))] → W p l e rmX12_laysLaws s m args below meth c H locs 0 0 (MQ below (tc_QV dC dI ca A (w12 ca q z)) args s 0 0 A) (F0 m 12 ls []) := by
  obtain ⟨hx, hb, hr, hml, hown, hts, hlk, hK, hA, hG⟩ := id X
  intro n
  induction n with
  | zero => intro S v1 v2 v3 hf; exact absurd (show none = some z from hf) (fun h => by cases h)
  | succ n ih =>
    intro S v1 v2 v3 hf H locs ls hP hD hS hl
    rw [fX12_laysLaws_12] at hf
    refine lv_iload_n hx hb dX12_laysLaws_12 rfl (lv_at hl 3 rfl) ?_
    refine lv_bipush (v := (32 : Int32)) hx hb dX12_laysLaws_13 (by decide) ?_
    refine lv_icmp_ge (tgt := 124) hx hb dX12_laysLaws_15 (by decide) (fun hc => ?_) (fun hc => ?_)
    · have hf := tc_pos hc hf
      obtain rfl := Option.some.inj hf
      exact tc_rv X hP hD hS rfl dX12_laysLaws_124 rfl
    · have hf := tc_neg hc hf
      refine lv_iconst (v := (1 : Int32)) hx hb dX12_laysLaws_18 (by decide) ?_
      refine lv_istore (lv' := [(4, .int ((1 : Int32))), (0, .ref (q 0)), (1, .int (v1)), (2, .int (v2)), (3, .int (v3))]) hx hb dX12_laysLaws_19 hl (by decide) rfl (fun ls hl => ?_)
      refine lv_iconst (v := (0 : Int32)) hx hb dX12_laysLaws_21 (by decide) ?_
      refine lv_istore (lv' := [(5, .int ((0 : Int32))), (4, .int ((1 : Int32))), (0, .ref (q 0)), (1, .int (v1)), (2, .int (v2)), (3, .int (v3))]) hx hb dX12_laysLaws_22 hl (by decide) rfl (fun ls hl => ?_)
      exact tX12_laysLaws_24 X z (fX12_laysLaws_12 n) ih FU S v1 v2 v3 (1 : Int32) (0 : Int32) hf _ _ _ hP hD hS (lv_sub hl [2, 3, 4, 5, 1, 0] rfl)
set_option maxRecDepth 20000 in
theorem mX12_laysLaws {q : Nat → Nat}  {S : ms_T} {a1 : Int32} {a2 : Int32} {z : ms_T}  (hf : fX12_laysLaws S a1 a2 = some z) : tc_MV l dC dI ca yX12_laysLaws cX12_laysLaws 6 none rmX12_laysLaws [.ref (q 0), .int (a1), .int (a2)] (w12 ca q S) (w12 ca q z) := by
  refine tc_metV (own := RX12) (by decide) rfl ?_ (Nat.le_of_ble_eq_true rfl)
  intro p e s m below meth c A X hP hD hS ls hl
  obtain ⟨hx, hb, hr, hml, hown, hts, hlk, hK, hA, hG⟩ := id X
  unfold fX12_laysLaws at hf
  have hl : lv_has ls 6 [(0, .ref (q 0)), (1, .int (a1)), (2, .int (a2))] := hl
  refine lv_aload_n hx hb dX12_laysLaws_0 rfl (lv_at hl 0 rfl) ?_
  refine lv_iconst (v := (0 : Int32)) hx hb dX12_laysLaws_1 (by decide) ?_
  refine va_put (D := (dC, dI)) (ci := 12) (v := .int ((0 : Int32))) (ty := .int) (C := RX12) (T := TX12) (N := 49) hx hb hts i_X12 tyX12 tyX12_ok nmX12 hown hK hP hD hS 0 rfl rfl 27 (by decide) (hts _ wf_X12_437) (fun _ h9 => h9) rfl (tyX12_ok 27 (by decide)) rfl rfl (Nat.le_of_ble_eq_true rfl) dX12_laysLaws_2 (fun H locs hP hD hS => ?_)
  have hP := tc_eP (pw12_0_27 ca q S (0 : Int32)) hP
  have hD := tc_eD (pw12_0_27 ca q S (0 : Int32)) hD
  refine lv_aload_n hx hb dX12_laysLaws_5 rfl (lv_at hl 0 rfl) ?_
  refine lv_iconst (v := (0 : Int32)) hx hb dX12_laysLaws_6 (by decide) ?_
  refine va_put (D := (dC, dI)) (ci := 12) (v := .int ((0 : Int32))) (ty := .int) (C := RX12) (T := TX12) (N := 49) hx hb hts i_X12 tyX12 tyX12_ok nmX12 hown hK hP hD hS 0 rfl rfl 28 (by decide) (hts _ wf_X12_440) (fun _ h9 => h9) rfl (tyX12_ok 28 (by decide)) rfl rfl (Nat.le_of_ble_eq_true rfl) dX12_laysLaws_7 (fun H locs hP hD hS => ?_)
  have hP := tc_eP (pw12_0_28 ca q (si S 27 (0 : Int32)) (0 : Int32)) hP
  have hD := tc_eD (pw12_0_28 ca q (si S 27 (0 : Int32)) (0 : Int32)) hD
  refine lv_iconst (v := (0 : Int32)) hx hb dX12_laysLaws_10 (by decide) ?_
  refine lv_istore_n (lv' := [(3, .int ((0 : Int32))), (0, .ref (q 0)), (1, .int (a1)), (2, .int (a2))]) hx hb dX12_laysLaws_11 rfl hl (by decide) rfl (fun ls hl => ?_)
  exact tX12_laysLaws_12 X z FU (si (si S 27 (0 : Int32)) 28 (0 : Int32)) a1 a2 (0 : Int32) hf _ _ _ hP hD hS (lv_sub hl [1, 2, 3, 0] rfl)
def fX12_laws  (S : ms_T) (a1 : Int32) (a2 : Int32) : Option (Int32 × ms_T) :=
  (fX12_whyNoLaw (si S 1 (0 : Int32)) a1 a2).bind fun z1 =>
  if (gi (si (si S 1 (0 : Int32)) 0 z1) 0) ≤ 0 then
    (fX12_laysLaws (si (si S 1 (0 : Int32)) 0 z1) a1 a2).bind fun z2 =>
    some (gi z2 27, z2)
  else
    some ((-1 : Int32), si (si S 1 (0 : Int32)) 0 z1)
abbrev rmX12_laws : Room := { frames := 3, cells := 0, slots := 0, locals := 69 }
theorem okX12_laws : tc_ok yX12_laws cX12_laws 3 (some .int) 2 := ⟨wc_X12_laws, wn_X12, by decide, by decide, by decide +kernel⟩
set_option maxRecDepth 20000 in
theorem mX12_laws {q : Nat → Nat}  {S : ms_T} {a1 : Int32} {a2 : Int32} {z : Int32 × ms_T}  (hf : fX12_laws S a1 a2 = some z) : tc_MI l dC dI ca yX12_laws cX12_laws 3 (some .int) rmX12_laws [.ref (q 0), .int (a1), .int (a2)] (w12 ca q S) (w12 ca q z.2) (z.1) := by
  refine tc_metI (own := RX12) (by decide) rfl ?_ (Nat.le_of_ble_eq_true rfl)
  intro p e s m below meth c A X hP hD hS ls hl
  obtain ⟨hx, hb, hr, hml, hown, hts, hlk, hK, hA, hG⟩ := id X
  unfold fX12_laws at hf
  have hl : lv_has ls 3 [(0, .ref (q 0)), (1, .int (a1)), (2, .int (a2))] := hl
  refine lv_aload_n hx hb dX12_laws_0 rfl (lv_at hl 0 rfl) ?_
  refine lv_iconst (v := (0 : Int32)) hx hb dX12_laws_1 (by decide) ?_
  refine va_put (D := (dC, dI)) (ci := 12) (v := .int ((0 : Int32))) (ty := .int) (C := RX12) (T := TX12) (N := 49) hx hb hts i_X12 tyX12 tyX12_ok nmX12 hown hK hP hD hS 0 rfl rfl 1 (by decide) (hts _ wf_X12_63) (fun _ h9 => h9) rfl (tyX12_ok 1 (by decide)) rfl rfl (Nat.le_of_ble_eq_true rfl) dX12_laws_2 (fun H locs hP hD hS => ?_)
  have hP := tc_eP (pw12_0_1 ca q S (0 : Int32)) hP
  have hD := tc_eD (pw12_0_1 ca q S (0 : Int32)) hD
  refine lv_aload_n hx hb dX12_laws_5 rfl (lv_at hl 0 rfl) ?_
  refine lv_aload_n hx hb dX12_laws_6 rfl (lv_at hl 0 rfl) ?_
  refine lv_iload_n hx hb dX12_laws_7 rfl (lv_at hl 1 rfl) ?_
  refine lv_iload_n hx hb dX12_laws_8 rfl (lv_at hl 2 rfl) ?_
  obtain ⟨z1, hg, hf⟩ := tc_bi hf
  refine tc_iVs (As := [.int (a1), .int (a2)]) (rest := [.ref (q 0)]) (b := q 0) X hP hD hS (mX12_whyNoLaw hg) okX12_whyNoLaw wl_X12_446 wi_X12_whyNoLaw ws_X12_X12_whyNoLaw_X12_whyNoLaw ⟨rfl, rfl, Nat.le_of_ble_eq_true rfl, Nat.le_of_ble_eq_true rfl⟩ 12 0 rfl rfl rfl hl.1 (Nat.le_of_ble_eq_true rfl) dX12_laws_9 (fun H locs hP hD hS => ?_)
  refine va_put (D := (dC, dI)) (ci := 12) (v := .int (z1)) (ty := .int) (C := RX12) (T := TX12) (N := 49) hx hb hts i_X12 tyX12 tyX12_ok nmX12 hown hK hP hD hS 0 rfl rfl 0 (by decide) (hts _ wf_X12_66) (fun _ h9 => h9) rfl (tyX12_ok 0 (by decide)) rfl rfl (Nat.le_of_ble_eq_true rfl) dX12_laws_12 (fun H locs hP hD hS => ?_)
  have hP := tc_eP (pw12_0_0 ca q (si S 1 (0 : Int32)) z1) hP
  have hD := tc_eD (pw12_0_0 ca q (si S 1 (0 : Int32)) z1) hD
  refine lv_aload_n hx hb dX12_laws_15 rfl (lv_at hl 0 rfl) ?_
  refine va_get (D := (dC, dI)) (ci := 12) (v := .int (gi (si (si S 1 (0 : Int32)) 0 z1) 0)) (C := RX12) (T := TX12) (N := 49) hx hb hts i_X12 hown hK hP 0 rfl rfl 0 (by decide) (hts _ wf_X12_66) (fun _ h9 => h9) rfl dX12_laws_16 ?_
  refine lv_if_le (tgt := 24) hx hb dX12_laws_19 (by decide) (fun hc => ?_) (fun hc => ?_)
  · have hf := tc_pos hc hf
    refine lv_aload_n hx hb dX12_laws_24 rfl (lv_at hl 0 rfl) ?_
    refine lv_iload_n hx hb dX12_laws_25 rfl (lv_at hl 1 rfl) ?_
    refine lv_iload_n hx hb dX12_laws_26 rfl (lv_at hl 2 rfl) ?_
    obtain ⟨z2, hg, hf⟩ := tc_bi hf
    refine tc_vVs (As := [.int (a1), .int (a2)]) (rest := []) (b := q 0) X hP hD hS (mX12_laysLaws hg) okX12_laysLaws wl_X12_449 wi_X12_laysLaws ws_X12_X12_laysLaws_X12_laysLaws ⟨rfl, rfl, Nat.le_of_ble_eq_true rfl, Nat.le_of_ble_eq_true rfl⟩ 12 0 rfl rfl rfl hl.1 (Nat.le_of_ble_eq_true rfl) dX12_laws_27 (fun H locs hP hD hS => ?_)
    refine lv_aload_n hx hb dX12_laws_30 rfl (lv_at hl 0 rfl) ?_
    refine va_get (D := (dC, dI)) (ci := 12) (v := .int (gi z2 27)) (C := RX12) (T := TX12) (N := 49) hx hb hts i_X12 hown hK hP 0 rfl rfl 27 (by decide) (hts _ wf_X12_437) (fun _ h9 => h9) rfl dX12_laws_31 ?_
    obtain rfl := Option.some.inj hf
    exact tc_ri X hP hD hS rfl dX12_laws_34 rfl rfl
  · have hf := tc_neg hc hf
    refine lv_iconst (v := (-1 : Int32)) hx hb dX12_laws_22 (by decide) ?_
    obtain rfl := Option.some.inj hf
    exact tc_ri X hP hD hS rfl dX12_laws_23 rfl rfl
def fX12_lawOf_55    : Nat → ms_T → Int32 → Int32 → Option (Int32 × ms_T)
  | 0, _, _, _ => none
  | n + 1, S, v3, v4 =>
    if (32 : Int32) ≤ v4 then
      (fX12_refuse S (8 : Int32)).bind fun z3 =>
      some (z3.1, z3.2)
    else
      (fX12_has (gi S 28) v4).bind fun z4 =>
      if z4 = 0 then
        fX12_lawOf_55 n S v3 (v4 + (1 : Int32))
      else
        if v3 = 0 then
          some (v4 / (8 : Int32), S)
        else
          some (v4 - v4 / (8 : Int32) * (8 : Int32), S)
def fX12_lawOf_37    (S : ms_T) (v1 : Int32) (v2 : Int32) (v3 : Int32) : Option (Int32 × ms_T) :=
  if (gi S 0) ≤ 0 then
    (fX12_laysLaws S v1 v2).bind fun z2 =>
    fX12_lawOf_55 FU z2 v3 (0 : Int32)
  else
    some ((-1 : Int32), S)
def fX12_lawOf  (S : ms_T) (a1 : Int32) (a2 : Int32) (a3 : Int32) : Option (Int32 × ms_T) :=
  (fX12_whyNoLaw (si S 1 (0 : Int32)) a1 a2).bind fun z1 =>
  if (gi (si (si S 1 (0 : Int32)) 0 z1) 0) = 0 then
    (fX12_isIn a3.toInt64 (0 : Int64) (1 : Int64)).bind fun z5 =>
    if z5 = 0 then
      fX12_lawOf_37 (si (si (si S 1 (0 : Int32)) 0 z1) 0 (5 : Int32)) a1 a2 a3
    else
      fX12_lawOf_37 (si (si S 1 (0 : Int32)) 0 z1) a1 a2 a3
  else
    fX12_lawOf_37 (si (si S 1 (0 : Int32)) 0 z1) a1 a2 a3
abbrev rmX12_lawOf : Room := { frames := 3, cells := 0, slots := 0, locals := 69 }
theorem okX12_lawOf : tc_ok yX12_lawOf cX12_lawOf 5 (some .int) 3 := ⟨wc_X12_lawOf, wn_X12, by decide, by decide, by decide +kernel⟩
set_option maxRecDepth 20000 in
theorem tX12_lawOf_55 {q : Nat → Nat}  (X : tc_X dC dI ca A RX12 cX12_lawOf 5 (some .int) p s m args meth c) (z : Int32 × ms_T)     : ∀ n : Nat, ∀ (S : ms_T) (v3 : Int32) (v4 : Int32), fX12_lawOf_55 n S v3 v4 = some z → ∀ (H : Heap) (locs : List Loc) (ls : Array Slot), va_P (dC, dI) classes (w12 ca q S) H → va_D A (w12 ca q S) → va_S A s.heap H locs → lv_has ls 5 [(0, .ref (q 0)), (3, .int (v3)), (4, .int (v4))] → W p l e rmX12_lawOf s m args below meth c H locs 0 0 (MQ below (tc_QI dC dI ca A (w12 ca q z.2) (z.1)) args s 0 0 A) (F0 m 55 ls []) := by
  obtain ⟨hx, hb, hr, hml, hown, hts, hlk, hK, hA, hG⟩ := id X
  intro n
  induction n with
  | zero => intro S v3 v4 hf; exact absurd (show none = some z from hf) (fun h => by cases h)
  | succ n ih =>
    intro S v3 v4 hf H locs ls hP hD hS hl
    rw [fX12_lawOf_55] at hf
    refine lv_iload hx hb dX12_lawOf_55 (lv_at hl 2 rfl) ?_
    refine lv_bipush (v := (32 : Int32)) hx hb dX12_lawOf_57 (by decide) ?_
    refine lv_icmp_ge (tgt := 98) hx hb dX12_lawOf_59 (by decide) (fun hc => ?_) (fun hc => ?_)
    · have hf := tc_pos hc hf
      refine lv_aload_n hx hb dX12_lawOf_98 rfl (lv_at hl 0 rfl) ?_
      refine lv_bipush (v := (8 : Int32)) hx hb dX12_lawOf_99 (by decide) ?_
      obtain ⟨z3, hg, hf⟩ := tc_bi hf
      refine tc_iVs (As := [.int ((8 : Int32))]) (rest := []) (b := q 0) X hP hD hS (mX12_refuse hg) okX12_refuse wl_X12_333 wi_X12_refuse ws_X12_X12_refuse_X12_refuse ⟨rfl, rfl, Nat.le_of_ble_eq_true rfl, Nat.le_of_ble_eq_true rfl⟩ 12 0 rfl rfl rfl hl.1 (Nat.le_of_ble_eq_true rfl) dX12_lawOf_101 (fun H locs hP hD hS => ?_)
      obtain rfl := Option.some.inj hf
      exact tc_ri X hP hD hS rfl dX12_lawOf_104 rfl rfl
    · have hf := tc_neg hc hf
      refine lv_aload_n hx hb dX12_lawOf_62 rfl (lv_at hl 0 rfl) ?_
      refine va_get (D := (dC, dI)) (ci := 12) (v := .int (gi S 28)) (C := RX12) (T := TX12) (N := 49) hx hb hts i_X12 hown hK hP 0 rfl rfl 28 (by decide) (hts _ wf_X12_440) (fun _ h9 => h9) rfl dX12_lawOf_63 ?_
      refine lv_iload hx hb dX12_lawOf_66 (lv_at hl 2 rfl) ?_
      obtain ⟨z4, hg, hf⟩ := tc_bi hf
      refine tc_iS0 (As := [.int (gi S 28), .int (v4)]) (rest := []) X hP hD hS (mX12_has hg) okX12_has wl_X12_102 wt_X12_has ⟨rfl, rfl, Nat.le_of_ble_eq_true rfl, Nat.le_of_ble_eq_true rfl⟩ rfl hl.1 (Nat.le_of_ble_eq_true rfl) dX12_lawOf_68 (fun H locs hP hD hS => ?_)
      refine lv_if_eq (tgt := 92) hx hb dX12_lawOf_71 (by decide) (fun hc => ?_) (fun hc => ?_)
      · have hf := tc_pos hc hf
        refine lv_iinc (v := v4 + (1 : Int32)) (lv' := [(4, .int (v4 + (1 : Int32))), (0, .ref (q 0)), (3, .int (v3))]) hx hb dX12_lawOf_92 hl (k := 2) rfl rfl (by decide) rfl (fun ls hl => ?_)
        refine lv_goto (tgt := 55) hx hb dX12_lawOf_95 (by decide) ?_
        exact ih S v3 (v4 + (1 : Int32)) hf _ _ _ hP hD hS (lv_sub hl [1, 2, 0] rfl)
      · have hf := tc_neg hc hf
        refine lv_iload_n hx hb dX12_lawOf_74 rfl (lv_at hl 1 rfl) ?_
        refine lv_if_ne (tgt := 86) hx hb dX12_lawOf_75 (by decide) (fun hc => ?_) (fun hc => ?_)
        · have hf := tc_neg hc hf
          refine lv_iload hx hb dX12_lawOf_86 (lv_at hl 2 rfl) ?_
          refine lv_bipush (v := (8 : Int32)) hx hb dX12_lawOf_88 (by decide) ?_
          refine lv_irem hx hb dX12_lawOf_90 (by decide) ?_
          obtain rfl := Option.some.inj hf
          exact tc_ri X hP hD hS rfl dX12_lawOf_91 rfl rfl
        · have hf := tc_pos hc hf
          refine lv_iload hx hb dX12_lawOf_78 (lv_at hl 2 rfl) ?_
          refine lv_bipush (v := (8 : Int32)) hx hb dX12_lawOf_80 (by decide) ?_
          refine lv_idiv hx hb dX12_lawOf_82 (by decide) ?_
          refine lv_goto (tgt := 91) hx hb dX12_lawOf_83 (by decide) ?_
          obtain rfl := Option.some.inj hf
          exact tc_ri X hP hD hS rfl dX12_lawOf_91 rfl rfl
set_option maxRecDepth 20000 in
theorem tX12_lawOf_37 {q : Nat → Nat}  (X : tc_X dC dI ca A RX12 cX12_lawOf 5 (some .int) p s m args meth c) (z : Int32 × ms_T)     : ∀ (S : ms_T) (v1 : Int32) (v2 : Int32) (v3 : Int32), fX12_lawOf_37 S v1 v2 v3 = some z → ∀ (H : Heap) (locs : List Loc) (ls : Array Slot), va_P (dC, dI) classes (w12 ca q S) H → va_D A (w12 ca q S) → va_S A s.heap H locs → lv_has ls 5 [(0, .ref (q 0)), (1, .int (v1)), (2, .int (v2)), (3, .int (v3))] → W p l e rmX12_lawOf s m args below meth c H locs 0 0 (MQ below (tc_QI dC dI ca A (w12 ca q z.2) (z.1)) args s 0 0 A) (F0 m 37 ls []) := by
  obtain ⟨hx, hb, hr, hml, hown, hts, hlk, hK, hA, hG⟩ := id X
  intro S v1 v2 v3 hf H locs ls hP hD hS hl
  unfold fX12_lawOf_37 at hf
  refine lv_aload_n hx hb dX12_lawOf_37 rfl (lv_at hl 0 rfl) ?_
  refine va_get (D := (dC, dI)) (ci := 12) (v := .int (gi S 0)) (C := RX12) (T := TX12) (N := 49) hx hb hts i_X12 hown hK hP 0 rfl rfl 0 (by decide) (hts _ wf_X12_66) (fun _ h9 => h9) rfl dX12_lawOf_38 ?_
  refine lv_if_le (tgt := 46) hx hb dX12_lawOf_41 (by decide) (fun hc => ?_) (fun hc => ?_)
  · have hf := tc_pos hc hf
    refine lv_aload_n hx hb dX12_lawOf_46 rfl (lv_at hl 0 rfl) ?_
    refine lv_iload_n hx hb dX12_lawOf_47 rfl (lv_at hl 1 rfl) ?_
    refine lv_iload_n hx hb dX12_lawOf_48 rfl (lv_at hl 2 rfl) ?_
    obtain ⟨z2, hg, hf⟩ := tc_bi hf
    refine tc_vVs (As := [.int (v1), .int (v2)]) (rest := []) (b := q 0) X hP hD hS (mX12_laysLaws hg) okX12_laysLaws wl_X12_449 wi_X12_laysLaws ws_X12_X12_laysLaws_X12_laysLaws ⟨rfl, rfl, Nat.le_of_ble_eq_true rfl, Nat.le_of_ble_eq_true rfl⟩ 12 0 rfl rfl rfl hl.1 (Nat.le_of_ble_eq_true rfl) dX12_lawOf_49 (fun H locs hP hD hS => ?_)
    refine lv_iconst (v := (0 : Int32)) hx hb dX12_lawOf_52 (by decide) ?_
    refine lv_istore (lv' := [(4, .int ((0 : Int32))), (0, .ref (q 0)), (1, .int (v1)), (2, .int (v2)), (3, .int (v3))]) hx hb dX12_lawOf_53 hl (by decide) rfl (fun ls hl => ?_)
    exact tX12_lawOf_55 X z FU z2 v3 (0 : Int32) hf _ _ _ hP hD hS (lv_sub hl [1, 4, 0] rfl)
  · have hf := tc_neg hc hf
    refine lv_iconst (v := (-1 : Int32)) hx hb dX12_lawOf_44 (by decide) ?_
    obtain rfl := Option.some.inj hf
    exact tc_ri X hP hD hS rfl dX12_lawOf_45 rfl rfl
set_option maxRecDepth 20000 in
theorem mX12_lawOf {q : Nat → Nat}  {S : ms_T} {a1 : Int32} {a2 : Int32} {a3 : Int32} {z : Int32 × ms_T}  (hf : fX12_lawOf S a1 a2 a3 = some z) : tc_MI l dC dI ca yX12_lawOf cX12_lawOf 5 (some .int) rmX12_lawOf [.ref (q 0), .int (a1), .int (a2), .int (a3)] (w12 ca q S) (w12 ca q z.2) (z.1) := by
  refine tc_metI (own := RX12) (by decide) rfl ?_ (Nat.le_of_ble_eq_true rfl)
  intro p e s m below meth c A X hP hD hS ls hl
  obtain ⟨hx, hb, hr, hml, hown, hts, hlk, hK, hA, hG⟩ := id X
  unfold fX12_lawOf at hf
  have hl : lv_has ls 5 [(0, .ref (q 0)), (1, .int (a1)), (2, .int (a2)), (3, .int (a3))] := hl
  refine lv_aload_n hx hb dX12_lawOf_0 rfl (lv_at hl 0 rfl) ?_
  refine lv_iconst (v := (0 : Int32)) hx hb dX12_lawOf_1 (by decide) ?_
  refine va_put (D := (dC, dI)) (ci := 12) (v := .int ((0 : Int32))) (ty := .int) (C := RX12) (T := TX12) (N := 49) hx hb hts i_X12 tyX12 tyX12_ok nmX12 hown hK hP hD hS 0 rfl rfl 1 (by decide) (hts _ wf_X12_63) (fun _ h9 => h9) rfl (tyX12_ok 1 (by decide)) rfl rfl (Nat.le_of_ble_eq_true rfl) dX12_lawOf_2 (fun H locs hP hD hS => ?_)
  have hP := tc_eP (pw12_0_1 ca q S (0 : Int32)) hP
  have hD := tc_eD (pw12_0_1 ca q S (0 : Int32)) hD
  refine lv_aload_n hx hb dX12_lawOf_5 rfl (lv_at hl 0 rfl) ?_
  refine lv_aload_n hx hb dX12_lawOf_6 rfl (lv_at hl 0 rfl) ?_
  refine lv_iload_n hx hb dX12_lawOf_7 rfl (lv_at hl 1 rfl) ?_
  refine lv_iload_n hx hb dX12_lawOf_8 rfl (lv_at hl 2 rfl) ?_
  obtain ⟨z1, hg, hf⟩ := tc_bi hf
  refine tc_iVs (As := [.int (a1), .int (a2)]) (rest := [.ref (q 0)]) (b := q 0) X hP hD hS (mX12_whyNoLaw hg) okX12_whyNoLaw wl_X12_446 wi_X12_whyNoLaw ws_X12_X12_whyNoLaw_X12_whyNoLaw ⟨rfl, rfl, Nat.le_of_ble_eq_true rfl, Nat.le_of_ble_eq_true rfl⟩ 12 0 rfl rfl rfl hl.1 (Nat.le_of_ble_eq_true rfl) dX12_lawOf_9 (fun H locs hP hD hS => ?_)
  refine va_put (D := (dC, dI)) (ci := 12) (v := .int (z1)) (ty := .int) (C := RX12) (T := TX12) (N := 49) hx hb hts i_X12 tyX12 tyX12_ok nmX12 hown hK hP hD hS 0 rfl rfl 0 (by decide) (hts _ wf_X12_66) (fun _ h9 => h9) rfl (tyX12_ok 0 (by decide)) rfl rfl (Nat.le_of_ble_eq_true rfl) dX12_lawOf_12 (fun H locs hP hD hS => ?_)
  have hP := tc_eP (pw12_0_0 ca q (si S 1 (0 : Int32)) z1) hP
  have hD := tc_eD (pw12_0_0 ca q (si S 1 (0 : Int32)) z1) hD
  refine lv_aload_n hx hb dX12_lawOf_15 rfl (lv_at hl 0 rfl) ?_
  refine va_get (D := (dC, dI)) (ci := 12) (v := .int (gi (si (si S 1 (0 : Int32)) 0 z1) 0)) (C := RX12) (T := TX12) (N := 49) hx hb hts i_X12 hown hK hP 0 rfl rfl 0 (by decide) (hts _ wf_X12_66) (fun _ h9 => h9) rfl dX12_lawOf_16 ?_
  refine lv_if_ne (tgt := 37) hx hb dX12_lawOf_19 (by decide) (fun hc => ?_) (fun hc => ?_)
  · have hf := tc_neg hc hf
    exact tX12_lawOf_37 X z (si (si S 1 (0 : Int32)) 0 z1) a1 a2 a3 hf _ _ _ hP hD hS (lv_sub hl [0, 1, 2, 3] rfl)
  · have hf := tc_pos hc hf
    refine lv_iload_n hx hb dX12_lawOf_22 rfl (lv_at hl 3 rfl) ?_
    refine lv_i2l (v := a3.toInt64) hx hb dX12_lawOf_23 rfl ?_
    refine lv_lconst (v := (0 : Int64)) hx hb dX12_lawOf_24 (by decide) ?_
    refine lv_lconst (v := (1 : Int64)) hx hb dX12_lawOf_25 (by decide) ?_
    obtain ⟨z5, hg, hf⟩ := tc_bi hf
    refine tc_iS0 (As := [.long (a3.toInt64), .long ((0 : Int64)), .long ((1 : Int64))]) (rest := []) X hP hD hS (mX12_isIn hg) okX12_isIn wl_X12_98 wt_X12_isIn ⟨rfl, rfl, Nat.le_of_ble_eq_true rfl, Nat.le_of_ble_eq_true rfl⟩ rfl hl.1 (Nat.le_of_ble_eq_true rfl) dX12_lawOf_26 (fun H locs hP hD hS => ?_)
    refine lv_if_ne (tgt := 37) hx hb dX12_lawOf_29 (by decide) (fun hc => ?_) (fun hc => ?_)
    · have hf := tc_neg hc hf
      exact tX12_lawOf_37 X z (si (si S 1 (0 : Int32)) 0 z1) a1 a2 a3 hf _ _ _ hP hD hS (lv_sub hl [0, 1, 2, 3] rfl)
    · have hf := tc_pos hc hf
      refine lv_aload_n hx hb dX12_lawOf_32 rfl (lv_at hl 0 rfl) ?_
      refine lv_iconst (v := (5 : Int32)) hx hb dX12_lawOf_33 (by decide) ?_
      refine va_put (D := (dC, dI)) (ci := 12) (v := .int ((5 : Int32))) (ty := .int) (C := RX12) (T := TX12) (N := 49) hx hb hts i_X12 tyX12 tyX12_ok nmX12 hown hK hP hD hS 0 rfl rfl 0 (by decide) (hts _ wf_X12_66) (fun _ h9 => h9) rfl (tyX12_ok 0 (by decide)) rfl rfl (Nat.le_of_ble_eq_true rfl) dX12_lawOf_34 (fun H locs hP hD hS => ?_)
      have hP := tc_eP (pw12_0_0 ca q (si (si S 1 (0 : Int32)) 0 z1) (5 : Int32)) hP
      have hD := tc_eD (pw12_0_0 ca q (si (si S 1 (0 : Int32)) 0 z1) (5 : Int32)) hD
      exact tX12_lawOf_37 X z (si (si (si S 1 (0 : Int32)) 0 z1) 0 (5 : Int32)) a1 a2 a3 hf _ _ _ hP hD hS (lv_sub hl [0, 1, 2, 3] rfl)
def fX12_mostAlike_16  (S : ms_T) (k4 : Int32 → Int32 → Int32 → Option (Int32)) : Nat → Int32 → Int32 → Int32 → Int32 → Int32 → Option (Int32)
  | 0, _, _, _, _, _ => none
  | n + 1, v1, v2, v3, v4, v5 =>
    if (32 : Int32) ≤ v5 then
      k4 v1 (jmax v2 v4) (v3 + (1 : Int32))
    else
      (fX12_has (gi S 28) v5).bind fun z1 =>
      if z1 = 0 then
        fX12_mostAlike_16 S k4 n v1 v2 v3 (v4 + (0 : Int32)) (v5 + (1 : Int32))
      else
        (fX12_lands v5 v1).bind fun z2 =>
        if z2 = v3 then
          fX12_mostAlike_16 S k4 n v1 v2 v3 (v4 + (1 : Int32)) (v5 + (1 : Int32))
        else
          fX12_mostAlike_16 S k4 n v1 v2 v3 (v4 + (0 : Int32)) (v5 + (1 : Int32))
def fX12_mostAlike_4  (S : ms_T)  : Nat → Int32 → Int32 → Int32 → Option (Int32)
  | 0, _, _, _ => none
  | n + 1, v1, v2, v3 =>
    if (9 : Int32) < v3 then
      some (v2)
    else
      fX12_mostAlike_16 S (fX12_mostAlike_4 S n) FU v1 v2 v3 (0 : Int32) (0 : Int32)
def fX12_mostAlike  (S : ms_T) (a1 : Int32) : Option (Int32) :=
  fX12_mostAlike_4 S FU a1 (0 : Int32) (0 : Int32)
abbrev rmX12_mostAlike : Room := { frames := 2, cells := 0, slots := 0, locals := 44 }
theorem okX12_mostAlike : tc_ok yX12_mostAlike cX12_mostAlike 6 (some .int) 1 := ⟨wc_X12_mostAlike, wn_X12, by decide, by decide, by decide +kernel⟩
set_option maxRecDepth 20000 in
theorem tX12_mostAlike_16 {q : Nat → Nat}  (X : tc_X dC dI ca A RX12 cX12_mostAlike 6 (some .int) p s m args meth c) (z : Int32)  (S : ms_T) (k4 : Int32 → Int32 → Int32 → Option (Int32)) (hk4 : ∀ (v1 : Int32) (v2 : Int32) (v3 : Int32), k4 v1 v2 v3 = some z → ∀ (H : Heap) (locs : List Loc) (ls : Array Slot), va_P (dC, dI) classes (w12 ca q S) H → va_D A (w12 ca q S) → va_S A s.heap H locs → lv_has ls 6 [(0, .ref (q 0)), (1, .int (v1)), (2, .int (v2)), (3, .int (v3))] → W p l e rmX12_mostAlike s m args below meth c H locs 0 0 (MQ below (tc_QI dC dI ca A (w12 ca q S) (z)) args s 0 0 A) (F0 m 4 ls [])) : ∀ n : Nat, ∀ (v1 : Int32) (v2 : Int32) (v3 : Int32) (v4 : Int32) (v5 : Int32), fX12_mostAlike_16 S k4 n v1 v2 v3 v4 v5 = some z → ∀ (H : Heap) (locs : List Loc) (ls : Array Slot), va_P (dC, dI) classes (w12 ca q S) H → va_D A (w12 ca q S) → va_S A s.heap H locs → lv_has ls 6 [(0, .ref (q 0)), (1, .int (v1)), (2, .int (v2)), (3, .int (v3)), (4, .int (v4)), (5, .int (v5))] → W p l e rmX12_mostAlike s m args below meth c H locs 0 0 (MQ below (tc_QI dC dI ca A (w12 ca q S) (z)) args s 0 0 A) (F0 m 16 ls []) := by
  obtain ⟨hx, hb, hr, hml, hown, hts, hlk, hK, hA, hG⟩ := id X
  intro n
  induction n with
  | zero => intro v1 v2 v3 v4 v5 hf; exact absurd (show none = some z from hf) (fun h => by cases h)
  | succ n ih =>
    intro v1 v2 v3 v4 v5 hf H locs ls hP hD hS hl
    rw [fX12_mostAlike_16] at hf
    refine lv_iload hx hb dX12_mostAlike_16 (lv_at hl 5 rfl) ?_
    refine lv_bipush (v := (32 : Int32)) hx hb dX12_mostAlike_18 (by decide) ?_
    refine lv_icmp_ge (tgt := 61) hx hb dX12_mostAlike_20 (by decide) (fun hc => ?_) (fun hc => ?_)
    · have hf := tc_pos hc hf
      refine lv_iload_n hx hb dX12_mostAlike_61 rfl (lv_at hl 2 rfl) ?_
      refine lv_iload hx hb dX12_mostAlike_62 (lv_at hl 4 rfl) ?_
      refine tc_mmax (rest := []) X hl.1 wl_X12_247 (Nat.le_of_ble_eq_true rfl) (Nat.le_of_ble_eq_true rfl) dX12_mostAlike_64 ?_
      refine lv_istore_n (lv' := [(2, .int (jmax v2 v4)), (0, .ref (q 0)), (1, .int (v1)), (3, .int (v3)), (4, .int (v4)), (5, .int (v5))]) hx hb dX12_mostAlike_67 rfl hl (by decide) rfl (fun ls hl => ?_)
      refine lv_iinc (v := v3 + (1 : Int32)) (lv' := [(3, .int (v3 + (1 : Int32))), (2, .int (jmax v2 v4)), (0, .ref (q 0)), (1, .int (v1)), (4, .int (v4)), (5, .int (v5))]) hx hb dX12_mostAlike_68 hl (k := 3) rfl rfl (by decide) rfl (fun ls hl => ?_)
      refine lv_goto (tgt := 4) hx hb dX12_mostAlike_71 (by decide) ?_
      exact hk4 v1 (jmax v2 v4) (v3 + (1 : Int32)) hf _ _ _ hP hD hS (lv_sub hl [2, 3, 1, 0] rfl)
    · have hf := tc_neg hc hf
      refine lv_iload hx hb dX12_mostAlike_23 (lv_at hl 4 rfl) ?_
      refine lv_aload_n hx hb dX12_mostAlike_25 rfl (lv_at hl 0 rfl) ?_
      refine va_get (D := (dC, dI)) (ci := 12) (v := .int (gi S 28)) (C := RX12) (T := TX12) (N := 49) hx hb hts i_X12 hown hK hP 0 rfl rfl 28 (by decide) (hts _ wf_X12_440) (fun _ h9 => h9) rfl dX12_mostAlike_26 ?_
      refine lv_iload hx hb dX12_mostAlike_29 (lv_at hl 5 rfl) ?_
      obtain ⟨z1, hg, hf⟩ := tc_bi hf
      refine tc_iS0 (As := [.int (gi S 28), .int (v5)]) (rest := [.int (v4)]) X hP hD hS (mX12_has hg) okX12_has wl_X12_102 wt_X12_has ⟨rfl, rfl, Nat.le_of_ble_eq_true rfl, Nat.le_of_ble_eq_true rfl⟩ rfl hl.1 (Nat.le_of_ble_eq_true rfl) dX12_mostAlike_31 (fun H locs hP hD hS => ?_)
      refine lv_if_eq (tgt := 51) hx hb dX12_mostAlike_34 (by decide) (fun hc => ?_) (fun hc => ?_)
      · have hf := tc_pos hc hf
        refine lv_iconst (v := (0 : Int32)) hx hb dX12_mostAlike_51 (by decide) ?_
        refine lv_iadd hx hb dX12_mostAlike_52 ?_
        refine lv_istore (lv' := [(4, .int (v4 + (0 : Int32))), (0, .ref (q 0)), (1, .int (v1)), (2, .int (v2)), (3, .int (v3)), (5, .int (v5))]) hx hb dX12_mostAlike_53 hl (by decide) rfl (fun ls hl => ?_)
        refine lv_iinc (v := v5 + (1 : Int32)) (lv' := [(5, .int (v5 + (1 : Int32))), (4, .int (v4 + (0 : Int32))), (0, .ref (q 0)), (1, .int (v1)), (2, .int (v2)), (3, .int (v3))]) hx hb dX12_mostAlike_55 hl (k := 5) rfl rfl (by decide) rfl (fun ls hl => ?_)
        refine lv_goto (tgt := 16) hx hb dX12_mostAlike_58 (by decide) ?_
        exact ih v1 v2 v3 (v4 + (0 : Int32)) (v5 + (1 : Int32)) hf _ _ _ hP hD hS (lv_sub hl [2, 3, 4, 5, 1, 0] rfl)
      · have hf := tc_neg hc hf
        refine lv_iload hx hb dX12_mostAlike_37 (lv_at hl 5 rfl) ?_
        refine lv_iload_n hx hb dX12_mostAlike_39 rfl (lv_at hl 1 rfl) ?_
        obtain ⟨z2, hg, hf⟩ := tc_bi hf
        refine tc_iS0 (As := [.int (v5), .int (v1)]) (rest := [.int (v4)]) X hP hD hS (mX12_lands hg) okX12_lands wl_X12_443 wt_X12_lands ⟨rfl, rfl, Nat.le_of_ble_eq_true rfl, Nat.le_of_ble_eq_true rfl⟩ rfl hl.1 (Nat.le_of_ble_eq_true rfl) dX12_mostAlike_40 (fun H locs hP hD hS => ?_)
        refine lv_iload_n hx hb dX12_mostAlike_43 rfl (lv_at hl 3 rfl) ?_
        refine lv_icmp_ne (tgt := 51) hx hb dX12_mostAlike_44 (by decide) (fun hc => ?_) (fun hc => ?_)
        · have hf := tc_neg hc hf
          refine lv_iconst (v := (0 : Int32)) hx hb dX12_mostAlike_51 (by decide) ?_
          refine lv_iadd hx hb dX12_mostAlike_52 ?_
          refine lv_istore (lv' := [(4, .int (v4 + (0 : Int32))), (0, .ref (q 0)), (1, .int (v1)), (2, .int (v2)), (3, .int (v3)), (5, .int (v5))]) hx hb dX12_mostAlike_53 hl (by decide) rfl (fun ls hl => ?_)
          refine lv_iinc (v := v5 + (1 : Int32)) (lv' := [(5, .int (v5 + (1 : Int32))), (4, .int (v4 + (0 : Int32))), (0, .ref (q 0)), (1, .int (v1)), (2, .int (v2)), (3, .int (v3))]) hx hb dX12_mostAlike_55 hl (k := 5) rfl rfl (by decide) rfl (fun ls hl => ?_)
          refine lv_goto (tgt := 16) hx hb dX12_mostAlike_58 (by decide) ?_
          exact ih v1 v2 v3 (v4 + (0 : Int32)) (v5 + (1 : Int32)) hf _ _ _ hP hD hS (lv_sub hl [2, 3, 4, 5, 1, 0] rfl)
        · have hf := tc_pos hc hf
          refine lv_iconst (v := (1 : Int32)) hx hb dX12_mostAlike_47 (by decide) ?_
          refine lv_goto (tgt := 52) hx hb dX12_mostAlike_48 (by decide) ?_
          refine lv_iadd hx hb dX12_mostAlike_52 ?_
          refine lv_istore (lv' := [(4, .int (v4 + (1 : Int32))), (0, .ref (q 0)), (1, .int (v1)), (2, .int (v2)), (3, .int (v3)), (5, .int (v5))]) hx hb dX12_mostAlike_53 hl (by decide) rfl (fun ls hl => ?_)
          refine lv_iinc (v := v5 + (1 : Int32)) (lv' := [(5, .int (v5 + (1 : Int32))), (4, .int (v4 + (1 : Int32))), (0, .ref (q 0)), (1, .int (v1)), (2, .int (v2)), (3, .int (v3))]) hx hb dX12_mostAlike_55 hl (k := 5) rfl rfl (by decide) rfl (fun ls hl => ?_)
          refine lv_goto (tgt := 16) hx hb dX12_mostAlike_58 (by decide) ?_
          exact ih v1 v2 v3 (v4 + (1 : Int32)) (v5 + (1 : Int32)) hf _ _ _ hP hD hS (lv_sub hl [2, 3, 4, 5, 1, 0] rfl)
set_option maxRecDepth 20000 in
theorem tX12_mostAlike_4 {q : Nat → Nat}  (X : tc_X dC dI ca A RX12 cX12_mostAlike 6 (some .int) p s m args meth c) (z : Int32)  (S : ms_T)   : ∀ n : Nat, ∀ (v1 : Int32) (v2 : Int32) (v3 : Int32), fX12_mostAlike_4 S n v1 v2 v3 = some z → ∀ (H : Heap) (locs : List Loc) (ls : Array Slot), va_P (dC, dI) classes (w12 ca q S) H → va_D A (w12 ca q S) → va_S A s.heap H locs → lv_has ls 6 [(0, .ref (q 0)), (1, .int (v1)), (2, .int (v2)), (3, .int (v3))] → W p l e rmX12_mostAlike s m args below meth c H locs 0 0 (MQ below (tc_QI dC dI ca A (w12 ca q S) (z)) args s 0 0 A) (F0 m 4 ls []) := by
  obtain ⟨hx, hb, hr, hml, hown, hts, hlk, hK, hA, hG⟩ := id X
  intro n
  induction n with
  | zero => intro v1 v2 v3 hf; exact absurd (show none = some z from hf) (fun h => by cases h)
  | succ n ih =>
    intro v1 v2 v3 hf H locs ls hP hD hS hl
    rw [fX12_mostAlike_4] at hf
    refine lv_iload_n hx hb dX12_mostAlike_4 rfl (lv_at hl 3 rfl) ?_
    refine lv_bipush (v := (9 : Int32)) hx hb dX12_mostAlike_5 (by decide) ?_
    refine lv_icmp_gt (tgt := 74) hx hb dX12_mostAlike_7 (by decide) (fun hc => ?_) (fun hc => ?_)
    · have hf := tc_pos hc hf
      refine lv_iload_n hx hb dX12_mostAlike_74 rfl (lv_at hl 2 rfl) ?_
      obtain rfl := Option.some.inj hf
      exact tc_ri X hP hD hS rfl dX12_mostAlike_75 rfl rfl
    · have hf := tc_neg hc hf
      refine lv_iconst (v := (0 : Int32)) hx hb dX12_mostAlike_10 (by decide) ?_
      refine lv_istore (lv' := [(4, .int ((0 : Int32))), (0, .ref (q 0)), (1, .int (v1)), (2, .int (v2)), (3, .int (v3))]) hx hb dX12_mostAlike_11 hl (by decide) rfl (fun ls hl => ?_)
      refine lv_iconst (v := (0 : Int32)) hx hb dX12_mostAlike_13 (by decide) ?_
      refine lv_istore (lv' := [(5, .int ((0 : Int32))), (4, .int ((0 : Int32))), (0, .ref (q 0)), (1, .int (v1)), (2, .int (v2)), (3, .int (v3))]) hx hb dX12_mostAlike_14 hl (by decide) rfl (fun ls hl => ?_)
      exact tX12_mostAlike_16 X z S (fX12_mostAlike_4 S n) ih FU v1 v2 v3 (0 : Int32) (0 : Int32) hf _ _ _ hP hD hS (lv_sub hl [2, 3, 4, 5, 1, 0] rfl)
set_option maxRecDepth 20000 in
theorem mX12_mostAlike {q : Nat → Nat}  {S : ms_T} {a1 : Int32} {z : Int32}  (hf : fX12_mostAlike S a1 = some z) : tc_MI l dC dI ca yX12_mostAlike cX12_mostAlike 6 (some .int) rmX12_mostAlike [.ref (q 0), .int (a1)] (w12 ca q S) (w12 ca q S) (z) := by
  refine tc_metI (own := RX12) (by decide) rfl ?_ (Nat.le_of_ble_eq_true rfl)
  intro p e s m below meth c A X hP hD hS ls hl
  obtain ⟨hx, hb, hr, hml, hown, hts, hlk, hK, hA, hG⟩ := id X
  unfold fX12_mostAlike at hf
  have hl : lv_has ls 6 [(0, .ref (q 0)), (1, .int (a1))] := hl
  refine lv_iconst (v := (0 : Int32)) hx hb dX12_mostAlike_0 (by decide) ?_
  refine lv_istore_n (lv' := [(2, .int ((0 : Int32))), (0, .ref (q 0)), (1, .int (a1))]) hx hb dX12_mostAlike_1 rfl hl (by decide) rfl (fun ls hl => ?_)
  refine lv_iconst (v := (0 : Int32)) hx hb dX12_mostAlike_2 (by decide) ?_
  refine lv_istore_n (lv' := [(3, .int ((0 : Int32))), (2, .int ((0 : Int32))), (0, .ref (q 0)), (1, .int (a1))]) hx hb dX12_mostAlike_3 rfl hl (by decide) rfl (fun ls hl => ?_)
  exact tX12_mostAlike_4 X z S FU a1 (0 : Int32) (0 : Int32) hf _ _ _ hP hD hS (lv_sub hl [2, 3, 1, 0] rfl)
def fX12_ask_50    : Nat → ms_T → Int32 → Int32 → Option (Int32 × ms_T)
  | 0, _, _, _ => none
  | n + 1, S, v3, v4 =>
    if (9 : Int32) < v4 then
      some (v3, S)
    else
      (fX12_mostAlike S v4).bind fun z3 =>
      (fX12_mostAlike S v3).bind fun z4 =>
      if z4 ≤ z3 then
        fX12_ask_50 n S v3 (v4 + (1 : Int32))
      else
        fX12_ask_50 n S v4 (v4 + (1 : Int32))
def fX12_ask  (S : ms_T) (a1 : Int32) (a2 : Int32) : Option (Int32 × ms_T) :=
  (fX12_whyNoLaw (si S 1 (0 : Int32)) a1 a2).bind fun z1 =>
  if (gi (si (si S 1 (0 : Int32)) 0 z1) 0) ≤ 0 then
    (fX12_laysLaws (si (si S 1 (0 : Int32)) 0 z1) a1 a2).bind fun z2 =>
    if (2 : Int32) ≤ (gi z2 27) then
      fX12_ask_50 FU z2 (1 : Int32) (2 : Int32)
    else
      (fX12_refuse z2 (8 : Int32)).bind fun z5 =>
      some (z5.1, z5.2)
  else
    some ((-1 : Int32), si (si S 1 (0 : Int32)) 0 z1)
abbrev rmX12_ask : Room := { frames := 3, cells := 0, slots := 0, locals := 69 }
theorem okX12_ask : tc_ok yX12_ask cX12_ask 5 (some .int) 2 := ⟨wc_X12_ask, wn_X12, by decide, by decide, by decide +kernel⟩
set_option maxRecDepth 20000 in
theorem tX12_ask_50 {q : Nat → Nat}  (X : tc_X dC dI ca A RX12 cX12_ask 5 (some .int) p s m args meth c) (z : Int32 × ms_T)     : ∀ n : Nat, ∀ (S : ms_T) (v3 : Int32) (v4 : Int32), fX12_ask_50 n S v3 v4 = some z → ∀ (H : Heap) (locs : List Loc) (ls : Array Slot), va_P (dC, dI) classes (w12 ca q S) H → va_D A (w12 ca q S) → va_S A s.heap H locs → lv_has ls 5 [(0, .ref (q 0)), (3, .int (v3)), (4, .int (v4))] → W p l e rmX12_ask s m args below meth c H locs 0 0 (MQ below (tc_QI dC dI ca A (w12 ca q z.2) (z.1)) args s 0 0 A) (F0 m 50 ls []) := by
  obtain ⟨hx, hb, hr, hml, hown, hts, hlk, hK, hA, hG⟩ := id X
  intro n
  induction n with
  | zero => intro S v3 v4 hf; exact absurd (show none = some z from hf) (fun h => by cases h)
  | succ n ih =>
    intro S v3 v4 hf H locs ls hP hD hS hl
    rw [fX12_ask_50] at hf
    refine lv_iload hx hb dX12_ask_50 (lv_at hl 2 rfl) ?_
    refine lv_bipush (v := (9 : Int32)) hx hb dX12_ask_52 (by decide) ?_
    refine lv_icmp_gt (tgt := 80) hx hb dX12_ask_54 (by decide) (fun hc => ?_) (fun hc => ?_)
    · have hf := tc_pos hc hf
      refine lv_iload_n hx hb dX12_ask_80 rfl (lv_at hl 1 rfl) ?_
      obtain rfl := Option.some.inj hf
      exact tc_ri X hP hD hS rfl dX12_ask_81 rfl rfl
    · have hf := tc_neg hc hf
      refine lv_aload_n hx hb dX12_ask_57 rfl (lv_at hl 0 rfl) ?_
      refine lv_iload hx hb dX12_ask_58 (lv_at hl 2 rfl) ?_
      obtain ⟨z3, hg, hf⟩ := tc_bi hf
      refine tc_iVs (As := [.int (v4)]) (rest := []) (b := q 0) X hP hD hS (mX12_mostAlike hg) okX12_mostAlike wl_X12_452 wi_X12_mostAlike ws_X12_X12_mostAlike_X12_mostAlike ⟨rfl, rfl, Nat.le_of_ble_eq_true rfl, Nat.le_of_ble_eq_true rfl⟩ 12 0 rfl rfl rfl hl.1 (Nat.le_of_ble_eq_true rfl) dX12_ask_60 (fun H locs hP hD hS => ?_)
      refine lv_aload_n hx hb dX12_ask_63 rfl (lv_at hl 0 rfl) ?_
      refine lv_iload_n hx hb dX12_ask_64 rfl (lv_at hl 1 rfl) ?_
      obtain ⟨z4, hg, hf⟩ := tc_bi hf
      refine tc_iVs (As := [.int (v3)]) (rest := [.int (z3)]) (b := q 0) X hP hD hS (mX12_mostAlike hg) okX12_mostAlike wl_X12_452 wi_X12_mostAlike ws_X12_X12_mostAlike_X12_mostAlike ⟨rfl, rfl, Nat.le_of_ble_eq_true rfl, Nat.le_of_ble_eq_true rfl⟩ 12 0 rfl rfl rfl hl.1 (Nat.le_of_ble_eq_true rfl) dX12_ask_65 (fun H locs hP hD hS => ?_)
      refine lv_icmp_ge (tgt := 74) hx hb dX12_ask_68 (by decide) (fun hc => ?_) (fun hc => ?_)
      · have hf := tc_pos hc hf
        refine lv_iinc (v := v4 + (1 : Int32)) (lv' := [(4, .int (v4 + (1 : Int32))), (0, .ref (q 0)), (3, .int (v3))]) hx hb dX12_ask_74 hl (k := 2) rfl rfl (by decide) rfl (fun ls hl => ?_)
        refine lv_goto (tgt := 50) hx hb dX12_ask_77 (by decide) ?_
        exact ih S v3 (v4 + (1 : Int32)) hf _ _ _ hP hD hS (lv_sub hl [1, 2, 0] rfl)
      · have hf := tc_neg hc hf
        refine lv_iload hx hb dX12_ask_71 (lv_at hl 2 rfl) ?_
        refine lv_istore_n (lv' := [(3, .int (v4)), (0, .ref (q 0)), (4, .int (v4))]) hx hb dX12_ask_73 rfl hl (by decide) rfl (fun ls hl => ?_)
        refine lv_iinc (v := v4 + (1 : Int32)) (lv' := [(4, .int (v4 + (1 : Int32))), (3, .int (v4)), (0, .ref (q 0))]) hx hb dX12_ask_74 hl (k := 2) rfl rfl (by decide) rfl (fun ls hl => ?_)
        refine lv_goto (tgt := 50) hx hb dX12_ask_77 (by decide) ?_
        exact ih S v4 (v4 + (1 : Int32)) hf _ _ _ hP hD hS (lv_sub hl [2, 1, 0] rfl)
set_option maxRecDepth 20000 in
theorem mX12_ask {q : Nat → Nat}  {S : ms_T} {a1 : Int32} {a2 : Int32} {z : Int32 × ms_T}  (hf : fX12_ask S a1 a2 = some z) : tc_MI l dC dI ca yX12_ask cX12_ask 5 (some .int) rmX12_ask [.ref (q 0), .int (a1), .int (a2)] (w12 ca q S) (w12 ca q z.2) (z.1) := by
  refine tc_metI (own := RX12) (by decide) rfl ?_ (Nat.le_of_ble_eq_true rfl)
  intro p e s m below meth c A X hP hD hS ls hl
  obtain ⟨hx, hb, hr, hml, hown, hts, hlk, hK, hA, hG⟩ := id X
  unfold fX12_ask at hf
  have hl : lv_has ls 5 [(0, .ref (q 0)), (1, .int (a1)), (2, .int (a2))] := hl
  refine lv_aload_n hx hb dX12_ask_0 rfl (lv_at hl 0 rfl) ?_
  refine lv_iconst (v := (0 : Int32)) hx hb dX12_ask_1 (by decide) ?_
  refine va_put (D := (dC, dI)) (ci := 12) (v := .int ((0 : Int32))) (ty := .int) (C := RX12) (T := TX12) (N := 49) hx hb hts i_X12 tyX12 tyX12_ok nmX12 hown hK hP hD hS 0 rfl rfl 1 (by decide) (hts _ wf_X12_63) (fun _ h9 => h9) rfl (tyX12_ok 1 (by decide)) rfl rfl (Nat.le_of_ble_eq_true rfl) dX12_ask_2 (fun H locs hP hD hS => ?_)
  have hP := tc_eP (pw12_0_1 ca q S (0 : Int32)) hP
  have hD := tc_eD (pw12_0_1 ca q S (0 : Int32)) hD
  refine lv_aload_n hx hb dX12_ask_5 rfl (lv_at hl 0 rfl) ?_
  refine lv_aload_n hx hb dX12_ask_6 rfl (lv_at hl 0 rfl) ?_
  refine lv_iload_n hx hb dX12_ask_7 rfl (lv_at hl 1 rfl) ?_
  refine lv_iload_n hx hb dX12_ask_8 rfl (lv_at hl 2 rfl) ?_
  obtain ⟨z1, hg, hf⟩ := tc_bi hf
  refine tc_iVs (As := [.int (a1), .int (a2)]) (rest := [.ref (q 0)]) (b := q 0) X hP hD hS (mX12_whyNoLaw hg) okX12_whyNoLaw wl_X12_446 wi_X12_whyNoLaw ws_X12_X12_whyNoLaw_X12_whyNoLaw ⟨rfl, rfl, Nat.le_of_ble_eq_true rfl, Nat.le_of_ble_eq_true rfl⟩ 12 0 rfl rfl rfl hl.1 (Nat.le_of_ble_eq_true rfl) dX12_ask_9 (fun H locs hP hD hS => ?_)
  refine va_put (D := (dC, dI)) (ci := 12) (v := .int (z1)) (ty := .int) (C := RX12) (T := TX12) (N := 49) hx hb hts i_X12 tyX12 tyX12_ok nmX12 hown hK hP hD hS 0 rfl rfl 0 (by decide) (hts _ wf_X12_66) (fun _ h9 => h9) rfl (tyX12_ok 0 (by decide)) rfl rfl (Nat.le_of_ble_eq_true rfl) dX12_ask_12 (fun H locs hP hD hS => ?_)
  have hP := tc_eP (pw12_0_0 ca q (si S 1 (0 : Int32)) z1) hP
  have hD := tc_eD (pw12_0_0 ca q (si S 1 (0 : Int32)) z1) hD
  refine lv_aload_n hx hb dX12_ask_15 rfl (lv_at hl 0 rfl) ?_
  refine va_get (D := (dC, dI)) (ci := 12) (v := .int (gi (si (si S 1 (0 : Int32)) 0 z1) 0)) (C := RX12) (T := TX12) (N := 49) hx hb hts i_X12 hown hK hP 0 rfl rfl 0 (by decide) (hts _ wf_X12_66) (fun _ h9 => h9) rfl dX12_ask_16 ?_
  refine lv_if_le (tgt := 24) hx hb dX12_ask_19 (by decide) (fun hc => ?_) (fun hc => ?_)
  · have hf := tc_pos hc hf
    refine lv_aload_n hx hb dX12_ask_24 rfl (lv_at hl 0 rfl) ?_
    refine lv_iload_n hx hb dX12_ask_25 rfl (lv_at hl 1 rfl) ?_
    refine lv_iload_n hx hb dX12_ask_26 rfl (lv_at hl 2 rfl) ?_
    obtain ⟨z2, hg, hf⟩ := tc_bi hf
    refine tc_vVs (As := [.int (a1), .int (a2)]) (rest := []) (b := q 0) X hP hD hS (mX12_laysLaws hg) okX12_laysLaws wl_X12_449 wi_X12_laysLaws ws_X12_X12_laysLaws_X12_laysLaws ⟨rfl, rfl, Nat.le_of_ble_eq_true rfl, Nat.le_of_ble_eq_true rfl⟩ 12 0 rfl rfl rfl hl.1 (Nat.le_of_ble_eq_true rfl) dX12_ask_27 (fun H locs hP hD hS => ?_)
    refine lv_aload_n hx hb dX12_ask_30 rfl (lv_at hl 0 rfl) ?_
    refine va_get (D := (dC, dI)) (ci := 12) (v := .int (gi z2 27)) (C := RX12) (T := TX12) (N := 49) hx hb hts i_X12 hown hK hP 0 rfl rfl 27 (by decide) (hts _ wf_X12_437) (fun _ h9 => h9) rfl dX12_ask_31 ?_
    refine lv_iconst (v := (2 : Int32)) hx hb dX12_ask_34 (by decide) ?_
    refine lv_icmp_ge (tgt := 45) hx hb dX12_ask_35 (by decide) (fun hc => ?_) (fun hc => ?_)
    · have hf := tc_pos hc hf
      refine lv_iconst (v := (1 : Int32)) hx hb dX12_ask_45 (by decide) ?_
      refine lv_istore_n (lv' := [(3, .int ((1 : Int32))), (0, .ref (q 0)), (1, .int (a1)), (2, .int (a2))]) hx hb dX12_ask_46 rfl hl (by decide) rfl (fun ls hl => ?_)
      refine lv_iconst (v := (2 : Int32)) hx hb dX12_ask_47 (by decide) ?_
      refine lv_istore (lv' := [(4, .int ((2 : Int32))), (3, .int ((1 : Int32))), (0, .ref (q 0)), (1, .int (a1)), (2, .int (a2))]) hx hb dX12_ask_48 hl (by decide) rfl (fun ls hl => ?_)
      exact tX12_ask_50 X z FU z2 (1 : Int32) (2 : Int32) hf _ _ _ hP hD hS (lv_sub hl [2, 1, 0] rfl)
    · have hf := tc_neg hc hf
      refine lv_aload_n hx hb dX12_ask_38 rfl (lv_at hl 0 rfl) ?_
      refine lv_bipush (v := (8 : Int32)) hx hb dX12_ask_39 (by decide) ?_
      obtain ⟨z5, hg, hf⟩ := tc_bi hf
      refine tc_iVs (As := [.int ((8 : Int32))]) (rest := []) (b := q 0) X hP hD hS (mX12_refuse hg) okX12_refuse wl_X12_333 wi_X12_refuse ws_X12_X12_refuse_X12_refuse ⟨rfl, rfl, Nat.le_of_ble_eq_true rfl, Nat.le_of_ble_eq_true rfl⟩ 12 0 rfl rfl rfl hl.1 (Nat.le_of_ble_eq_true rfl) dX12_ask_41 (fun H locs hP hD hS => ?_)
      obtain rfl := Option.some.inj hf
      exact tc_ri X hP hD hS rfl dX12_ask_44 rfl rfl
  · have hf := tc_neg hc hf
    refine lv_iconst (v := (-1 : Int32)) hx hb dX12_ask_22 (by decide) ?_
    obtain rfl := Option.some.inj hf
    exact tc_ri X hP hD hS rfl dX12_ask_23 rfl rfl
def fX12_worthAt  (S : ms_T) (a1 : Int32) : Option (Int32) :=
  if a1 = 0 then
    some ((0 : Int32))
  else
    if inb (((6 : Int32) + a1) - (1 : Int32)) 1820 = true then
      some (ia S 5 (((6 : Int32) + a1) - (1 : Int32)))
    else none
abbrev rmX12_worthAt : Room := { frames := 0, cells := 0, slots := 0, locals := 0 }
theorem okX12_worthAt : tc_ok yX12_worthAt cX12_worthAt 2 (some .int) 1 := ⟨wc_X12_worthAt, wn_X12, by decide, by decide, by decide +kernel⟩
set_option maxRecDepth 20000 in
theorem mX12_worthAt {q : Nat → Nat}  {S : ms_T} {a1 : Int32} {z : Int32}  (hf : fX12_worthAt S a1 = some z) : tc_MI l dC dI ca yX12_worthAt cX12_worthAt 2 (some .int) rmX12_worthAt [.ref (q 0), .int (a1)] (w12 ca q S) (w12 ca q S) (z) := by
  refine tc_metI (own := RX12) (by decide) rfl ?_ (Nat.le_of_ble_eq_true rfl)
  intro p e s m below meth c A X hP hD hS ls hl
  obtain ⟨hx, hb, hr, hml, hown, hts, hlk, hK, hA, hG⟩ := id X
  unfold fX12_worthAt at hf
  have hl : lv_has ls 2 [(0, .ref (q 0)), (1, .int (a1))] := hl
  refine lv_iload_n hx hb dX12_worthAt_0 rfl (lv_at hl 1 rfl) ?_
  refine lv_if_ne (tgt := 8) hx hb dX12_worthAt_1 (by decide) (fun hc => ?_) (fun hc => ?_)
  · have hf := tc_neg hc hf
    refine lv_aload_n hx hb dX12_worthAt_8 rfl (lv_at hl 0 rfl) ?_
    refine va_get (D := (dC, dI)) (ci := 12) (v := .ref (q 5)) (C := RX12) (T := TX12) (N := 49) hx hb hts i_X12 hown hK hP 0 rfl rfl 20 (by decide) (hts _ wf_X12_35) (fun _ h9 => h9) rfl dX12_worthAt_9 ?_
    refine lv_bipush (v := (6 : Int32)) hx hb dX12_worthAt_12 (by decide) ?_
    refine lv_iload_n hx hb dX12_worthAt_14 rfl (lv_at hl 1 rfl) ?_
    refine lv_iadd hx hb dX12_worthAt_15 ?_
    refine lv_iconst (v := (1 : Int32)) hx hb dX12_worthAt_16 (by decide) ?_
    refine lv_isub hx hb dX12_worthAt_17 ?_
    obtain ⟨hi1, hf⟩ := tc_in hf
    refine va_iald hx hb hK hP 5 1 rfl rfl hi1 dX12_worthAt_18 ?_
    obtain rfl := Option.some.inj hf
    exact tc_ri X hP hD hS rfl dX12_worthAt_19 rfl rfl
  · have hf := tc_pos hc hf
    refine lv_iconst (v := (0 : Int32)) hx hb dX12_worthAt_4 (by decide) ?_
    refine lv_goto (tgt := 19) hx hb dX12_worthAt_5 (by decide) ?_
    obtain rfl := Option.some.inj hf
    exact tc_ri X hP hD hS rfl dX12_worthAt_19 rfl rfl
def fX12_laysBest_12    : Nat → ms_T → Int32 → Int32 → Int32 → Option (ms_T)
  | 0, _, _, _, _ => none
  | n + 1, S, v1, v2, v3 =>
    if v2 < v3 then
      some (S)
    else
      if inb ((66 : Int32) + v1) 1820 = true then
        (fX12_landing S v3).bind fun z2 =>
        (fX12_worthAt S z2).bind fun z3 =>
        if (lg_cmp (((((16 : Int32) - (ia S 5 ((66 : Int32) + v1))) * z3).toInt64) * (gl S 30)) ((((16 : Int32) - (ia S 5 (4 : Int32))).toInt64) * (gl S 29))) < 0 then
          fX12_laysBest_12 n (sl (sl S 30 ((gl S 30) * (16 : Int64))) 29 (jmaxl (((((16 : Int32) - (ia S 5 ((66 : Int32) + v1))) * z3).toInt64) * (gl S 30)) ((((16 : Int32) - (ia S 5 (4 : Int32))).toInt64) * (gl S 29)))) v1 v2 (v3 + (1 : Int32))
        else
          fX12_laysBest_12 n (si (sl (sl S 30 ((gl S 30) * (16 : Int64))) 29 (jmaxl (((((16 : Int32) - (ia S 5 ((66 : Int32) + v1))) * z3).toInt64) * (gl S 30)) ((((16 : Int32) - (ia S 5 (4 : Int32))).toInt64) * (gl S 29)))) 31 v3) v1 v2 (v3 + (1 : Int32))
      else none
def fX12_laysBest  (S : ms_T) (a1 : Int32) (a2 : Int32) : Option (ms_T) :=
  fX12_laysBest_12 FU (sl (sl S 29 (0 : Int64)) 30 (1 : Int64)) a1 a2 (1 : Int32)
abbrev rmX12_laysBest : Room := { frames := 2, cells := 0, slots := 0, locals := 44 }
theorem okX12_laysBest : tc_ok yX12_laysBest cX12_laysBest 8 none 2 := ⟨wc_X12_laysBest, wn_X12, by decide, by decide, by decide +kernel⟩
set_option maxRecDepth 20000 in
theorem tX12_laysBest_12 {q : Nat → Nat}  (X : tc_X dC dI ca A RX12 cX12_laysBest 8 none p s m args meth c) (z : ms_T)     : ∀ n : Nat, ∀ (S : ms_T) (v1 : Int32) (v2 : Int32) (v3 : Int32), fX12_laysBest_12 n S v1 v2 v3 = some z → ∀ (H : Heap) (locs : List Loc) (ls : Array Slot), va_P (dC, dI) classes (w12 ca q S) H → va_D A (w12 ca q S) → va_S A s.heap H locs → lv_has ls 8 [(0, .ref (q 0)), (1, .int (v1)), (2, .int (v2)), (3, .int (v3))] → W p l e rmX12_laysBest s m args below meth c H locs 0 0 (MQ below (tc_QV dC dI ca A (w12 ca q z)) args s 0 0 A) (F0 m 12 ls []) := by
  obtain ⟨hx, hb, hr, hml, hown, hts, hlk, hK, hA, hG⟩ := id X
  intro n
  induction n with
  | zero => intro S v1 v2 v3 hf; exact absurd (show none = some z from hf) (fun h => by cases h)
  | succ n ih =>
    intro S v1 v2 v3 hf H locs ls hP hD hS hl
    rw [fX12_laysBest_12] at hf
    refine lv_iload_n hx hb dX12_laysBest_12 rfl (lv_at hl 3 rfl) ?_
    refine lv_iload_n hx hb dX12_laysBest_13 rfl (lv_at hl 2 rfl) ?_
    refine lv_icmp_gt (tgt := 106) hx hb dX12_laysBest_14 (by decide) (fun hc => ?_) (fun hc => ?_)
    · have hf := tc_pos hc hf
      obtain rfl := Option.some.inj hf
      exact tc_rv X hP hD hS rfl dX12_laysBest_106 rfl
    · have hf := tc_neg hc hf
      refine lv_bipush (v := (16 : Int32)) hx hb dX12_laysBest_17 (by decide) ?_
      refine lv_aload_n hx hb dX12_laysBest_19 rfl (lv_at hl 0 rfl) ?_
      refine va_get (D := (dC, dI)) (ci := 12) (v := .ref (q 5)) (C := RX12) (T := TX12) (N := 49) hx hb hts i_X12 hown hK hP 0 rfl rfl 20 (by decide) (hts _ wf_X12_35) (fun _ h9 => h9) rfl dX12_laysBest_20 ?_
      refine lv_bipush (v := (66 : Int32)) hx hb dX12_laysBest_23 (by decide) ?_
      refine lv_iload_n hx hb dX12_laysBest_25 rfl (lv_at hl 1 rfl) ?_
      refine lv_iadd hx hb dX12_laysBest_26 ?_
      obtain ⟨hi1, hf⟩ := tc_in hf
      refine va_iald hx hb hK hP 5 1 rfl rfl hi1 dX12_laysBest_27 ?_
      refine lv_isub hx hb dX12_laysBest_28 ?_
      refine lv_aload_n hx hb dX12_laysBest_29 rfl (lv_at hl 0 rfl) ?_
      refine lv_aload_n hx hb dX12_laysBest_30 rfl (lv_at hl 0 rfl) ?_
      refine lv_iload_n hx hb dX12_laysBest_31 rfl (lv_at hl 3 rfl) ?_
      obtain ⟨z2, hg, hf⟩ := tc_bi hf
      refine tc_iVs (As := [.int (v3)]) (rest := [.ref (q 0), .int ((16 : Int32) - (ia S 5 ((66 : Int32) + v1)))]) (b := q 0) X hP hD hS (mX12_landing hg) okX12_landing wl_X12_386 wi_X12_landing ws_X12_X12_landing_X12_landing ⟨rfl, rfl, Nat.le_of_ble_eq_true rfl, Nat.le_of_ble_eq_true rfl⟩ 12 0 rfl rfl rfl hl.1 (Nat.le_of_ble_eq_true rfl) dX12_laysBest_32 (fun H locs hP hD hS => ?_)
      obtain ⟨z3, hg, hf⟩ := tc_bi hf
      refine tc_iVs (As := [.int (z2)]) (rest := [.int ((16 : Int32) - (ia S 5 ((66 : Int32) + v1)))]) (b := q 0) X hP hD hS (mX12_worthAt hg) okX12_worthAt wl_X12_461 wi_X12_worthAt ws_X12_X12_worthAt_X12_worthAt ⟨rfl, rfl, Nat.le_of_ble_eq_true rfl, Nat.le_of_ble_eq_true rfl⟩ 12 0 rfl rfl rfl hl.1 (Nat.le_of_ble_eq_true rfl) dX12_laysBest_35 (fun H locs hP hD hS => ?_)
      refine lv_imul hx hb dX12_laysBest_38 ?_
      refine lv_i2l (v := (((16 : Int32) - (ia S 5 ((66 : Int32) + v1))) * z3).toInt64) hx hb dX12_laysBest_39 rfl ?_
      refine lv_aload_n hx hb dX12_laysBest_40 rfl (lv_at hl 0 rfl) ?_
      refine va_get (D := (dC, dI)) (ci := 12) (v := .long (gl S 30)) (C := RX12) (T := TX12) (N := 49) hx hb hts i_X12 hown hK hP 0 rfl rfl 30 (by decide) (hts _ wf_X12_458) (fun _ h9 => h9) rfl dX12_laysBest_41 ?_
      refine lv_lmul hx hb dX12_laysBest_44 ?_
      refine lv_lstore (lv' := [(4, .long (((((16 : Int32) - (ia S 5 ((66 : Int32) + v1))) * z3).toInt64) * (gl S 30))), (0, .ref (q 0)), (1, .int (v1)), (2, .int (v2)), (3, .int (v3))]) hx hb dX12_laysBest_45 hl (by decide) rfl (fun ls hl => ?_)
      refine lv_bipush (v := (16 : Int32)) hx hb dX12_laysBest_47 (by decide) ?_
      refine lv_aload_n hx hb dX12_laysBest_49 rfl (lv_at hl 1 rfl) ?_
      refine va_get (D := (dC, dI)) (ci := 12) (v := .ref (q 5)) (C := RX12) (T := TX12) (N := 49) hx hb hts i_X12 hown hK hP 0 rfl rfl 20 (by decide) (hts _ wf_X12_35) (fun _ h9 => h9) rfl dX12_laysBest_50 ?_
      refine lv_iconst (v := (4 : Int32)) hx hb dX12_laysBest_53 (by decide) ?_
      refine va_iald hx hb hK hP 5 1 rfl rfl (inb_vp (by decide)) dX12_laysBest_54 ?_
      refine lv_isub hx hb dX12_laysBest_55 ?_
      refine lv_i2l (v := ((16 : Int32) - (ia S 5 (4 : Int32))).toInt64) hx hb dX12_laysBest_56 rfl ?_
      refine lv_aload_n hx hb dX12_laysBest_57 rfl (lv_at hl 1 rfl) ?_
      refine va_get (D := (dC, dI)) (ci := 12) (v := .long (gl S 29)) (C := RX12) (T := TX12) (N := 49) hx hb hts i_X12 hown hK hP 0 rfl rfl 29 (by decide) (hts _ wf_X12_455) (fun _ h9 => h9) rfl dX12_laysBest_58 ?_
      refine lv_lmul hx hb dX12_laysBest_61 ?_
      refine lv_lstore (lv' := [(6, .long ((((16 : Int32) - (ia S 5 (4 : Int32))).toInt64) * (gl S 29))), (4, .long (((((16 : Int32) - (ia S 5 ((66 : Int32) + v1))) * z3).toInt64) * (gl S 30))), (0, .ref (q 0)), (1, .int (v1)), (2, .int (v2)), (3, .int (v3))]) hx hb dX12_laysBest_62 hl (by decide) rfl (fun ls hl => ?_)
      refine lv_aload_n hx hb dX12_laysBest_64 rfl (lv_at hl 2 rfl) ?_
      refine lv_dup hx hb dX12_laysBest_65 rfl ?_
      refine va_get (D := (dC, dI)) (ci := 12) (v := .long (gl S 30)) (C := RX12) (T := TX12) (N := 49) hx hb hts i_X12 hown hK hP 0 rfl rfl 30 (by decide) (hts _ wf_X12_458) (fun _ h9 => h9) rfl dX12_laysBest_66 ?_
      refine lv_ldc2 (v := (16 : Int64)) hx hb hown (hts _ wk_X12_404) dX12_laysBest_69 ?_
      refine lv_lmul hx hb dX12_laysBest_72 ?_
      refine va_put (D := (dC, dI)) (ci := 12) (v := .long ((gl S 30) * (16 : Int64))) (ty := .long) (C := RX12) (T := TX12) (N := 49) hx hb hts i_X12 tyX12 tyX12_ok nmX12 hown hK hP hD hS 0 rfl rfl 30 (by decide) (hts _ wf_X12_458) (fun _ h9 => h9) rfl (tyX12_ok 30 (by decide)) rfl rfl (Nat.le_of_ble_eq_true rfl) dX12_laysBest_73 (fun H locs hP hD hS => ?_)
      have hP := tc_eP (pw12_0_30 ca q S ((gl S 30) * (16 : Int64))) hP
      have hD := tc_eD (pw12_0_30 ca q S ((gl S 30) * (16 : Int64))) hD
      refine lv_aload_n hx hb dX12_laysBest_76 rfl (lv_at hl 2 rfl) ?_
      refine lv_lload hx hb dX12_laysBest_77 (lv_at hl 1 rfl) ?_
      refine lv_lload hx hb dX12_laysBest_79 (lv_at hl 0 rfl) ?_
      refine tc_mmaxl (rest := [.ref (q 0)]) X hl.1 wl_X12_464 (Nat.le_of_ble_eq_true rfl) (Nat.le_of_ble_eq_true rfl) dX12_laysBest_81 ?_
      refine va_put (D := (dC, dI)) (ci := 12) (v := .long (jmaxl (((((16 : Int32) - (ia S 5 ((66 : Int32) + v1))) * z3).toInt64) * (gl S 30)) ((((16 : Int32) - (ia S 5 (4 : Int32))).toInt64) * (gl S 29)))) (ty := .long) (C := RX12) (T := TX12) (N := 49) hx hb hts i_X12 tyX12 tyX12_ok nmX12 hown hK hP hD hS 0 rfl rfl 29 (by decide) (hts _ wf_X12_455) (fun _ h9 => h9) rfl (tyX12_ok 29 (by decide)) rfl rfl (Nat.le_of_ble_eq_true rfl) dX12_laysBest_84 (fun H locs hP hD hS => ?_)
      have hP := tc_eP (pw12_0_29 ca q (sl S 30 ((gl S 30) * (16 : Int64))) (jmaxl (((((16 : Int32) - (ia S 5 ((66 : Int32) + v1))) * z3).toInt64) * (gl S 30)) ((((16 : Int32) - (ia S 5 (4 : Int32))).toInt64) * (gl S 29)))) hP
      have hD := tc_eD (pw12_0_29 ca q (sl S 30 ((gl S 30) * (16 : Int64))) (jmaxl (((((16 : Int32) - (ia S 5 ((66 : Int32) + v1))) * z3).toInt64) * (gl S 30)) ((((16 : Int32) - (ia S 5 (4 : Int32))).toInt64) * (gl S 29)))) hD
      refine lv_lload hx hb dX12_laysBest_87 (lv_at hl 1 rfl) ?_
      refine lv_lload hx hb dX12_laysBest_89 (lv_at hl 0 rfl) ?_
      refine W.lcmp hx hb dX12_laysBest_91 ?_
      refine lv_if_lt (tgt := 100) hx hb dX12_laysBest_92 (by decide) (fun hc => ?_) (fun hc => ?_)
      · have hf := tc_pos hc hf
        refine lv_iinc (v := v3 + (1 : Int32)) (lv' := [(3, .int (v3 + (1 : Int32))), (6, .long ((((16 : Int32) - (ia S 5 (4 : Int32))).toInt64) * (gl S 29))), (4, .long (((((16 : Int32) - (ia S 5 ((66 : Int32) + v1))) * z3).toInt64) * (gl S 30))), (0, .ref (q 0)), (1, .int (v1)), (2, .int (v2))]) hx hb dX12_laysBest_100 hl (k := 5) rfl rfl (by decide) rfl (fun ls hl => ?_)
        refine lv_goto (tgt := 12) hx hb dX12_laysBest_103 (by decide) ?_
        exact ih (sl (sl S 30 ((gl S 30) * (16 : Int64))) 29 (jmaxl (((((16 : Int32) - (ia S 5 ((66 : Int32) + v1))) * z3).toInt64) * (gl S 30)) ((((16 : Int32) - (ia S 5 (4 : Int32))).toInt64) * (gl S 29)))) v1 v2 (v3 + (1 : Int32)) hf _ _ _ hP hD hS (lv_sub hl [3, 4, 5, 0] rfl)
      · have hf := tc_neg hc hf
        refine lv_aload_n hx hb dX12_laysBest_95 rfl (lv_at hl 2 rfl) ?_
        refine lv_iload_n hx hb dX12_laysBest_96 rfl (lv_at hl 5 rfl) ?_
        refine va_put (D := (dC, dI)) (ci := 12) (v := .int (v3)) (ty := .int) (C := RX12) (T := TX12) (N := 49) hx hb hts i_X12 tyX12 tyX12_ok nmX12 hown hK hP hD hS 0 rfl rfl 31 (by decide) (hts _ wf_X12_467) (fun _ h9 => h9) rfl (tyX12_ok 31 (by decide)) rfl rfl (Nat.le_of_ble_eq_true rfl) dX12_laysBest_97 (fun H locs hP hD hS => ?_)
        have hP := tc_eP (pw12_0_31 ca q (sl (sl S 30 ((gl S 30) * (16 : Int64))) 29 (jmaxl (((((16 : Int32) - (ia S 5 ((66 : Int32) + v1))) * z3).toInt64) * (gl S 30)) ((((16 : Int32) - (ia S 5 (4 : Int32))).toInt64) * (gl S 29)))) v3) hP
        have hD := tc_eD (pw12_0_31 ca q (sl (sl S 30 ((gl S 30) * (16 : Int64))) 29 (jmaxl (((((16 : Int32) - (ia S 5 ((66 : Int32) + v1))) * z3).toInt64) * (gl S 30)) ((((16 : Int32) - (ia S 5 (4 : Int32))).toInt64) * (gl S 29)))) v3) hD
        refine lv_iinc (v := v3 + (1 : Int32)) (lv' := [(3, .int (v3 + (1 : Int32))), (6, .long ((((16 : Int32) - (ia S 5 (4 : Int32))).toInt64) * (gl S 29))), (4, .long (((((16 : Int32) - (ia S 5 ((66 : Int32) + v1))) * z3).toInt64) * (gl S 30))), (0, .ref (q 0)), (1, .int (v1)), (2, .int (v2))]) hx hb dX12_laysBest_100 hl (k := 5) rfl rfl (by decide) rfl (fun ls hl => ?_)
        refine lv_goto (tgt := 12) hx hb dX12_laysBest_103 (by decide) ?_
        exact ih (si (sl (sl S 30 ((gl S 30) * (16 : Int64))) 29 (jmaxl (((((16 : Int32) - (ia S 5 ((66 : Int32) + v1))) * z3).toInt64) * (gl S 30)) ((((16 : Int32) - (ia S 5 (4 : Int32))).toInt64) * (gl S 29)))) 31 v3) v1 v2 (v3 + (1 : Int32)) hf _ _ _ hP hD hS (lv_sub hl [3, 4, 5, 0] rfl)
set_option maxRecDepth 20000 in
theorem mX12_laysBest {q : Nat → Nat}  {S : ms_T} {a1 : Int32} {a2 : Int32} {z : ms_T}  (hf : fX12_laysBest S a1 a2 = some z) : tc_MV l dC dI ca yX12_laysBest cX12_laysBest 8 none rmX12_laysBest [.ref (q 0), .int (a1), .int (a2)] (w12 ca q S) (w12 ca q z) := by
  refine tc_metV (own := RX12) (by decide) rfl ?_ (Nat.le_of_ble_eq_true rfl)
  intro p e s m below meth c A X hP hD hS ls hl
  obtain ⟨hx, hb, hr, hml, hown, hts, hlk, hK, hA, hG⟩ := id X
  unfold fX12_laysBest at hf
  have hl : lv_has ls 8 [(0, .ref (q 0)), (1, .int (a1)), (2, .int (a2))] := hl
  refine lv_aload_n hx hb dX12_laysBest_0 rfl (lv_at hl 0 rfl) ?_
  refine lv_lconst (v := (0 : Int64)) hx hb dX12_laysBest_1 (by decide) ?_
  refine va_put (D := (dC, dI)) (ci := 12) (v := .long ((0 : Int64))) (ty := .long) (C := RX12) (T := TX12) (N := 49) hx hb hts i_X12 tyX12 tyX12_ok nmX12 hown hK hP hD hS 0 rfl rfl 29 (by decide) (hts _ wf_X12_455) (fun _ h9 => h9) rfl (tyX12_ok 29 (by decide)) rfl rfl (Nat.le_of_ble_eq_true rfl) dX12_laysBest_2 (fun H locs hP hD hS => ?_)
  have hP := tc_eP (pw12_0_29 ca q S (0 : Int64)) hP
  have hD := tc_eD (pw12_0_29 ca q S (0 : Int64)) hD
  refine lv_aload_n hx hb dX12_laysBest_5 rfl (lv_at hl 0 rfl) ?_
  refine lv_lconst (v := (1 : Int64)) hx hb dX12_laysBest_6 (by decide) ?_
  refine va_put (D := (dC, dI)) (ci := 12) (v := .long ((1 : Int64))) (ty := .long) (C := RX12) (T := TX12) (N := 49) hx hb hts i_X12 tyX12 tyX12_ok nmX12 hown hK hP hD hS 0 rfl rfl 30 (by decide) (hts _ wf_X12_458) (fun _ h9 => h9) rfl (tyX12_ok 30 (by decide)) rfl rfl (Nat.le_of_ble_eq_true rfl) dX12_laysBest_7 (fun H locs hP hD hS => ?_)
  have hP := tc_eP (pw12_0_30 ca q (sl S 29 (0 : Int64)) (1 : Int64)) hP
  have hD := tc_eD (pw12_0_30 ca q (sl S 29 (0 : Int64)) (1 : Int64)) hD
  refine lv_iconst (v := (1 : Int32)) hx hb dX12_laysBest_10 (by decide) ?_
  refine lv_istore_n (lv' := [(3, .int ((1 : Int32))), (0, .ref (q 0)), (1, .int (a1)), (2, .int (a2))]) hx hb dX12_laysBest_11 rfl hl (by decide) rfl (fun ls hl => ?_)
  exact tX12_laysBest_12 X z FU (sl (sl S 29 (0 : Int64)) 30 (1 : Int64)) a1 a2 (1 : Int32) hf _ _ _ hP hD hS (lv_sub hl [1, 2, 3, 0] rfl)
def fX12_whyNoBest  (S : ms_T) (a1 : Int32) (a2 : Int32) : Option (Int32) :=
  (fX12_isTalkerAt S a1).bind fun z1 =>
  if z1 = 0 then
    some ((2 : Int32))
  else
    (fX12_isHeight S a2).bind fun z2 =>
    if z2 = 0 then
      some ((2 : Int32))
    else
      if a2 = 0 then
        some ((5 : Int32))
      else
        some ((0 : Int32))
abbrev rmX12_whyNoBest : Room := { frames := 2, cells := 0, slots := 0, locals := 46 }
theorem okX12_whyNoBest : tc_ok yX12_whyNoBest cX12_whyNoBest 3 (some .int) 2 := ⟨wc_X12_whyNoBest, wn_X12, by decide, by decide, by decide +kernel⟩
set_option maxRecDepth 20000 in
theorem mX12_whyNoBest {q : Nat → Nat}  {S : ms_T} {a1 : Int32} {a2 : Int32} {z : Int32}  (hf : fX12_whyNoBest S a1 a2 = some z) : tc_MI l dC dI ca yX12_whyNoBest cX12_whyNoBest 3 (some .int) rmX12_whyNoBest [.ref (q 0), .int (a1), .int (a2)] (w12 ca q S) (w12 ca q S) (z) := by
  refine tc_metI (own := RX12) (by decide) rfl ?_ (Nat.le_of_ble_eq_true rfl)
  intro p e s m below meth c A X hP hD hS ls hl
  obtain ⟨hx, hb, hr, hml, hown, hts, hlk, hK, hA, hG⟩ := id X
  unfold fX12_whyNoBest at hf
  have hl : lv_has ls 3 [(0, .ref (q 0)), (1, .int (a1)), (2, .int (a2))] := hl
  refine lv_aload_n hx hb dX12_whyNoBest_0 rfl (lv_at hl 0 rfl) ?_
  refine lv_iload_n hx hb dX12_whyNoBest_1 rfl (lv_at hl 1 rfl) ?_
  obtain ⟨z1, hg, hf⟩ := tc_bi hf
  refine tc_iVs (As := [.int (a1)]) (rest := []) (b := q 0) X hP hD hS (mX12_isTalkerAt hg) okX12_isTalkerAt wl_X12_362 wi_X12_isTalkerAt ws_X12_X12_isTalkerAt_X12_isTalkerAt ⟨rfl, rfl, Nat.le_of_ble_eq_true rfl, Nat.le_of_ble_eq_true rfl⟩ 12 0 rfl rfl rfl hl.1 (Nat.le_of_ble_eq_true rfl) dX12_whyNoBest_2 (fun H locs hP hD hS => ?_)
  refine lv_if_eq (tgt := 16) hx hb dX12_whyNoBest_5 (by decide) (fun hc => ?_) (fun hc => ?_)
  · have hf := tc_pos hc hf
    refine lv_iconst (v := (2 : Int32)) hx hb dX12_whyNoBest_16 (by decide) ?_
    refine lv_goto (tgt := 29) hx hb dX12_whyNoBest_17 (by decide) ?_
    obtain rfl := Option.some.inj hf
    exact tc_ri X hP hD hS rfl dX12_whyNoBest_29 rfl rfl
  · have hf := tc_neg hc hf
    refine lv_aload_n hx hb dX12_whyNoBest_8 rfl (lv_at hl 0 rfl) ?_
    refine lv_iload_n hx hb dX12_whyNoBest_9 rfl (lv_at hl 2 rfl) ?_
    obtain ⟨z2, hg, hf⟩ := tc_bi hf
    refine tc_iVs (As := [.int (a2)]) (rest := []) (b := q 0) X hP hD hS (mX12_isHeight hg) okX12_isHeight wl_X12_399 wi_X12_isHeight ws_X12_X12_isHeight_X12_isHeight ⟨rfl, rfl, Nat.le_of_ble_eq_true rfl, Nat.le_of_ble_eq_true rfl⟩ 12 0 rfl rfl rfl hl.1 (Nat.le_of_ble_eq_true rfl) dX12_whyNoBest_10 (fun H locs hP hD hS => ?_)
    refine lv_if_ne (tgt := 20) hx hb dX12_whyNoBest_13 (by decide) (fun hc => ?_) (fun hc => ?_)
    · have hf := tc_neg hc hf
      refine lv_iload_n hx hb dX12_whyNoBest_20 rfl (lv_at hl 2 rfl) ?_
      refine lv_if_ne (tgt := 28) hx hb dX12_whyNoBest_21 (by decide) (fun hc => ?_) (fun hc => ?_)
      · have hf := tc_neg hc hf
        refine lv_iconst (v := (0 : Int32)) hx hb dX12_whyNoBest_28 (by decide) ?_
        obtain rfl := Option.some.inj hf
        exact tc_ri X hP hD hS rfl dX12_whyNoBest_29 rfl rfl
      · have hf := tc_pos hc hf
        refine lv_iconst (v := (5 : Int32)) hx hb dX12_whyNoBest_24 (by decide) ?_
        refine lv_goto (tgt := 29) hx hb dX12_whyNoBest_25 (by decide) ?_
        obtain rfl := Option.some.inj hf
        exact tc_ri X hP hD hS rfl dX12_whyNoBest_29 rfl rfl
    · have hf := tc_pos hc hf
      refine lv_iconst (v := (2 : Int32)) hx hb dX12_whyNoBest_16 (by decide) ?_
      refine lv_goto (tgt := 29) hx hb dX12_whyNoBest_17 (by decide) ?_
      obtain rfl := Option.some.inj hf
      exact tc_ri X hP hD hS rfl dX12_whyNoBest_29 rfl rfl
def fX12_best  (S : ms_T) (a1 : Int32) (a2 : Int32) : Option (Int32 × ms_T) :=
  (fX12_whyNoBest (si S 1 (0 : Int32)) a1 a2).bind fun z1 =>
  if (gi (si (si S 1 (0 : Int32)) 0 z1) 0) ≤ 0 then
    (fX12_laysBest (si (si S 1 (0 : Int32)) 0 z1) a1 a2).bind fun z2 =>
    (fX12_fraction z2 (gl z2 29) (gl z2 30)).bind fun z3 =>
    if z3.1 &&& 1 = z3.1 then
      some (z3.1, z3.2)
    else none
  else
    some ((0 : Int32), si (si S 1 (0 : Int32)) 0 z1)
abbrev rmX12_best : Room := { frames := 3, cells := 0, slots := 0, locals := 71 }
theorem okX12_best : tc_ok yX12_best cX12_best 3 (some .boolean) 2 := ⟨wc_X12_best, wn_X12, by decide, by decide, by decide +kernel⟩
set_option maxRecDepth 20000 in
theorem mX12_best {q : Nat → Nat}  {S : ms_T} {a1 : Int32} {a2 : Int32} {z : Int32 × ms_T}  (hf : fX12_best S a1 a2 = some z) : tc_MI l dC dI ca yX12_best cX12_best 3 (some .boolean) rmX12_best [.ref (q 0), .int (a1), .int (a2)] (w12 ca q S) (w12 ca q z.2) (z.1) := by
  refine tc_metI (own := RX12) (by decide) rfl ?_ (Nat.le_of_ble_eq_true rfl)
  intro p e s m below meth c A X hP hD hS ls hl
  obtain ⟨hx, hb, hr, hml, hown, hts, hlk, hK, hA, hG⟩ := id X
  unfold fX12_best at hf
  have hl : lv_has ls 3 [(0, .ref (q 0)), (1, .int (a1)), (2, .int (a2))] := hl
  refine lv_aload_n hx hb dX12_best_0 rfl (lv_at hl 0 rfl) ?_
  refine lv_iconst (v := (0 : Int32)) hx hb dX12_best_1 (by decide) ?_
  refine va_put (D := (dC, dI)) (ci := 12) (v := .int ((0 : Int32))) (ty := .int) (C := RX12) (T := TX12) (N := 49) hx hb hts i_X12 tyX12 tyX12_ok nmX12 hown hK hP hD hS 0 rfl rfl 1 (by decide) (hts _ wf_X12_63) (fun _ h9 => h9) rfl (tyX12_ok 1 (by decide)) rfl rfl (Nat.le_of_ble_eq_true rfl) dX12_best_2 (fun H locs hP hD hS => ?_)
  have hP := tc_eP (pw12_0_1 ca q S (0 : Int32)) hP
  have hD := tc_eD (pw12_0_1 ca q S (0 : Int32)) hD
  refine lv_aload_n hx hb dX12_best_5 rfl (lv_at hl 0 rfl) ?_
  refine lv_aload_n hx hb dX12_best_6 rfl (lv_at hl 0 rfl) ?_
  refine lv_iload_n hx hb dX12_best_7 rfl (lv_at hl 1 rfl) ?_
  refine lv_iload_n hx hb dX12_best_8 rfl (lv_at hl 2 rfl) ?_
  obtain ⟨z1, hg, hf⟩ := tc_bi hf
  refine tc_iVs (As := [.int (a1), .int (a2)]) (rest := [.ref (q 0)]) (b := q 0) X hP hD hS (mX12_whyNoBest hg) okX12_whyNoBest wl_X12_470 wi_X12_whyNoBest ws_X12_X12_whyNoBest_X12_whyNoBest ⟨rfl, rfl, Nat.le_of_ble_eq_true rfl, Nat.le_of_ble_eq_true rfl⟩ 12 0 rfl rfl rfl hl.1 (Nat.le_of_ble_eq_true rfl) dX12_best_9 (fun H locs hP hD hS => ?_)
  refine va_put (D := (dC, dI)) (ci := 12) (v := .int (z1)) (ty := .int) (C := RX12) (T := TX12) (N := 49) hx hb hts i_X12 tyX12 tyX12_ok nmX12 hown hK hP hD hS 0 rfl rfl 0 (by decide) (hts _ wf_X12_66) (fun _ h9 => h9) rfl (tyX12_ok 0 (by decide)) rfl rfl (Nat.le_of_ble_eq_true rfl) dX12_best_12 (fun H locs hP hD hS => ?_)
  have hP := tc_eP (pw12_0_0 ca q (si S 1 (0 : Int32)) z1) hP
  have hD := tc_eD (pw12_0_0 ca q (si S 1 (0 : Int32)) z1) hD
  refine lv_aload_n hx hb dX12_best_15 rfl (lv_at hl 0 rfl) ?_
  refine va_get (D := (dC, dI)) (ci := 12) (v := .int (gi (si (si S 1 (0 : Int32)) 0 z1) 0)) (C := RX12) (T := TX12) (N := 49) hx hb hts i_X12 hown hK hP 0 rfl rfl 0 (by decide) (hts _ wf_X12_66) (fun _ h9 => h9) rfl dX12_best_16 ?_
  refine lv_if_le (tgt := 24) hx hb dX12_best_19 (by decide) (fun hc => ?_) (fun hc => ?_)
  · have hf := tc_pos hc hf
    refine lv_aload_n hx hb dX12_best_24 rfl (lv_at hl 0 rfl) ?_
    refine lv_iload_n hx hb dX12_best_25 rfl (lv_at hl 1 rfl) ?_
    refine lv_iload_n hx hb dX12_best_26 rfl (lv_at hl 2 rfl) ?_
    obtain ⟨z2, hg, hf⟩ := tc_bi hf
    refine tc_vVs (As := [.int (a1), .int (a2)]) (rest := []) (b := q 0) X hP hD hS (mX12_laysBest hg) okX12_laysBest wl_X12_473 wi_X12_laysBest ws_X12_X12_laysBest_X12_laysBest ⟨rfl, rfl, Nat.le_of_ble_eq_true rfl, Nat.le_of_ble_eq_true rfl⟩ 12 0 rfl rfl rfl hl.1 (Nat.le_of_ble_eq_true rfl) dX12_best_27 (fun H locs hP hD hS => ?_)
    refine lv_aload_n hx hb dX12_best_30 rfl (lv_at hl 0 rfl) ?_
    refine lv_aload_n hx hb dX12_best_31 rfl (lv_at hl 0 rfl) ?_
    refine va_get (D := (dC, dI)) (ci := 12) (v := .long (gl z2 29)) (C := RX12) (T := TX12) (N := 49) hx hb hts i_X12 hown hK hP 0 rfl rfl 29 (by decide) (hts _ wf_X12_455) (fun _ h9 => h9) rfl dX12_best_32 ?_
    refine lv_aload_n hx hb dX12_best_35 rfl (lv_at hl 0 rfl) ?_
    refine va_get (D := (dC, dI)) (ci := 12) (v := .long (gl z2 30)) (C := RX12) (T := TX12) (N := 49) hx hb hts i_X12 hown hK hP 0 rfl rfl 30 (by decide) (hts _ wf_X12_458) (fun _ h9 => h9) rfl dX12_best_36 ?_
    obtain ⟨z3, hg, hf⟩ := tc_bi hf
    refine tc_iVs (As := [.long (gl z2 29), .long (gl z2 30)]) (rest := []) (b := q 0) X hP hD hS (mX12_fraction hg) okX12_fraction wl_X12_429 wi_X12_fraction ws_X12_X12_fraction_X12_fraction ⟨rfl, rfl, Nat.le_of_ble_eq_true rfl, Nat.le_of_ble_eq_true rfl⟩ 12 0 rfl rfl rfl hl.1 (Nat.le_of_ble_eq_true rfl) dX12_best_39 (fun H locs hP hD hS => ?_)
    obtain ⟨hz1, hf⟩ := tc_ck hf
    obtain rfl := Option.some.inj hf
    exact tc_rz X hP hD hS rfl dX12_best_42 hz1 rfl rfl
  · have hf := tc_neg hc hf
    refine lv_iconst (v := (0 : Int32)) hx hb dX12_best_22 (by decide) ?_
    obtain rfl := Option.some.inj hf
    exact tc_rz X hP hD hS rfl dX12_best_23 (by decide) rfl rfl
def fX12_bestAt  (S : ms_T) (a1 : Int32) (a2 : Int32) : Option (Int32 × ms_T) :=
  (fX12_whyNoBest (si S 1 (0 : Int32)) a1 a2).bind fun z1 =>
  if (gi (si (si S 1 (0 : Int32)) 0 z1) 0) ≤ 0 then
    (fX12_laysBest (si (si S 1 (0 : Int32)) 0 z1) a1 a2).bind fun z2 =>
    some (gi z2 31, z2)
  else
    some ((-1 : Int32), si (si S 1 (0 : Int32)) 0 z1)
abbrev rmX12_bestAt : Room := { frames := 3, cells := 0, slots := 0, locals := 71 }
theorem okX12_bestAt : tc_ok yX12_bestAt cX12_bestAt 3 (some .int) 2 := ⟨wc_X12_bestAt, wn_X12, by decide, by decide, by decide +kernel⟩
set_option maxRecDepth 20000 in
theorem mX12_bestAt {q : Nat → Nat}  {S : ms_T} {a1 : Int32} {a2 : Int32} {z : Int32 × ms_T}  (hf : fX12_bestAt S a1 a2 = some z) : tc_MI l dC dI ca yX12_bestAt cX12_bestAt 3 (some .int) rmX12_bestAt [.ref (q 0), .int (a1), .int (a2)] (w12 ca q S) (w12 ca q z.2) (z.1) := by
  refine tc_metI (own := RX12) (by decide) rfl ?_ (Nat.le_of_ble_eq_true rfl)
  intro p e s m below meth c A X hP hD hS ls hl
  obtain ⟨hx, hb, hr, hml, hown, hts, hlk, hK, hA, hG⟩ := id X
  unfold fX12_bestAt at hf
  have hl : lv_has ls 3 [(0, .ref (q 0)), (1, .int (a1)), (2, .int (a2))] := hl
  refine lv_aload_n hx hb dX12_bestAt_0 rfl (lv_at hl 0 rfl) ?_
  refine lv_iconst (v := (0 : Int32)) hx hb dX12_bestAt_1 (by decide) ?_
  refine va_put (D := (dC, dI)) (ci := 12) (v := .int ((0 : Int32))) (ty := .int) (C := RX12) (T := TX12) (N := 49) hx hb hts i_X12 tyX12 tyX12_ok nmX12 hown hK hP hD hS 0 rfl rfl 1 (by decide) (hts _ wf_X12_63) (fun _ h9 => h9) rfl (tyX12_ok 1 (by decide)) rfl rfl (Nat.le_of_ble_eq_true rfl) dX12_bestAt_2 (fun H locs hP hD hS => ?_)
  have hP := tc_eP (pw12_0_1 ca q S (0 : Int32)) hP
  have hD := tc_eD (pw12_0_1 ca q S (0 : Int32)) hD
  refine lv_aload_n hx hb dX12_bestAt_5 rfl (lv_at hl 0 rfl) ?_
  refine lv_aload_n hx hb dX12_bestAt_6 rfl (lv_at hl 0 rfl) ?_
  refine lv_iload_n hx hb dX12_bestAt_7 rfl (lv_at hl 1 rfl) ?_
  refine lv_iload_n hx hb dX12_bestAt_8 rfl (lv_at hl 2 rfl) ?_
  obtain ⟨z1, hg, hf⟩ := tc_bi hf
  refine tc_iVs (As := [.int (a1), .int (a2)]) (rest := [.ref (q 0)]) (b := q 0) X hP hD hS (mX12_whyNoBest hg) okX12_whyNoBest wl_X12_470 wi_X12_whyNoBest ws_X12_X12_whyNoBest_X12_whyNoBest ⟨rfl, rfl, Nat.le_of_ble_eq_true rfl, Nat.le_of_ble_eq_true rfl⟩ 12 0 rfl rfl rfl hl.1 (Nat.le_of_ble_eq_true rfl) dX12_bestAt_9 (fun H locs hP hD hS => ?_)
  refine va_put (D := (dC, dI)) (ci := 12) (v := .int (z1)) (ty := .int) (C := RX12) (T := TX12) (N := 49) hx hb hts i_X12 tyX12 tyX12_ok nmX12 hown hK hP hD hS 0 rfl rfl 0 (by decide) (hts _ wf_X12_66) (fun _ h9 => h9) rfl (tyX12_ok 0 (by decide)) rfl rfl (Nat.le_of_ble_eq_true rfl) dX12_bestAt_12 (fun H locs hP hD hS => ?_)
  have hP := tc_eP (pw12_0_0 ca q (si S 1 (0 : Int32)) z1) hP
  have hD := tc_eD (pw12_0_0 ca q (si S 1 (0 : Int32)) z1) hD
  refine lv_aload_n hx hb dX12_bestAt_15 rfl (lv_at hl 0 rfl) ?_
  refine va_get (D := (dC, dI)) (ci := 12) (v := .int (gi (si (si S 1 (0 : Int32)) 0 z1) 0)) (C := RX12) (T := TX12) (N := 49) hx hb hts i_X12 hown hK hP 0 rfl rfl 0 (by decide) (hts _ wf_X12_66) (fun _ h9 => h9) rfl dX12_bestAt_16 ?_
  refine lv_if_le (tgt := 24) hx hb dX12_bestAt_19 (by decide) (fun hc => ?_) (fun hc => ?_)
  · have hf := tc_pos hc hf
    refine lv_aload_n hx hb dX12_bestAt_24 rfl (lv_at hl 0 rfl) ?_
    refine lv_iload_n hx hb dX12_bestAt_25 rfl (lv_at hl 1 rfl) ?_
    refine lv_iload_n hx hb dX12_bestAt_26 rfl (lv_at hl 2 rfl) ?_
    obtain ⟨z2, hg, hf⟩ := tc_bi hf
    refine tc_vVs (As := [.int (a1), .int (a2)]) (rest := []) (b := q 0) X hP hD hS (mX12_laysBest hg) okX12_laysBest wl_X12_473 wi_X12_laysBest ws_X12_X12_laysBest_X12_laysBest ⟨rfl, rfl, Nat.le_of_ble_eq_true rfl, Nat.le_of_ble_eq_true rfl⟩ 12 0 rfl rfl rfl hl.1 (Nat.le_of_ble_eq_true rfl) dX12_bestAt_27 (fun H locs hP hD hS => ?_)
    refine lv_aload_n hx hb dX12_bestAt_30 rfl (lv_at hl 0 rfl) ?_
    refine va_get (D := (dC, dI)) (ci := 12) (v := .int (gi z2 31)) (C := RX12) (T := TX12) (N := 49) hx hb hts i_X12 hown hK hP 0 rfl rfl 31 (by decide) (hts _ wf_X12_467) (fun _ h9 => h9) rfl dX12_bestAt_31 ?_
    obtain rfl := Option.some.inj hf
    exact tc_ri X hP hD hS rfl dX12_bestAt_34 rfl rfl
  · have hf := tc_neg hc hf
    refine lv_iconst (v := (-1 : Int32)) hx hb dX12_bestAt_22 (by decide) ?_
    obtain rfl := Option.some.inj hf
    exact tc_ri X hP hD hS rfl dX12_bestAt_23 rfl rfl
def fX12_laysTopics_12    : Nat → ms_T → Int32 → Int32 → Int32 → Option (ms_T)
  | 0, _, _, _, _ => none
  | n + 1, S, v2, v3, v4 =>
    if v4 < 0 then
      some (S)
    else
      if ¬ v2 = 0 then
        if inb v4 6 = true then
          if ¬ v2 = 0 then
            fX12_laysTopics_12 n (sa S 9 v4 (v3 - v3 / v2 * v2)) v2 (v3 / v2) (v4 + (-1 : Int32))
          else none
        else none
      else none
def fX12_laysTopics  (S : ms_T) (a1 : Int32) (a2 : Int32) : Option (ms_T) :=
  fX12_laysTopics_12 FU S a2 a1 ((ia S 5 (2 : Int32)) - (1 : Int32))
abbrev rmX12_laysTopics : Room := { frames := 0, cells := 0, slots := 0, locals := 0 }
theorem okX12_laysTopics : tc_ok yX12_laysTopics cX12_laysTopics 5 none 2 := ⟨wc_X12_laysTopics, wn_X12, by decide, by decide, by decide +kernel⟩
set_option maxRecDepth 20000 in
theorem tX12_laysTopics_12 {q : Nat → Nat}  (X : tc_X dC dI ca A RX12 cX12_laysTopics 5 none p s m args meth c) (z : ms_T)     : ∀ n : Nat, ∀ (S : ms_T) (v2 : Int32) (v3 : Int32) (v4 : Int32), fX12_laysTopics_12 n S v2 v3 v4 = some z → ∀ (H : Heap) (locs : List Loc) (ls : Array Slot), va_P (dC, dI) classes (w12 ca q S) H → va_D A (w12 ca q S) → va_S A s.heap H locs → lv_has ls 5 [(0, .ref (q 0)), (2, .int (v2)), (3, .int (v3)), (4, .int (v4))] → W p l e rmX12_laysTopics s m args below meth c H locs 0 0 (MQ below (tc_QV dC dI ca A (w12 ca q z)) args s 0 0 A) (F0 m 12 ls []) := by
  obtain ⟨hx, hb, hr, hml, hown, hts, hlk, hK, hA, hG⟩ := id X
  intro n
  induction n with
  | zero => intro S v2 v3 v4 hf; exact absurd (show none = some z from hf) (fun h => by cases h)
  | succ n ih =>
    intro S v2 v3 v4 hf H locs ls hP hD hS hl
    rw [fX12_laysTopics_12] at hf
    refine lv_iload hx hb dX12_laysTopics_12 (lv_at hl 3 rfl) ?_
    refine lv_if_lt (tgt := 37) hx hb dX12_laysTopics_14 (by decide) (fun hc => ?_) (fun hc => ?_)
    · have hf := tc_pos hc hf
      obtain rfl := Option.some.inj hf
      exact tc_rv X hP hD hS rfl dX12_laysTopics_37 rfl
    · have hf := tc_neg hc hf
      refine lv_aload_n hx hb dX12_laysTopics_17 rfl (lv_at hl 0 rfl) ?_
      refine va_get (D := (dC, dI)) (ci := 12) (v := .ref (q 9)) (C := RX12) (T := TX12) (N := 49) hx hb hts i_X12 hown hK hP 0 rfl rfl 32 (by decide) (hts _ wf_X12_47) (fun _ h9 => h9) rfl dX12_laysTopics_18 ?_
      refine lv_iload hx hb dX12_laysTopics_21 (lv_at hl 3 rfl) ?_
      refine lv_iload_n hx hb dX12_laysTopics_23 rfl (lv_at hl 2 rfl) ?_
      refine lv_iload_n hx hb dX12_laysTopics_24 rfl (lv_at hl 1 rfl) ?_
      obtain ⟨hne, hf⟩ := tc_ck hf
      refine lv_irem hx hb dX12_laysTopics_25 hne ?_
      obtain ⟨hi1, hf⟩ := tc_in hf
      refine va_iast hx hb hK hP hD hS 9 1 rfl rfl hi1 dX12_laysTopics_26 (fun H locs hP hD hS => ?_)
      have hP := tc_eP (aw12_0_9 ca q S v4 (v3 - v3 / v2 * v2)) hP
      have hD := tc_eD (aw12_0_9 ca q S v4 (v3 - v3 / v2 * v2)) hD
      refine lv_iload_n hx hb dX12_laysTopics_27 rfl (lv_at hl 2 rfl) ?_
      refine lv_iload_n hx hb dX12_laysTopics_28 rfl (lv_at hl 1 rfl) ?_
      obtain ⟨hne, hf⟩ := tc_ck hf
      refine lv_idiv hx hb dX12_laysTopics_29 hne ?_
      refine lv_istore_n (lv' := [(3, .int (v3 / v2)), (0, .ref (q 0)), (2, .int (v2)), (4, .int (v4))]) hx hb dX12_laysTopics_30 rfl hl (by decide) rfl (fun ls hl => ?_)
      refine lv_iinc (v := v4 + (-1 : Int32)) (lv' := [(4, .int (v4 + (-1 : Int32))), (3, .int (v3 / v2)), (0, .ref (q 0)), (2, .int (v2))]) hx hb dX12_laysTopics_31 hl (k := 3) rfl rfl (by decide) rfl (fun ls hl => ?_)
      refine lv_goto (tgt := 12) hx hb dX12_laysTopics_34 (by decide) ?_
      exact ih (sa S 9 v4 (v3 - v3 / v2 * v2)) v2 (v3 / v2) (v4 + (-1 : Int32)) hf _ _ _ hP hD hS (lv_sub hl [2, 3, 1, 0] rfl)
set_option maxRecDepth 20000 in
theorem mX12_laysTopics {q : Nat → Nat}  {S : ms_T} {a1 : Int32} {a2 : Int32} {z : ms_T}  (hf : fX12_laysTopics S a1 a2 = some z) : tc_MV l dC dI ca yX12_laysTopics cX12_laysTopics 5 none rmX12_laysTopics [.ref (q 0), .int (a1), .int (a2)] (w12 ca q S) (w12 ca q z) := by
  refine tc_metV (own := RX12) (by decide) rfl ?_ (Nat.le_of_ble_eq_true rfl)
  intro p e s m below meth c A X hP hD hS ls hl
  obtain ⟨hx, hb, hr, hml, hown, hts, hlk, hK, hA, hG⟩ := id X
  unfold fX12_laysTopics at hf
  have hl : lv_has ls 5 [(0, .ref (q 0)), (1, .int (a1)), (2, .int (a2))] := hl
  refine lv_iload_n hx hb dX12_laysTopics_0 rfl (lv_at hl 1 rfl) ?_
  refine lv_istore_n (lv' := [(3, .int (a1)), (0, .ref (q 0)), (1, .int (a1)), (2, .int (a2))]) hx hb dX12_laysTopics_1 rfl hl (by decide) rfl (fun ls hl => ?_)
  refine lv_aload_n hx hb dX12_laysTopics_2 rfl (lv_at hl 1 rfl) ?_
  refine va_get (D := (dC, dI)) (ci := 12) (v := .ref (q 5)) (C := RX12) (T := TX12) (N := 49) hx hb hts i_X12 hown hK hP 0 rfl rfl 20 (by decide) (hts _ wf_X12_35) (fun _ h9 => h9) rfl dX12_laysTopics_3 ?_
  refine lv_iconst (v := (2 : Int32)) hx hb dX12_laysTopics_6 (by decide) ?_
  refine va_iald hx hb hK hP 5 1 rfl rfl (inb_vp (by decide)) dX12_laysTopics_7 ?_
  refine lv_iconst (v := (1 : Int32)) hx hb dX12_laysTopics_8 (by decide) ?_
  refine lv_isub hx hb dX12_laysTopics_9 ?_
  refine lv_istore (lv' := [(4, .int ((ia S 5 (2 : Int32)) - (1 : Int32))), (3, .int (a1)), (0, .ref (q 0)), (1, .int (a1)), (2, .int (a2))]) hx hb dX12_laysTopics_10 hl (by decide) rfl (fun ls hl => ?_)
  exact tX12_laysTopics_12 X z FU S a2 a1 ((ia S 5 (2 : Int32)) - (1 : Int32)) hf _ _ _ hP hD hS (lv_sub hl [2, 4, 1, 0] rfl)
def fX12_laysQuarrels_127   (k31 : ms_T → Int32 → Int32 → Int32 → Option (ms_T)) (S : ms_T) (v1 : Int32) (v2 : Int32) (v3 : Int32) (v4 : Int32) : Option (ms_T) :=
  k31 (si (si S 33 v4) 34 v3) v1 v2 (v3 + (1 : Int32))
def fX12_laysQuarrels_48   (k31 : ms_T → Int32 → Int32 → Int32 → Option (ms_T)) : Nat → ms_T → Int32 → Int32 → Int32 → Int32 → Int32 → Option (ms_T)
  | 0, _, _, _, _, _, _ => none
  | n + 1, S, v1, v2, v3, v4, v5 =>
    if (ia S 5 (3 : Int32)) ≤ v5 then
      if (gi S 33) < 0 then
        fX12_laysQuarrels_127 k31 S v1 v2 v3 v4
      else
        if v4 < (gi S 33) then
          fX12_laysQuarrels_127 k31 S v1 v2 v3 v4
        else
          k31 S v1 v2 (v3 + (1 : Int32))
    else
      if inb ((72 : Int32) + v5) 1820 = true then
        if inb (ia S 5 ((72 : Int32) + v5)) 6 = true then
          if inb ((82 : Int32) + v5) 1820 = true then
            if inb (ia S 5 ((82 : Int32) + v5)) 6 = true then
              if (ia S 9 (ia S 5 ((72 : Int32) + v5))) = (ia S 9 (ia S 5 ((82 : Int32) + v5))) then
                fX12_laysQuarrels_48 k31 n S v1 v2 v3 (v4 + (1 : Int32)) (v5 + (1 : Int32))
              else
                fX12_laysQuarrels_48 k31 n S v1 v2 v3 (v4 + (0 : Int32)) (v5 + (1 : Int32))
            else none
          else none
        else none
      else none
def fX12_laysQuarrels_31    : Nat → ms_T → Int32 → Int32 → Int32 → Option (ms_T)
  | 0, _, _, _, _ => none
  | n + 1, S, v1, v2, v3 =>
    if v2 ≤ v3 then
      some (S)
    else
      (fX12_laysTopics S v3 v1).bind fun z1 =>
      fX12_laysQuarrels_48 (fX12_laysQuarrels_31 n) FU z1 v1 v2 v3 (0 : Int32) (0 : Int32)
def fX12_laysQuarrels_4    : Nat → ms_T → Int32 → Int32 → Int32 → Option (ms_T)
  | 0, _, _, _, _ => none
  | n + 1, S, v1, v2, v3 =>
    if (ia S 5 (2 : Int32)) ≤ v3 then
      fX12_laysQuarrels_31 FU (si S 33 (-1 : Int32)) v1 v2 (0 : Int32)
    else
      fX12_laysQuarrels_4 n S v1 (v2 * v1) (v3 + (1 : Int32))
def fX12_laysQuarrels  (S : ms_T) (a1 : Int32) : Option (ms_T) :=
  fX12_laysQuarrels_4 FU S a1 (1 : Int32) (0 : Int32)
abbrev rmX12_laysQuarrels : Room := { frames := 1, cells := 0, slots := 0, locals := 24 }
theorem okX12_laysQuarrels : tc_ok yX12_laysQuarrels cX12_laysQuarrels 6 none 1 := ⟨wc_X12_laysQuarrels, wn_X12, by decide, by decide, by decide +kernel⟩
set_option maxRecDepth 20000 in
theorem tX12_laysQuarrels_127 {q : Nat → Nat}  (X : tc_X dC dI ca A RX12 cX12_laysQuarrels 6 none p s m args meth c) (z : ms_T)   (k31 : ms_T → Int32 → Int32 → Int32 → Option (ms_T)) (hk31 : ∀ (S : ms_T) (v1 : Int32) (v2 : Int32) (v3 : Int32), k31 S v1 v2 v3 = some z → ∀ (H : Heap) (locs : List Loc) (ls : Array Slot), va_P (dC, dI) classes (w12 ca q S) H → va_D A (w12 ca q S) → va_S A s.heap H locs → lv_has ls 6 [(0, .ref (q 0)), (1, .int (v1)), (2, .int (v2)), (3, .int (v3))] → W p l e rmX12_laysQuarrels s m args below meth c H locs 0 0 (MQ below (tc_QV dC dI ca A (w12 ca q z)) args s 0 0 A) (F0 m 31 ls [])) : ∀ (S : ms_T) (v1 : Int32) (v2 : Int32) (v3 : Int32) (v4 : Int32), fX12_laysQuarrels_127 k31 S v1 v2 v3 v4 = some z → ∀ (H : Heap) (locs : List Loc) (ls : Array Slot), va_P (dC, dI) classes (w12 ca q S) H → va_D A (w12 ca q S) → va_S A s.heap H locs → lv_has ls 6 [(0, .ref (q 0)), (1, .int (v1)), (2, .int (v2)), (3, .int (v3)), (4, .int (v4))] → W p l e rmX12_laysQuarrels s m args below meth c H locs 0 0 (MQ below (tc_QV dC dI ca A (w12 ca q z)) args s 0 0 A) (F0 m 127 ls []) := by
  obtain ⟨hx, hb, hr, hml, hown, hts, hlk, hK, hA, hG⟩ := id X
  intro S v1 v2 v3 v4 hf H locs ls hP hD hS hl
  unfold fX12_laysQuarrels_127 at hf
  refine lv_aload_n hx hb dX12_laysQuarrels_127 rfl (lv_at hl 0 rfl) ?_
  refine lv_iload hx hb dX12_laysQuarrels_128 (lv_at hl 4 rfl) ?_
  refine va_put (D := (dC, dI)) (ci := 12) (v := .int (v4)) (ty := .int) (C := RX12) (T := TX12) (N := 49) hx hb hts i_X12 tyX12 tyX12_ok nmX12 hown hK hP hD hS 0 rfl rfl 33 (by decide) (hts _ wf_X12_476) (fun _ h9 => h9) rfl (tyX12_ok 33 (by decide)) rfl rfl (Nat.le_of_ble_eq_true rfl) dX12_laysQuarrels_130 (fun H locs hP hD hS => ?_)
  have hP := tc_eP (pw12_0_33 ca q S v4) hP
  have hD := tc_eD (pw12_0_33 ca q S v4) hD
  refine lv_aload_n hx hb dX12_laysQuarrels_133 rfl (lv_at hl 0 rfl) ?_
  refine lv_iload_n hx hb dX12_laysQuarrels_134 rfl (lv_at hl 3 rfl) ?_
  refine va_put (D := (dC, dI)) (ci := 12) (v := .int (v3)) (ty := .int) (C := RX12) (T := TX12) (N := 49) hx hb hts i_X12 tyX12 tyX12_ok nmX12 hown hK hP hD hS 0 rfl rfl 34 (by decide) (hts _ wf_X12_482) (fun _ h9 => h9) rfl (tyX12_ok 34 (by decide)) rfl rfl (Nat.le_of_ble_eq_true rfl) dX12_laysQuarrels_135 (fun H locs hP hD hS => ?_)
  have hP := tc_eP (pw12_0_34 ca q (si S 33 v4) v3) hP
  have hD := tc_eD (pw12_0_34 ca q (si S 33 v4) v3) hD
  refine lv_iinc (v := v3 + (1 : Int32)) (lv' := [(3, .int (v3 + (1 : Int32))), (0, .ref (q 0)), (1, .int (v1)), (2, .int (v2)), (4, .int (v4))]) hx hb dX12_laysQuarrels_138 hl (k := 3) rfl rfl (by decide) rfl (fun ls hl => ?_)
  refine lv_goto (tgt := 31) hx hb dX12_laysQuarrels_141 (by decide) ?_
  exact hk31 (si (si S 33 v4) 34 v3) v1 v2 (v3 + (1 : Int32)) hf _ _ _ hP hD hS (lv_sub hl [1, 2, 3, 0] rfl)
set_option maxRecDepth 20000 in
theorem tX12_laysQuarrels_48 {q : Nat → Nat}  (X : tc_X dC dI ca A RX12 cX12_laysQuarrels 6 none p s m args meth c) (z : ms_T)   (k31 : ms_T → Int32 → Int32 → Int32 → Option (ms_T)) (hk31 : ∀ (S : ms_T) (v1 : Int32) (v2 : Int32) (v3 : Int32), k31 S v1 v2 v3 = some z → ∀ (H : Heap) (locs : List Loc) (ls : Array Slot), va_P (dC, dI) classes (w12 ca q S) H → va_D A (w12 ca q S) → va_S A s.heap H locs → lv_has ls 6 [(0, .ref (q 0)), (1, .int (v1)), (2, .int (v2)), (3, .int (v3))] → W p l e rmX12_laysQuarrels s m args below meth c H locs 0 0 (MQ below (tc_QV dC dI ca A (w12 ca q z)) args s 0 0 A) (F0 m 31 ls [])) : ∀ n : Nat, ∀ (S : ms_T) (v1 : Int32) (v2 : Int32) (v3 : Int32) (v4 : Int32) (v5 : Int32), fX12_laysQuarrels_48 k31 n S v1 v2 v3 v4 v5 = some z → ∀ (H : Heap) (locs : List Loc) (ls : Array Slot), va_P (dC, dI) classes (w12 ca q S) H → va_D A (w12 ca q S) → va_S A s.heap H locs → lv_has ls 6 [(0, .ref (q 0)), (1, .int (v1)), (2, .int (v2)), (3, .int (v3)), (4, .int (v4)), (5, .int (v5))] → W p l e rmX12_laysQuarrels s m args below meth c H locs 0 0 (MQ below (tc_QV dC dI ca A (w12 ca q z)) args s 0 0 A) (F0 m 48 ls []) := by
  obtain ⟨hx, hb, hr, hml, hown, hts, hlk, hK, hA, hG⟩ := id X
  intro n
  induction n with
  | zero => intro S v1 v2 v3 v4 v5 hf; exact absurd (show none = some z from hf) (fun h => by cases h)
  | succ n ih =>
    intro S v1 v2 v3 v4 v5 hf H locs ls hP hD hS hl
    rw [fX12_laysQuarrels_48] at hf
    refine lv_iload hx hb dX12_laysQuarrels_48 (lv_at hl 5 rfl) ?_
    refine lv_aload_n hx hb dX12_laysQuarrels_50 rfl (lv_at hl 0 rfl) ?_
    refine va_get (D := (dC, dI)) (ci := 12) (v := .ref (q 5)) (C := RX12) (T := TX12) (N := 49) hx hb hts i_X12 hown hK hP 0 rfl rfl 20 (by decide) (hts _ wf_X12_35) (fun _ h9 => h9) rfl dX12_laysQuarrels_51 ?_
    refine lv_iconst (v := (3 : Int32)) hx hb dX12_laysQuarrels_54 (by decide) ?_
    refine va_iald hx hb hK hP 5 1 rfl rfl (inb_vp (by decide)) dX12_laysQuarrels_55 ?_
    refine lv_icmp_ge (tgt := 108) hx hb dX12_laysQuarrels_56 (by decide) (fun hc => ?_) (fun hc => ?_)
    · have hf := tc_pos hc hf
      refine lv_aload_n hx hb dX12_laysQuarrels_108 rfl (lv_at hl 0 rfl) ?_
      refine va_get (D := (dC, dI)) (ci := 12) (v := .int (gi S 33)) (C := RX12) (T := TX12) (N := 49) hx hb hts i_X12 hown hK hP 0 rfl rfl 33 (by decide) (hts _ wf_X12_476) (fun _ h9 => h9) rfl dX12_laysQuarrels_109 ?_
      refine lv_if_lt (tgt := 127) hx hb dX12_laysQuarrels_112 (by decide) (fun hc => ?_) (fun hc => ?_)
      · have hf := tc_pos hc hf
        exact tX12_laysQuarrels_127 X z k31 hk31 S v1 v2 v3 v4 hf _ _ _ hP hD hS (lv_sub hl [0, 1, 2, 3, 4] rfl)
      · have hf := tc_neg hc hf
        refine lv_iload hx hb dX12_laysQuarrels_115 (lv_at hl 4 rfl) ?_
        refine lv_aload_n hx hb dX12_laysQuarrels_117 rfl (lv_at hl 0 rfl) ?_
        refine va_get (D := (dC, dI)) (ci := 12) (v := .int (gi S 33)) (C := RX12) (T := TX12) (N := 49) hx hb hts i_X12 hown hK hP 0 rfl rfl 33 (by decide) (hts _ wf_X12_476) (fun _ h9 => h9) rfl dX12_laysQuarrels_118 ?_
        refine lv_icmp_lt (tgt := 127) hx hb dX12_laysQuarrels_121 (by decide) (fun hc => ?_) (fun hc => ?_)
        · have hf := tc_pos hc hf
          exact tX12_laysQuarrels_127 X z k31 hk31 S v1 v2 v3 v4 hf _ _ _ hP hD hS (lv_sub hl [0, 1, 2, 3, 4] rfl)
        · have hf := tc_neg hc hf
          refine lv_goto (tgt := 138) hx hb dX12_laysQuarrels_124 (by decide) ?_
          refine lv_iinc (v := v3 + (1 : Int32)) (lv' := [(3, .int (v3 + (1 : Int32))), (0, .ref (q 0)), (1, .int (v1)), (2, .int (v2)), (4, .int (v4)), (5, .int (v5))]) hx hb dX12_laysQuarrels_138 hl (k := 3) rfl rfl (by decide) rfl (fun ls hl => ?_)
          refine lv_goto (tgt := 31) hx hb dX12_laysQuarrels_141 (by decide) ?_
          exact hk31 S v1 v2 (v3 + (1 : Int32)) hf _ _ _ hP hD hS (lv_sub hl [1, 2, 3, 0] rfl)
    · have hf := tc_neg hc hf
      refine lv_iload hx hb dX12_laysQuarrels_59 (lv_at hl 4 rfl) ?_
      refine lv_aload_n hx hb dX12_laysQuarrels_61 rfl (lv_at hl 0 rfl) ?_
      refine va_get (D := (dC, dI)) (ci := 12) (v := .ref (q 9)) (C := RX12) (T := TX12) (N := 49) hx hb hts i_X12 hown hK hP 0 rfl rfl 32 (by decide) (hts _ wf_X12_47) (fun _ h9 => h9) rfl dX12_laysQuarrels_62 ?_
      refine lv_aload_n hx hb dX12_laysQuarrels_65 rfl (lv_at hl 0 rfl) ?_
      refine va_get (D := (dC, dI)) (ci := 12) (v := .ref (q 5)) (C := RX12) (T := TX12) (N := 49) hx hb hts i_X12 hown hK hP 0 rfl rfl 20 (by decide) (hts _ wf_X12_35) (fun _ h9 => h9) rfl dX12_laysQuarrels_66 ?_
      refine lv_bipush (v := (72 : Int32)) hx hb dX12_laysQuarrels_69 (by decide) ?_
      refine lv_iload hx hb dX12_laysQuarrels_71 (lv_at hl 5 rfl) ?_
      refine lv_iadd hx hb dX12_laysQuarrels_73 ?_
      obtain ⟨hi2, hf⟩ := tc_in hf
      refine va_iald hx hb hK hP 5 1 rfl rfl hi2 dX12_laysQuarrels_74 ?_
      obtain ⟨hi3, hf⟩ := tc_in hf
      refine va_iald hx hb hK hP 9 1 rfl rfl hi3 dX12_laysQuarrels_75 ?_
      refine lv_aload_n hx hb dX12_laysQuarrels_76 rfl (lv_at hl 0 rfl) ?_
      refine va_get (D := (dC, dI)) (ci := 12) (v := .ref (q 9)) (C := RX12) (T := TX12) (N := 49) hx hb hts i_X12 hown hK hP 0 rfl rfl 32 (by decide) (hts _ wf_X12_47) (fun _ h9 => h9) rfl dX12_laysQuarrels_77 ?_
      refine lv_aload_n hx hb dX12_laysQuarrels_80 rfl (lv_at hl 0 rfl) ?_
      refine va_get (D := (dC, dI)) (ci := 12) (v := .ref (q 5)) (C := RX12) (T := TX12) (N := 49) hx hb hts i_X12 hown hK hP 0 rfl rfl 20 (by decide) (hts _ wf_X12_35) (fun _ h9 => h9) rfl dX12_laysQuarrels_81 ?_
      refine lv_bipush (v := (82 : Int32)) hx hb dX12_laysQuarrels_84 (by decide) ?_
      refine lv_iload hx hb dX12_laysQuarrels_86 (lv_at hl 5 rfl) ?_
      refine lv_iadd hx hb dX12_laysQuarrels_88 ?_
      obtain ⟨hi4, hf⟩ := tc_in hf
      refine va_iald hx hb hK hP 5 1 rfl rfl hi4 dX12_laysQuarrels_89 ?_
      obtain ⟨hi5, hf⟩ := tc_in hf
      refine va_iald hx hb hK hP 9 1 rfl rfl hi5 dX12_laysQuarrels_90 ?_
      refine lv_icmp_ne (tgt := 98) hx hb dX12_laysQuarrels_91 (by decide) (fun hc => ?_) (fun hc => ?_)
      · have hf := tc_neg hc hf
        refine lv_iconst (v := (0 : Int32)) hx hb dX12_laysQuarrels_98 (by decide) ?_
        refine lv_iadd hx hb dX12_laysQuarrels_99 ?_
        refine lv_istore (lv' := [(4, .int (v4 + (0 : Int32))), (0, .ref (q 0)), (1, .int (v1)), (2, .int (v2)), (3, .int (v3)), (5, .int (v5))]) hx hb dX12_laysQuarrels_100 hl (by decide) rfl (fun ls hl => ?_)
        refine lv_iinc (v := v5 + (1 : Int32)) (lv' := [(5, .int (v5 + (1 : Int32))), (4, .int (v4 + (0 : Int32))), (0, .ref (q 0)), (1, .int (v1)), (2, .int (v2)), (3, .int (v3))]) hx hb dX12_laysQuarrels_102 hl (k := 5) rfl rfl (by decide) rfl (fun ls hl => ?_)
        refine lv_goto (tgt := 48) hx hb dX12_laysQuarrels_105 (by decide) ?_
        exact ih S v1 v2 v3 (v4 + (0 : Int32)) (v5 + (1 : Int32)) hf _ _ _ hP hD hS (lv_sub hl [2, 3, 4, 5, 1, 0] rfl)
      · have hf := tc_pos hc hf
        refine lv_iconst (v := (1 : Int32)) hx hb dX12_laysQuarrels_94 (by decide) ?_
        refine lv_goto (tgt := 99) hx hb dX12_laysQuarrels_95 (by decide) ?_
        refine lv_iadd hx hb dX12_laysQuarrels_99 ?_
        refine lv_istore (lv' := [(4, .int (v4 + (1 : Int32))), (0, .ref (q 0)), (1, .int (v1)), (2, .int (v2)), (3, .int (v3)), (5, .int (v5))]) hx hb dX12_laysQuarrels_100 hl (by decide) rfl (fun ls hl => ?_)
        refine lv_iinc (v := v5 + (1 : Int32)) (lv' := [(5, .int (v5 + (1 : Int32))), (4, .int (v4 + (1 : Int32))), (0, .ref (q 0)), (1, .int (v1)), (2, .int (v2)), (3, .int (v3))]) hx hb dX12_laysQuarrels_102 hl (k := 5) rfl rfl (by decide) rfl (fun ls hl => ?_)
        refine lv_goto (tgt := 48) hx hb dX12_laysQuarrels_105 (by decide) ?_
        exact ih S v1 v2 v3 (v4 + (1 : Int32)) (v5 + (1 : Int32)) hf _ _ _ hP hD hS (lv_sub hl [2, 3, 4, 5, 1, 0] rfl)
set_option maxRecDepth 20000 in
theorem tX12_laysQuarrels_31 {q : Nat → Nat}  (X : tc_X dC dI ca A RX12 cX12_laysQuarrels 6 none p s m args meth c) (z : ms_T)     : ∀ n : Nat, ∀ (S : ms_T) (v1 : Int32) (v2 : Int32) (v3 : Int32), fX12_laysQuarrels_31 n S v1 v2 v3 = some z → ∀ (H : Heap) (locs : List Loc) (ls : Array Slot), va_P (dC, dI) classes (w12 ca q S) H → va_D A (w12 ca q S) → va_S A s.heap H locs → lv_has ls 6 [(0, .ref (q 0)), (1, .int (v1)), (2, .int (v2)), (3, .int (v3))] → W p l e rmX12_laysQuarrels s m args below meth c H locs 0 0 (MQ below (tc_QV dC dI ca A (w12 ca q z)) args s 0 0 A) (F0 m 31 ls []) := by
  obtain ⟨hx, hb, hr, hml, hown, hts, hlk, hK, hA, hG⟩ := id X
  intro n
  induction n with
  | zero => intro S v1 v2 v3 hf; exact absurd (show none = some z from hf) (fun h => by cases h)
  | succ n ih =>
    intro S v1 v2 v3 hf H locs ls hP hD hS hl
    rw [fX12_laysQuarrels_31] at hf
    refine lv_iload_n hx hb dX12_laysQuarrels_31 rfl (lv_at hl 3 rfl) ?_
    refine lv_iload_n hx hb dX12_laysQuarrels_32 rfl (lv_at hl 2 rfl) ?_
    refine lv_icmp_ge (tgt := 144) hx hb dX12_laysQuarrels_33 (by decide) (fun hc => ?_) (fun hc => ?_)
    · have hf := tc_pos hc hf
      obtain rfl := Option.some.inj hf
      exact tc_rv X hP hD hS rfl dX12_laysQuarrels_144 rfl
    · have hf := tc_neg hc hf
      refine lv_aload_n hx hb dX12_laysQuarrels_36 rfl (lv_at hl 0 rfl) ?_
      refine lv_iload_n hx hb dX12_laysQuarrels_37 rfl (lv_at hl 3 rfl) ?_
      refine lv_iload_n hx hb dX12_laysQuarrels_38 rfl (lv_at hl 1 rfl) ?_
      obtain ⟨z1, hg, hf⟩ := tc_bi hf
      refine tc_vVs (As := [.int (v3), .int (v1)]) (rest := []) (b := q 0) X hP hD hS (mX12_laysTopics hg) okX12_laysTopics wl_X12_479 wi_X12_laysTopics ws_X12_X12_laysTopics_X12_laysTopics ⟨rfl, rfl, Nat.le_of_ble_eq_true rfl, Nat.le_of_ble_eq_true rfl⟩ 12 0 rfl rfl rfl hl.1 (Nat.le_of_ble_eq_true rfl) dX12_laysQuarrels_39 (fun H locs hP hD hS => ?_)
      refine lv_iconst (v := (0 : Int32)) hx hb dX12_laysQuarrels_42 (by decide) ?_
      refine lv_istore (lv' := [(4, .int ((0 : Int32))), (0, .ref (q 0)), (1, .int (v1)), (2, .int (v2)), (3, .int (v3))]) hx hb dX12_laysQuarrels_43 hl (by decide) rfl (fun ls hl => ?_)
      refine lv_iconst (v := (0 : Int32)) hx hb dX12_laysQuarrels_45 (by decide) ?_
      refine lv_istore (lv' := [(5, .int ((0 : Int32))), (4, .int ((0 : Int32))), (0, .ref (q 0)), (1, .int (v1)), (2, .int (v2)), (3, .int (v3))]) hx hb dX12_laysQuarrels_46 hl (by decide) rfl (fun ls hl => ?_)
      exact tX12_laysQuarrels_48 X z (fX12_laysQuarrels_31 n) ih FU z1 v1 v2 v3 (0 : Int32) (0 : Int32) hf _ _ _ hP hD hS (lv_sub hl [2, 3, 4, 5, 1, 0] rfl)
set_option maxRecDepth 20000 in
theorem tX12_laysQuarrels_4 {q : Nat → Nat}  (X : tc_X dC dI ca A RX12 cX12_laysQuarrels 6 none p s m args meth c) (z : ms_T)     : ∀ n : Nat, ∀ (S : ms_T) (v1 : Int32) (v2 : Int32) (v3 : Int32), fX12_laysQuarrels_4 n S v1 v2 v3 = some z → ∀ (H : Heap) (locs : List Loc) (ls : Array Slot), va_P (dC, dI) classes (w12 ca q S) H → va_D A (w12 ca q S) → va_S A s.heap H locs → lv_has ls 6 [(0, .ref (q 0)), (1, .int (v1)), (2, .int (v2)), (3, .int (v3))] → W p l e rmX12_laysQuarrels s m args below meth c H locs 0 0 (MQ below (tc_QV dC dI ca A (w12 ca q z)) args s 0 0 A) (F0 m 4 ls []) := by
  obtain ⟨hx, hb, hr, hml, hown, hts, hlk, hK, hA, hG⟩ := id X
  intro n
  induction n with
  | zero => intro S v1 v2 v3 hf; exact absurd (show none = some z from hf) (fun h => by cases h)
  | succ n ih =>
    intro S v1 v2 v3 hf H locs ls hP hD hS hl
    rw [fX12_laysQuarrels_4] at hf
    refine lv_iload_n hx hb dX12_laysQuarrels_4 rfl (lv_at hl 3 rfl) ?_
    refine lv_aload_n hx hb dX12_laysQuarrels_5 rfl (lv_at hl 0 rfl) ?_
    refine va_get (D := (dC, dI)) (ci := 12) (v := .ref (q 5)) (C := RX12) (T := TX12) (N := 49) hx hb hts i_X12 hown hK hP 0 rfl rfl 20 (by decide) (hts _ wf_X12_35) (fun _ h9 => h9) rfl dX12_laysQuarrels_6 ?_
    refine lv_iconst (v := (2 : Int32)) hx hb dX12_laysQuarrels_9 (by decide) ?_
    refine va_iald hx hb hK hP 5 1 rfl rfl (inb_vp (by decide)) dX12_laysQuarrels_10 ?_
    refine lv_icmp_ge (tgt := 24) hx hb dX12_laysQuarrels_11 (by decide) (fun hc => ?_) (fun hc => ?_)
    · have hf := tc_pos hc hf
      refine lv_aload_n hx hb dX12_laysQuarrels_24 rfl (lv_at hl 0 rfl) ?_
      refine lv_iconst (v := (-1 : Int32)) hx hb dX12_laysQuarrels_25 (by decide) ?_
      refine va_put (D := (dC, dI)) (ci := 12) (v := .int ((-1 : Int32))) (ty := .int) (C := RX12) (T := TX12) (N := 49) hx hb hts i_X12 tyX12 tyX12_ok nmX12 hown hK hP hD hS 0 rfl rfl 33 (by decide) (hts _ wf_X12_476) (fun _ h9 => h9) rfl (tyX12_ok 33 (by decide)) rfl rfl (Nat.le_of_ble_eq_true rfl) dX12_laysQuarrels_26 (fun H locs hP hD hS => ?_)
      have hP := tc_eP (pw12_0_33 ca q S (-1 : Int32)) hP
      have hD := tc_eD (pw12_0_33 ca q S (-1 : Int32)) hD
      refine lv_iconst (v := (0 : Int32)) hx hb dX12_laysQuarrels_29 (by decide) ?_
      refine lv_istore_n (lv' := [(3, .int ((0 : Int32))), (0, .ref (q 0)), (1, .int (v1)), (2, .int (v2))]) hx hb dX12_laysQuarrels_30 rfl hl (by decide) rfl (fun ls hl => ?_)
      exact tX12_laysQuarrels_31 X z FU (si S 33 (-1 : Int32)) v1 v2 (0 : Int32) hf _ _ _ hP hD hS (lv_sub hl [1, 2, 3, 0] rfl)
    · have hf := tc_neg hc hf
      refine lv_iload_n hx hb dX12_laysQuarrels_14 rfl (lv_at hl 2 rfl) ?_
      refine lv_iload_n hx hb dX12_laysQuarrels_15 rfl (lv_at hl 1 rfl) ?_
      refine lv_imul hx hb dX12_laysQuarrels_16 ?_
      refine lv_istore_n (lv' := [(2, .int (v2 * v1)), (0, .ref (q 0)), (1, .int (v1)), (3, .int (v3))]) hx hb dX12_laysQuarrels_17 rfl hl (by decide) rfl (fun ls hl => ?_)
      refine lv_iinc (v := v3 + (1 : Int32)) (lv' := [(3, .int (v3 + (1 : Int32))), (2, .int (v2 * v1)), (0, .ref (q 0)), (1, .int (v1))]) hx hb dX12_laysQuarrels_18 hl (k := 3) rfl rfl (by decide) rfl (fun ls hl => ?_)
      refine lv_goto (tgt := 4) hx hb dX12_laysQuarrels_21 (by decide) ?_
      exact ih S v1 (v2 * v1) (v3 + (1 : Int32)) hf _ _ _ hP hD hS (lv_sub hl [2, 3, 1, 0] rfl)
set_option maxRecDepth 20000 in
theorem mX12_laysQuarrels {q : Nat → Nat}  {S : ms_T} {a1 : Int32} {z : ms_T}  (hf : fX12_laysQuarrels S a1 = some z) : tc_MV l dC dI ca yX12_laysQuarrels cX12_laysQuarrels 6 none rmX12_laysQuarrels [.ref (q 0), .int (a1)] (w12 ca q S) (w12 ca q z) := by
  refine tc_metV (own := RX12) (by decide) rfl ?_ (Nat.le_of_ble_eq_true rfl)
  intro p e s m below meth c A X hP hD hS ls hl
  obtain ⟨hx, hb, hr, hml, hown, hts, hlk, hK, hA, hG⟩ := id X
  unfold fX12_laysQuarrels at hf
  have hl : lv_has ls 6 [(0, .ref (q 0)), (1, .int (a1))] := hl
  refine lv_iconst (v := (1 : Int32)) hx hb dX12_laysQuarrels_0 (by decide) ?_
  refine lv_istore_n (lv' := [(2, .int ((1 : Int32))), (0, .ref (q 0)), (1, .int (a1))]) hx hb dX12_laysQuarrels_1 rfl hl (by decide) rfl (fun ls hl => ?_)
  refine lv_iconst (v := (0 : Int32)) hx hb dX12_laysQuarrels_2 (by decide) ?_
  refine lv_istore_n (lv' := [(3, .int ((0 : Int32))), (2, .int ((1 : Int32))), (0, .ref (q 0)), (1, .int (a1))]) hx hb dX12_laysQuarrels_3 rfl hl (by decide) rfl (fun ls hl => ?_)
  exact tX12_laysQuarrels_4 X z FU S a1 (1 : Int32) (0 : Int32) hf _ _ _ hP hD hS (lv_sub hl [2, 3, 1, 0] rfl)
def fX12_peace_28    : Nat → ms_T → Int32 → Option (Int32 × ms_T)
  | 0, _, _ => none
  | n + 1, S, v1 =>
    if (gi S 33) ≤ 0 then
      some (v1, S)
    else
      (fX12_laysQuarrels S (v1 + (1 : Int32))).bind fun z2 =>
      fX12_peace_28 n z2 (v1 + (1 : Int32))
def fX12_peace  (S : ms_T)  : Option (Int32 × ms_T) :=
  if (ia (si (si S 1 (0 : Int32)) 0 (0 : Int32)) 5 (2 : Int32)) = 0 then
    some ((0 : Int32), si (si S 1 (0 : Int32)) 0 (0 : Int32))
  else
    (fX12_laysQuarrels (si (si S 1 (0 : Int32)) 0 (0 : Int32)) (1 : Int32)).bind fun z1 =>
    fX12_peace_28 FU z1 (1 : Int32)
abbrev rmX12_peace : Room := { frames := 2, cells := 0, slots := 0, locals := 49 }
theorem okX12_peace : tc_ok yX12_peace cX12_peace 2 (some .int) 0 := ⟨wc_X12_peace, wn_X12, by decide, by decide, by decide +kernel⟩
set_option maxRecDepth 20000 in
theorem tX12_peace_28 {q : Nat → Nat}  (X : tc_X dC dI ca A RX12 cX12_peace 2 (some .int) p s m args meth c) (z : Int32 × ms_T)     : ∀ n : Nat, ∀ (S : ms_T) (v1 : Int32), fX12_peace_28 n S v1 = some z → ∀ (H : Heap) (locs : List Loc) (ls : Array Slot), va_P (dC, dI) classes (w12 ca q S) H → va_D A (w12 ca q S) → va_S A s.heap H locs → lv_has ls 2 [(0, .ref (q 0)), (1, .int (v1))] → W p l e rmX12_peace s m args below meth c H locs 0 0 (MQ below (tc_QI dC dI ca A (w12 ca q z.2) (z.1)) args s 0 0 A) (F0 m 28 ls []) := by
  obtain ⟨hx, hb, hr, hml, hown, hts, hlk, hK, hA, hG⟩ := id X
  intro n
  induction n with
  | zero => intro S v1 hf; exact absurd (show none = some z from hf) (fun h => by cases h)
  | succ n ih =>
    intro S v1 hf H locs ls hP hD hS hl
    rw [fX12_peace_28] at hf
    refine lv_aload_n hx hb dX12_peace_28 rfl (lv_at hl 0 rfl) ?_
    refine va_get (D := (dC, dI)) (ci := 12) (v := .int (gi S 33)) (C := RX12) (T := TX12) (N := 49) hx hb hts i_X12 hown hK hP 0 rfl rfl 33 (by decide) (hts _ wf_X12_476) (fun _ h9 => h9) rfl dX12_peace_29 ?_
    refine lv_if_le (tgt := 46) hx hb dX12_peace_32 (by decide) (fun hc => ?_) (fun hc => ?_)
    · have hf := tc_pos hc hf
      refine lv_iload_n hx hb dX12_peace_46 rfl (lv_at hl 1 rfl) ?_
      obtain rfl := Option.some.inj hf
      exact tc_ri X hP hD hS rfl dX12_peace_47 rfl rfl
    · have hf := tc_neg hc hf
      refine lv_iinc (v := v1 + (1 : Int32)) (lv' := [(1, .int (v1 + (1 : Int32))), (0, .ref (q 0))]) hx hb dX12_peace_35 hl (k := 1) rfl rfl (by decide) rfl (fun ls hl => ?_)
      refine lv_aload_n hx hb dX12_peace_38 rfl (lv_at hl 1 rfl) ?_
      refine lv_iload_n hx hb dX12_peace_39 rfl (lv_at hl 0 rfl) ?_
      obtain ⟨z2, hg, hf⟩ := tc_bi hf
      refine tc_vVs (As := [.int (v1 + (1 : Int32))]) (rest := []) (b := q 0) X hP hD hS (mX12_laysQuarrels hg) okX12_laysQuarrels wl_X12_485 wi_X12_laysQuarrels ws_X12_X12_laysQuarrels_X12_laysQuarrels ⟨rfl, rfl, Nat.le_of_ble_eq_true rfl, Nat.le_of_ble_eq_true rfl⟩ 12 0 rfl rfl rfl hl.1 (Nat.le_of_ble_eq_true rfl) dX12_peace_40 (fun H locs hP hD hS => ?_)
      refine lv_goto (tgt := 28) hx hb dX12_peace_43 (by decide) ?_
      exact ih z2 (v1 + (1 : Int32)) hf _ _ _ hP hD hS (lv_sub hl [1, 0] rfl)
set_option maxRecDepth 20000 in
theorem mX12_peace {q : Nat → Nat}  {S : ms_T}  {z : Int32 × ms_T}  (hf : fX12_peace S = some z) : tc_MI l dC dI ca yX12_peace cX12_peace 2 (some .int) rmX12_peace [.ref (q 0)] (w12 ca q S) (w12 ca q z.2) (z.1) := by
  refine tc_metI (own := RX12) (by decide) rfl ?_ (Nat.le_of_ble_eq_true rfl)
  intro p e s m below meth c A X hP hD hS ls hl
  obtain ⟨hx, hb, hr, hml, hown, hts, hlk, hK, hA, hG⟩ := id X
  unfold fX12_peace at hf
  have hl : lv_has ls 2 [(0, .ref (q 0))] := hl
  refine lv_aload_n hx hb dX12_peace_0 rfl (lv_at hl 0 rfl) ?_
  refine lv_iconst (v := (0 : Int32)) hx hb dX12_peace_1 (by decide) ?_
  refine va_put (D := (dC, dI)) (ci := 12) (v := .int ((0 : Int32))) (ty := .int) (C := RX12) (T := TX12) (N := 49) hx hb hts i_X12 tyX12 tyX12_ok nmX12 hown hK hP hD hS 0 rfl rfl 1 (by decide) (hts _ wf_X12_63) (fun _ h9 => h9) rfl (tyX12_ok 1 (by decide)) rfl rfl (Nat.le_of_ble_eq_true rfl) dX12_peace_2 (fun H locs hP hD hS => ?_)
  have hP := tc_eP (pw12_0_1 ca q S (0 : Int32)) hP
  have hD := tc_eD (pw12_0_1 ca q S (0 : Int32)) hD
  refine lv_aload_n hx hb dX12_peace_5 rfl (lv_at hl 0 rfl) ?_
  refine lv_iconst (v := (0 : Int32)) hx hb dX12_peace_6 (by decide) ?_
  refine va_put (D := (dC, dI)) (ci := 12) (v := .int ((0 : Int32))) (ty := .int) (C := RX12) (T := TX12) (N := 49) hx hb hts i_X12 tyX12 tyX12_ok nmX12 hown hK hP hD hS 0 rfl rfl 0 (by decide) (hts _ wf_X12_66) (fun _ h9 => h9) rfl (tyX12_ok 0 (by decide)) rfl rfl (Nat.le_of_ble_eq_true rfl) dX12_peace_7 (fun H locs hP hD hS => ?_)
  have hP := tc_eP (pw12_0_0 ca q (si S 1 (0 : Int32)) (0 : Int32)) hP
  have hD := tc_eD (pw12_0_0 ca q (si S 1 (0 : Int32)) (0 : Int32)) hD
  refine lv_aload_n hx hb dX12_peace_10 rfl (lv_at hl 0 rfl) ?_
  refine va_get (D := (dC, dI)) (ci := 12) (v := .ref (q 5)) (C := RX12) (T := TX12) (N := 49) hx hb hts i_X12 hown hK hP 0 rfl rfl 20 (by decide) (hts _ wf_X12_35) (fun _ h9 => h9) rfl dX12_peace_11 ?_
  refine lv_iconst (v := (2 : Int32)) hx hb dX12_peace_14 (by decide) ?_
  refine va_iald hx hb hK hP 5 1 rfl rfl (inb_vp (by decide)) dX12_peace_15 ?_
  refine lv_if_ne (tgt := 21) hx hb dX12_peace_16 (by decide) (fun hc => ?_) (fun hc => ?_)
  · have hf := tc_neg hc hf
    refine lv_iconst (v := (1 : Int32)) hx hb dX12_peace_21 (by decide) ?_
    refine lv_istore_n (lv' := [(1, .int ((1 : Int32))), (0, .ref (q 0))]) hx hb dX12_peace_22 rfl hl (by decide) rfl (fun ls hl => ?_)
    refine lv_aload_n hx hb dX12_peace_23 rfl (lv_at hl 1 rfl) ?_
    refine lv_iconst (v := (1 : Int32)) hx hb dX12_peace_24 (by decide) ?_
    obtain ⟨z1, hg, hf⟩ := tc_bi hf
    refine tc_vVs (As := [.int ((1 : Int32))]) (rest := []) (b := q 0) X hP hD hS (mX12_laysQuarrels hg) okX12_laysQuarrels wl_X12_485 wi_X12_laysQuarrels ws_X12_X12_laysQuarrels_X12_laysQuarrels ⟨rfl, rfl, Nat.le_of_ble_eq_true rfl, Nat.le_of_ble_eq_true rfl⟩ 12 0 rfl rfl rfl hl.1 (Nat.le_of_ble_eq_true rfl) dX12_peace_25 (fun H locs hP hD hS => ?_)
    exact tX12_peace_28 X z FU z1 (1 : Int32) hf _ _ _ hP hD hS (lv_sub hl [1, 0] rfl)
  · have hf := tc_pos hc hf
    refine lv_iconst (v := (0 : Int32)) hx hb dX12_peace_19 (by decide) ?_
    obtain rfl := Option.some.inj hf
    exact tc_ri X hP hD hS rfl dX12_peace_20 rfl rfl
def fX12_quarrels  (S : ms_T) (a1 : Int32) : Option (Int32 × ms_T) :=
  (fX12_isIn a1.toInt64 (1 : Int64) (4 : Int64)).bind fun z1 =>
  if z1 = 0 then
    (fX12_refuse (si (si S 1 (0 : Int32)) 0 (0 : Int32)) (5 : Int32)).bind fun z3 =>
    some (z3.1, z3.2)
  else
    (fX12_laysQuarrels (si (si S 1 (0 : Int32)) 0 (0 : Int32)) a1).bind fun z2 =>
    some (gi z2 33, z2)
abbrev rmX12_quarrels : Room := { frames := 2, cells := 0, slots := 0, locals := 49 }
theorem okX12_quarrels : tc_ok yX12_quarrels cX12_quarrels 2 (some .int) 1 := ⟨wc_X12_quarrels, wn_X12, by decide, by decide, by decide +kernel⟩
set_option maxRecDepth 20000 in
theorem mX12_quarrels {q : Nat → Nat}  {S : ms_T} {a1 : Int32} {z : Int32 × ms_T}  (hf : fX12_quarrels S a1 = some z) : tc_MI l dC dI ca yX12_quarrels cX12_quarrels 2 (some .int) rmX12_quarrels [.ref (q 0), .int (a1)] (w12 ca q S) (w12 ca q z.2) (z.1) := by
  refine tc_metI (own := RX12) (by decide) rfl ?_ (Nat.le_of_ble_eq_true rfl)
  intro p e s m below meth c A X hP hD hS ls hl
  obtain ⟨hx, hb, hr, hml, hown, hts, hlk, hK, hA, hG⟩ := id X
  unfold fX12_quarrels at hf
  have hl : lv_has ls 2 [(0, .ref (q 0)), (1, .int (a1))] := hl
  refine lv_aload_n hx hb dX12_quarrels_0 rfl (lv_at hl 0 rfl) ?_
  refine lv_iconst (v := (0 : Int32)) hx hb dX12_quarrels_1 (by decide) ?_
  refine va_put (D := (dC, dI)) (ci := 12) (v := .int ((0 : Int32))) (ty := .int) (C := RX12) (T := TX12) (N := 49) hx hb hts i_X12 tyX12 tyX12_ok nmX12 hown hK hP hD hS 0 rfl rfl 1 (by decide) (hts _ wf_X12_63) (fun _ h9 => h9) rfl (tyX12_ok 1 (by decide)) rfl rfl (Nat.le_of_ble_eq_true rfl) dX12_quarrels_2 (fun H locs hP hD hS => ?_)
  have hP := tc_eP (pw12_0_1 ca q S (0 : Int32)) hP
  have hD := tc_eD (pw12_0_1 ca q S (0 : Int32)) hD
  refine lv_aload_n hx hb dX12_quarrels_5 rfl (lv_at hl 0 rfl) ?_
  refine lv_iconst (v := (0 : Int32)) hx hb dX12_quarrels_6 (by decide) ?_
  refine va_put (D := (dC, dI)) (ci := 12) (v := .int ((0 : Int32))) (ty := .int) (C := RX12) (T := TX12) (N := 49) hx hb hts i_X12 tyX12 tyX12_ok nmX12 hown hK hP hD hS 0 rfl rfl 0 (by decide) (hts _ wf_X12_66) (fun _ h9 => h9) rfl (tyX12_ok 0 (by decide)) rfl rfl (Nat.le_of_ble_eq_true rfl) dX12_quarrels_7 (fun H locs hP hD hS => ?_)
  have hP := tc_eP (pw12_0_0 ca q (si S 1 (0 : Int32)) (0 : Int32)) hP
  have hD := tc_eD (pw12_0_0 ca q (si S 1 (0 : Int32)) (0 : Int32)) hD
  refine lv_iload_n hx hb dX12_quarrels_10 rfl (lv_at hl 1 rfl) ?_
  refine lv_i2l (v := a1.toInt64) hx hb dX12_quarrels_11 rfl ?_
  refine lv_lconst (v := (1 : Int64)) hx hb dX12_quarrels_12 (by decide) ?_
  refine lv_ldc2 (v := (4 : Int64)) hx hb hown (hts _ wk_X12_365) dX12_quarrels_13 ?_
  obtain ⟨z1, hg, hf⟩ := tc_bi hf
  refine tc_iS0 (As := [.long (a1.toInt64), .long ((1 : Int64)), .long ((4 : Int64))]) (rest := []) X hP hD hS (mX12_isIn hg) okX12_isIn wl_X12_98 wt_X12_isIn ⟨rfl, rfl, Nat.le_of_ble_eq_true rfl, Nat.le_of_ble_eq_true rfl⟩ rfl hl.1 (Nat.le_of_ble_eq_true rfl) dX12_quarrels_16 (fun H locs hP hD hS => ?_)
  refine lv_if_ne (tgt := 28) hx hb dX12_quarrels_19 (by decide) (fun hc => ?_) (fun hc => ?_)
  · have hf := tc_neg hc hf
    refine lv_aload_n hx hb dX12_quarrels_28 rfl (lv_at hl 0 rfl) ?_
    refine lv_iload_n hx hb dX12_quarrels_29 rfl (lv_at hl 1 rfl) ?_
    obtain ⟨z2, hg, hf⟩ := tc_bi hf
    refine tc_vVs (As := [.int (a1)]) (rest := []) (b := q 0) X hP hD hS (mX12_laysQuarrels hg) okX12_laysQuarrels wl_X12_485 wi_X12_laysQuarrels ws_X12_X12_laysQuarrels_X12_laysQuarrels ⟨rfl, rfl, Nat.le_of_ble_eq_true rfl, Nat.le_of_ble_eq_true rfl⟩ 12 0 rfl rfl rfl hl.1 (Nat.le_of_ble_eq_true rfl) dX12_quarrels_30 (fun H locs hP hD hS => ?_)
    refine lv_aload_n hx hb dX12_quarrels_33 rfl (lv_at hl 0 rfl) ?_
    refine va_get (D := (dC, dI)) (ci := 12) (v := .int (gi z2 33)) (C := RX12) (T := TX12) (N := 49) hx hb hts i_X12 hown hK hP 0 rfl rfl 33 (by decide) (hts _ wf_X12_476) (fun _ h9 => h9) rfl dX12_quarrels_34 ?_
    obtain rfl := Option.some.inj hf
    exact tc_ri X hP hD hS rfl dX12_quarrels_37 rfl rfl
  · have hf := tc_pos hc hf
    refine lv_aload_n hx hb dX12_quarrels_22 rfl (lv_at hl 0 rfl) ?_
    refine lv_iconst (v := (5 : Int32)) hx hb dX12_quarrels_23 (by decide) ?_
    obtain ⟨z3, hg, hf⟩ := tc_bi hf
    refine tc_iVs (As := [.int ((5 : Int32))]) (rest := []) (b := q 0) X hP hD hS (mX12_refuse hg) okX12_refuse wl_X12_333 wi_X12_refuse ws_X12_X12_refuse_X12_refuse ⟨rfl, rfl, Nat.le_of_ble_eq_true rfl, Nat.le_of_ble_eq_true rfl⟩ 12 0 rfl rfl rfl hl.1 (Nat.le_of_ble_eq_true rfl) dX12_quarrels_24 (fun H locs hP hD hS => ?_)
    obtain rfl := Option.some.inj hf
    exact tc_ri X hP hD hS rfl dX12_quarrels_27 rfl rfl
def fX12_spread  (S : ms_T) (a1 : Int32) (a2 : Int32) : Option (Int32 × ms_T) :=
  (fX12_isTalkerAt (si (si S 1 (0 : Int32)) 0 (0 : Int32)) a2).bind fun z1 =>
  if z1 = 0 then
    (fX12_refuse (si (si S 1 (0 : Int32)) 0 (0 : Int32)) (2 : Int32)).bind fun z7 =>
    some (z7.1, z7.2)
  else
    (fX12_isIn a1.toInt64 (1 : Int64) (4 : Int64)).bind fun z2 =>
    if z2 = 0 then
      (fX12_refuse (si (si S 1 (0 : Int32)) 0 (0 : Int32)) (5 : Int32)).bind fun z6 =>
      some (z6.1, z6.2)
    else
      (fX12_laysQuarrels (si (si S 1 (0 : Int32)) 0 (0 : Int32)) a1).bind fun z3 =>
      (fX12_laysTopics z3 (gi z3 34) a1).bind fun z4 =>
      if inb a2 6 = true then
        some (ia z4 9 a2, z4)
      else none
abbrev rmX12_spread : Room := { frames := 2, cells := 0, slots := 0, locals := 49 }
theorem okX12_spread : tc_ok yX12_spread cX12_spread 3 (some .int) 2 := ⟨wc_X12_spread, wn_X12, by decide, by decide, by decide +kernel⟩
set_option maxRecDepth 20000 in
theorem mX12_spread {q : Nat → Nat}  {S : ms_T} {a1 : Int32} {a2 : Int32} {z : Int32 × ms_T}  (hf : fX12_spread S a1 a2 = some z) : tc_MI l dC dI ca yX12_spread cX12_spread 3 (some .int) rmX12_spread [.ref (q 0), .int (a1), .int (a2)] (w12 ca q S) (w12 ca q z.2) (z.1) := by
  refine tc_metI (own := RX12) (by decide) rfl ?_ (Nat.le_of_ble_eq_true rfl)
  intro p e s m below meth c A X hP hD hS ls hl
  obtain ⟨hx, hb, hr, hml, hown, hts, hlk, hK, hA, hG⟩ := id X
  unfold fX12_spread at hf
  have hl : lv_has ls 3 [(0, .ref (q 0)), (1, .int (a1)), (2, .int (a2))] := hl
  refine lv_aload_n hx hb dX12_spread_0 rfl (lv_at hl 0 rfl) ?_
  refine lv_iconst (v := (0 : Int32)) hx hb dX12_spread_1 (by decide) ?_
  refine va_put (D := (dC, dI)) (ci := 12) (v := .int ((0 : Int32))) (ty := .int) (C := RX12) (T := TX12) (N := 49) hx hb hts i_X12 tyX12 tyX12_ok nmX12 hown hK hP hD hS 0 rfl rfl 1 (by decide) (hts _ wf_X12_63) (fun _ h9 => h9) rfl (tyX12_ok 1 (by decide)) rfl rfl (Nat.le_of_ble_eq_true rfl) dX12_spread_2 (fun H locs hP hD hS => ?_)
  have hP := tc_eP (pw12_0_1 ca q S (0 : Int32)) hP
  have hD := tc_eD (pw12_0_1 ca q S (0 : Int32)) hD
  refine lv_aload_n hx hb dX12_spread_5 rfl (lv_at hl 0 rfl) ?_
  refine lv_iconst (v := (0 : Int32)) hx hb dX12_spread_6 (by decide) ?_
  refine va_put (D := (dC, dI)) (ci := 12) (v := .int ((0 : Int32))) (ty := .int) (C := RX12) (T := TX12) (N := 49) hx hb hts i_X12 tyX12 tyX12_ok nmX12 hown hK hP hD hS 0 rfl rfl 0 (by decide) (hts _ wf_X12_66) (fun _ h9 => h9) rfl (tyX12_ok 0 (by decide)) rfl rfl (Nat.le_of_ble_eq_true rfl) dX12_spread_7 (fun H locs hP hD hS => ?_)
  have hP := tc_eP (pw12_0_0 ca q (si S 1 (0 : Int32)) (0 : Int32)) hP
  have hD := tc_eD (pw12_0_0 ca q (si S 1 (0 : Int32)) (0 : Int32)) hD
  refine lv_aload_n hx hb dX12_spread_10 rfl (lv_at hl 0 rfl) ?_
  refine lv_iload_n hx hb dX12_spread_11 rfl (lv_at hl 2 rfl) ?_
  obtain ⟨z1, hg, hf⟩ := tc_bi hf
  refine tc_iVs (As := [.int (a2)]) (rest := []) (b := q 0) X hP hD hS (mX12_isTalkerAt hg) okX12_isTalkerAt wl_X12_362 wi_X12_isTalkerAt ws_X12_X12_isTalkerAt_X12_isTalkerAt ⟨rfl, rfl, Nat.le_of_ble_eq_true rfl, Nat.le_of_ble_eq_true rfl⟩ 12 0 rfl rfl rfl hl.1 (Nat.le_of_ble_eq_true rfl) dX12_spread_12 (fun H locs hP hD hS => ?_)
  refine lv_if_ne (tgt := 24) hx hb dX12_spread_15 (by decide) (fun hc => ?_) (fun hc => ?_)
  · have hf := tc_neg hc hf
    refine lv_iload_n hx hb dX12_spread_24 rfl (lv_at hl 1 rfl) ?_
    refine lv_i2l (v := a1.toInt64) hx hb dX12_spread_25 rfl ?_
    refine lv_lconst (v := (1 : Int64)) hx hb dX12_spread_26 (by decide) ?_
    refine lv_ldc2 (v := (4 : Int64)) hx hb hown (hts _ wk_X12_365) dX12_spread_27 ?_
    obtain ⟨z2, hg, hf⟩ := tc_bi hf
    refine tc_iS0 (As := [.long (a1.toInt64), .long ((1 : Int64)), .long ((4 : Int64))]) (rest := []) X hP hD hS (mX12_isIn hg) okX12_isIn wl_X12_98 wt_X12_isIn ⟨rfl, rfl, Nat.le_of_ble_eq_true rfl, Nat.le_of_ble_eq_true rfl⟩ rfl hl.1 (Nat.le_of_ble_eq_true rfl) dX12_spread_30 (fun H locs hP hD hS => ?_)
    refine lv_if_ne (tgt := 42) hx hb dX12_spread_33 (by decide) (fun hc => ?_) (fun hc => ?_)
    · have hf := tc_neg hc hf
      refine lv_aload_n hx hb dX12_spread_42 rfl (lv_at hl 0 rfl) ?_
      refine lv_iload_n hx hb dX12_spread_43 rfl (lv_at hl 1 rfl) ?_
      obtain ⟨z3, hg, hf⟩ := tc_bi hf
      refine tc_vVs (As := [.int (a1)]) (rest := []) (b := q 0) X hP hD hS (mX12_laysQuarrels hg) okX12_laysQuarrels wl_X12_485 wi_X12_laysQuarrels ws_X12_X12_laysQuarrels_X12_laysQuarrels ⟨rfl, rfl, Nat.le_of_ble_eq_true rfl, Nat.le_of_ble_eq_true rfl⟩ 12 0 rfl rfl rfl hl.1 (Nat.le_of_ble_eq_true rfl) dX12_spread_44 (fun H locs hP hD hS => ?_)
      refine lv_aload_n hx hb dX12_spread_47 rfl (lv_at hl 0 rfl) ?_
      refine lv_aload_n hx hb dX12_spread_48 rfl (lv_at hl 0 rfl) ?_
      refine va_get (D := (dC, dI)) (ci := 12) (v := .int (gi z3 34)) (C := RX12) (T := TX12) (N := 49) hx hb hts i_X12 hown hK hP 0 rfl rfl 34 (by decide) (hts _ wf_X12_482) (fun _ h9 => h9) rfl dX12_spread_49 ?_
      refine lv_iload_n hx hb dX12_spread_52 rfl (lv_at hl 1 rfl) ?_
      obtain ⟨z4, hg, hf⟩ := tc_bi hf
      refine tc_vVs (As := [.int (gi z3 34), .int (a1)]) (rest := []) (b := q 0) X hP hD hS (mX12_laysTopics hg) okX12_laysTopics wl_X12_479 wi_X12_laysTopics ws_X12_X12_laysTopics_X12_laysTopics ⟨rfl, rfl, Nat.le_of_ble_eq_true rfl, Nat.le_of_ble_eq_true rfl⟩ 12 0 rfl rfl rfl hl.1 (Nat.le_of_ble_eq_true rfl) dX12_spread_53 (fun H locs hP hD hS => ?_)
      refine lv_aload_n hx hb dX12_spread_56 rfl (lv_at hl 0 rfl) ?_
      refine va_get (D := (dC, dI)) (ci := 12) (v := .ref (q 9)) (C := RX12) (T := TX12) (N := 49) hx hb hts i_X12 hown hK hP 0 rfl rfl 32 (by decide) (hts _ wf_X12_47) (fun _ h9 => h9) rfl dX12_spread_57 ?_
      refine lv_iload_n hx hb dX12_spread_60 rfl (lv_at hl 2 rfl) ?_
      obtain ⟨hi5, hf⟩ := tc_in hf
      refine va_iald hx hb hK hP 9 1 rfl rfl hi5 dX12_spread_61 ?_
      obtain rfl := Option.some.inj hf
      exact tc_ri X hP hD hS rfl dX12_spread_62 rfl rfl
    · have hf := tc_pos hc hf
      refine lv_aload_n hx hb dX12_spread_36 rfl (lv_at hl 0 rfl) ?_
      refine lv_iconst (v := (5 : Int32)) hx hb dX12_spread_37 (by decide) ?_
      obtain ⟨z6, hg, hf⟩ := tc_bi hf
      refine tc_iVs (As := [.int ((5 : Int32))]) (rest := []) (b := q 0) X hP hD hS (mX12_refuse hg) okX12_refuse wl_X12_333 wi_X12_refuse ws_X12_X12_refuse_X12_refuse ⟨rfl, rfl, Nat.le_of_ble_eq_true rfl, Nat.le_of_ble_eq_true rfl⟩ 12 0 rfl rfl rfl hl.1 (Nat.le_of_ble_eq_true rfl) dX12_spread_38 (fun H locs hP hD hS => ?_)
      obtain rfl := Option.some.inj hf
      exact tc_ri X hP hD hS rfl dX12_spread_41 rfl rfl
  · have hf := tc_pos hc hf
    refine lv_aload_n hx hb dX12_spread_18 rfl (lv_at hl 0 rfl) ?_
    refine lv_iconst (v := (2 : Int32)) hx hb dX12_spread_19 (by decide) ?_
    obtain ⟨z7, hg, hf⟩ := tc_bi hf
    refine tc_iVs (As := [.int ((2 : Int32))]) (rest := []) (b := q 0) X hP hD hS (mX12_refuse hg) okX12_refuse wl_X12_333 wi_X12_refuse ws_X12_X12_refuse_X12_refuse ⟨rfl, rfl, Nat.le_of_ble_eq_true rfl, Nat.le_of_ble_eq_true rfl⟩ 12 0 rfl rfl rfl hl.1 (Nat.le_of_ble_eq_true rfl) dX12_spread_20 (fun H locs hP hD hS => ?_)
    obtain rfl := Option.some.inj hf
    exact tc_ri X hP hD hS rfl dX12_spread_23 rfl rfl
def fX12_isBeside  (S : ms_T) (a1 : Int32) (a2 : Int32) : Option (Int32) :=
  if ¬ (ia S 5 (2 : Int32)) = 0 then
    if ((a1 + (1 : Int32)) - (a1 + (1 : Int32)) / (ia S 5 (2 : Int32)) * (ia S 5 (2 : Int32))) = a2 then
      some ((1 : Int32))
    else
      if ¬ (ia S 5 (2 : Int32)) = 0 then
        if ((a2 + (1 : Int32)) - (a2 + (1 : Int32)) / (ia S 5 (2 : Int32)) * (ia S 5 (2 : Int32))) = a1 then
          some ((1 : Int32))
        else
          some ((0 : Int32))
      else none
  else none
abbrev rmX12_isBeside : Room := { frames := 0, cells := 0, slots := 0, locals := 0 }
theorem okX12_isBeside : tc_ok yX12_isBeside cX12_isBeside 4 (some .boolean) 2 := ⟨wc_X12_isBeside, wn_X12, by decide, by decide, by decide +kernel⟩
set_option maxRecDepth 20000 in
theorem mX12_isBeside {q : Nat → Nat}  {S : ms_T} {a1 : Int32} {a2 : Int32} {z : Int32}  (hf : fX12_isBeside S a1 a2 = some z) : tc_MI l dC dI ca yX12_isBeside cX12_isBeside 4 (some .boolean) rmX12_isBeside [.ref (q 0), .int (a1), .int (a2)] (w12 ca q S) (w12 ca q S) (z) := by
  refine tc_metI (own := RX12) (by decide) rfl ?_ (Nat.le_of_ble_eq_true rfl)
  intro p e s m below meth c A X hP hD hS ls hl
  obtain ⟨hx, hb, hr, hml, hown, hts, hlk, hK, hA, hG⟩ := id X
  unfold fX12_isBeside at hf
  have hl : lv_has ls 4 [(0, .ref (q 0)), (1, .int (a1)), (2, .int (a2))] := hl
  refine lv_aload_n hx hb dX12_isBeside_0 rfl (lv_at hl 0 rfl) ?_
  refine va_get (D := (dC, dI)) (ci := 12) (v := .ref (q 5)) (C := RX12) (T := TX12) (N := 49) hx hb hts i_X12 hown hK hP 0 rfl rfl 20 (by decide) (hts _ wf_X12_35) (fun _ h9 => h9) rfl dX12_isBeside_1 ?_
  refine lv_iconst (v := (2 : Int32)) hx hb dX12_isBeside_4 (by decide) ?_
  refine va_iald hx hb hK hP 5 1 rfl rfl (inb_vp (by decide)) dX12_isBeside_5 ?_
  refine lv_istore_n (lv' := [(3, .int (ia S 5 (2 : Int32))), (0, .ref (q 0)), (1, .int (a1)), (2, .int (a2))]) hx hb dX12_isBeside_6 rfl hl (by decide) rfl (fun ls hl => ?_)
  refine lv_iload_n hx hb dX12_isBeside_7 rfl (lv_at hl 2 rfl) ?_
  refine lv_iconst (v := (1 : Int32)) hx hb dX12_isBeside_8 (by decide) ?_
  refine lv_iadd hx hb dX12_isBeside_9 ?_
  refine lv_iload_n hx hb dX12_isBeside_10 rfl (lv_at hl 0 rfl) ?_
  obtain ⟨hne, hf⟩ := tc_ck hf
  refine lv_irem hx hb dX12_isBeside_11 hne ?_
  refine lv_iload_n hx hb dX12_isBeside_12 rfl (lv_at hl 3 rfl) ?_
  refine lv_icmp_eq (tgt := 25) hx hb dX12_isBeside_13 (by decide) (fun hc => ?_) (fun hc => ?_)
  · have hf := tc_pos hc hf
    refine lv_iconst (v := (1 : Int32)) hx hb dX12_isBeside_25 (by decide) ?_
    refine lv_goto (tgt := 30) hx hb dX12_isBeside_26 (by decide) ?_
    obtain rfl := Option.some.inj hf
    exact tc_rz X hP hD hS rfl dX12_isBeside_30 (by decide) rfl rfl
  · have hf := tc_neg hc hf
    refine lv_iload_n hx hb dX12_isBeside_16 rfl (lv_at hl 3 rfl) ?_
    refine lv_iconst (v := (1 : Int32)) hx hb dX12_isBeside_17 (by decide) ?_
    refine lv_iadd hx hb dX12_isBeside_18 ?_
    refine lv_iload_n hx hb dX12_isBeside_19 rfl (lv_at hl 0 rfl) ?_
    obtain ⟨hne, hf⟩ := tc_ck hf
    refine lv_irem hx hb dX12_isBeside_20 hne ?_
    refine lv_iload_n hx hb dX12_isBeside_21 rfl (lv_at hl 2 rfl) ?_
    refine lv_icmp_ne (tgt := 29) hx hb dX12_isBeside_22 (by decide) (fun hc => ?_) (fun hc => ?_)
    · have hf := tc_neg hc hf
      refine lv_iconst (v := (0 : Int32)) hx hb dX12_isBeside_29 (by decide) ?_
      obtain rfl := Option.some.inj hf
      exact tc_rz X hP hD hS rfl dX12_isBeside_30 (by decide) rfl rfl
    · have hf := tc_pos hc hf
      refine lv_iconst (v := (1 : Int32)) hx hb dX12_isBeside_25 (by decide) ?_
      refine lv_goto (tgt := 30) hx hb dX12_isBeside_26 (by decide) ?_
      obtain rfl := Option.some.inj hf
      exact tc_rz X hP hD hS rfl dX12_isBeside_30 (by decide) rfl rfl
def fX12_besideNow_58  (S : ms_T) (k4 : Int32 → Int32 → Option (Int32)) (k22 : Int32 → Int32 → Int32 → Int32 → Int32 → Option (Int32)) (v1 : Int32) (v2 : Int32) (v4 : Int32) (v5 : Int32) (t0 : Int32) : Option (Int32) :=
  if inb v5 6 = true then
    if inb ((82 : Int32) + v2) 1820 = true then
      if (ia S 10 v5) = (ia S 5 ((82 : Int32) + v2)) then
        k22 v1 v2 t0 v5 (v5 + (1 : Int32))
      else
        k22 v1 v2 t0 v4 (v5 + (1 : Int32))
    else none
  else none
def fX12_besideNow_22  (S : ms_T) (k4 : Int32 → Int32 → Option (Int32)) : Nat → Int32 → Int32 → Int32 → Int32 → Int32 → Option (Int32)
  | 0, _, _, _, _, _ => none
  | n + 1, v1, v2, v3, v4, v5 =>
    if (ia S 5 (2 : Int32)) ≤ v5 then
      (fX12_isBeside S v3 v4).bind fun z1 =>
      if z1 = 0 then
        k4 (v1 + (0 : Int32)) (v2 + (1 : Int32))
      else
        k4 (v1 + (1 : Int32)) (v2 + (1 : Int32))
    else
      if inb v5 6 = true then
        if inb ((72 : Int32) + v2) 1820 = true then
          if (ia S 10 v5) = (ia S 5 ((72 : Int32) + v2)) then
            fX12_besideNow_58 S k4 (fX12_besideNow_22 S k4 n) v1 v2 v4 v5 v5
          else
            fX12_besideNow_58 S k4 (fX12_besideNow_22 S k4 n) v1 v2 v4 v5 v3
        else none
      else none
def fX12_besideNow_4  (S : ms_T)  : Nat → Int32 → Int32 → Option (Int32)
  | 0, _, _ => none
  | n + 1, v1, v2 =>
    if (ia S 5 (3 : Int32)) ≤ v2 then
      some (v1)
    else
      fX12_besideNow_22 S (fX12_besideNow_4 S n) FU v1 v2 (0 : Int32) (0 : Int32) (0 : Int32)
def fX12_besideNow  (S : ms_T)  : Option (Int32) :=
  fX12_besideNow_4 S FU (0 : Int32) (0 : Int32)
abbrev rmX12_besideNow : Room := { frames := 1, cells := 0, slots := 0, locals := 23 }
theorem okX12_besideNow : tc_ok yX12_besideNow cX12_besideNow 6 (some .int) 0 := ⟨wc_X12_besideNow, wn_X12, by decide, by decide, by decide +kernel⟩
set_option maxRecDepth 20000 in
theorem tX12_besideNow_58 {q : Nat → Nat}  (X : tc_X dC dI ca A RX12 cX12_besideNow 6 (some .int) p s m args meth c) (z : Int32)  (S : ms_T) (k4 : Int32 → Int32 → Option (Int32)) (k22 : Int32 → Int32 → Int32 → Int32 → Int32 → Option (Int32)) (hk4 : ∀ (v1 : Int32) (v2 : Int32), k4 v1 v2 = some z → ∀ (H : Heap) (locs : List Loc) (ls : Array Slot), va_P (dC, dI) classes (w12 ca q S) H → va_D A (w12 ca q S) → va_S A s.heap H locs → lv_has ls 6 [(0, .ref (q 0)), (1, .int (v1)), (2, .int (v2))] → W p l e rmX12_besideNow s m args below meth c H locs 0 0 (MQ below (tc_QI dC dI ca A (w12 ca q S) (z)) args s 0 0 A) (F0 m 4 ls [])) (hk22 : ∀ (v1 : Int32) (v2 : Int32) (v3 : Int32) (v4 : Int32) (v5 : Int32), k22 v1 v2 v3 v4 v5 = some z → ∀ (H : Heap) (locs : List Loc) (ls : Array Slot), va_P (dC, dI) classes (w12 ca q S) H → va_D A (w12 ca q S) → va_S A s.heap H locs → lv_has ls 6 [(0, .ref (q 0)), (1, .int (v1)), (2, .int (v2)), (3, .int (v3)), (4, .int (v4)), (5, .int (v5))] → W p l e rmX12_besideNow s m args below meth c H locs 0 0 (MQ below (tc_QI dC dI ca A (w12 ca q S) (z)) args s 0 0 A) (F0 m 22 ls [])) : ∀ (v1 : Int32) (v2 : Int32) (v4 : Int32) (v5 : Int32) (t0 : Int32), fX12_besideNow_58 S k4 k22 v1 v2 v4 v5 t0 = some z → ∀ (H : Heap) (locs : List Loc) (ls : Array Slot), va_P (dC, dI) classes (w12 ca q S) H → va_D A (w12 ca q S) → va_S A s.heap H locs → lv_has ls 6 [(0, .ref (q 0)), (1, .int (v1)), (2, .int (v2)), (4, .int (v4)), (5, .int (v5))] → W p l e rmX12_besideNow s m args below meth c H locs 0 0 (MQ below (tc_QI dC dI ca A (w12 ca q S) (z)) args s 0 0 A) (F0 m 58 ls [.int (t0)]) := by
  obtain ⟨hx, hb, hr, hml, hown, hts, hlk, hK, hA, hG⟩ := id X
  intro v1 v2 v4 v5 t0 hf H locs ls hP hD hS hl
  unfold fX12_besideNow_58 at hf
  refine lv_istore_n (lv' := [(3, .int (t0)), (0, .ref (q 0)), (1, .int (v1)), (2, .int (v2)), (4, .int (v4)), (5, .int (v5))]) hx hb dX12_besideNow_58 rfl hl (by decide) rfl (fun ls hl => ?_)
  refine lv_aload_n hx hb dX12_besideNow_59 rfl (lv_at hl 1 rfl) ?_
  refine va_get (D := (dC, dI)) (ci := 12) (v := .ref (q 10)) (C := RX12) (T := TX12) (N := 49) hx hb hts i_X12 hown hK hP 0 rfl rfl 35 (by decide) (hts _ wf_X12_50) (fun _ h9 => h9) rfl dX12_besideNow_60 ?_
  refine lv_iload hx hb dX12_besideNow_63 (lv_at hl 5 rfl) ?_
  obtain ⟨hi4, hf⟩ := tc_in hf
  refine va_iald hx hb hK hP 10 1 rfl rfl hi4 dX12_besideNow_65 ?_
  refine lv_aload_n hx hb dX12_besideNow_66 rfl (lv_at hl 1 rfl) ?_
  refine va_get (D := (dC, dI)) (ci := 12) (v := .ref (q 5)) (C := RX12) (T := TX12) (N := 49) hx hb hts i_X12 hown hK hP 0 rfl rfl 20 (by decide) (hts _ wf_X12_35) (fun _ h9 => h9) rfl dX12_besideNow_67 ?_
  refine lv_bipush (v := (82 : Int32)) hx hb dX12_besideNow_70 (by decide) ?_
  refine lv_iload_n hx hb dX12_besideNow_72 rfl (lv_at hl 3 rfl) ?_
  refine lv_iadd hx hb dX12_besideNow_73 ?_
  obtain ⟨hi5, hf⟩ := tc_in hf
  refine va_iald hx hb hK hP 5 1 rfl rfl hi5 dX12_besideNow_74 ?_
  refine lv_icmp_ne (tgt := 83) hx hb dX12_besideNow_75 (by decide) (fun hc => ?_) (fun hc => ?_)
  · have hf := tc_neg hc hf
    refine lv_iload hx hb dX12_besideNow_83 (lv_at hl 4 rfl) ?_
    refine lv_istore (lv' := [(4, .int (v4)), (3, .int (t0)), (0, .ref (q 0)), (1, .int (v1)), (2, .int (v2)), (5, .int (v5))]) hx hb dX12_besideNow_85 hl (by decide) rfl (fun ls hl => ?_)
    refine lv_iinc (v := v5 + (1 : Int32)) (lv' := [(5, .int (v5 + (1 : Int32))), (4, .int (v4)), (3, .int (t0)), (0, .ref (q 0)), (1, .int (v1)), (2, .int (v2))]) hx hb dX12_besideNow_87 hl (k := 5) rfl rfl (by decide) rfl (fun ls hl => ?_)
    refine lv_goto (tgt := 22) hx hb dX12_besideNow_90 (by decide) ?_
    exact hk22 v1 v2 t0 v4 (v5 + (1 : Int32)) hf _ _ _ hP hD hS (lv_sub hl [3, 4, 5, 2, 1, 0] rfl)
  · have hf := tc_pos hc hf
    refine lv_iload hx hb dX12_besideNow_78 (lv_at hl 5 rfl) ?_
    refine lv_goto (tgt := 85) hx hb dX12_besideNow_80 (by decide) ?_
    refine lv_istore (lv' := [(4, .int (v5)), (3, .int (t0)), (0, .ref (q 0)), (1, .int (v1)), (2, .int (v2)), (5, .int (v5))]) hx hb dX12_besideNow_85 hl (by decide) rfl (fun ls hl => ?_)
    refine lv_iinc (v := v5 + (1 : Int32)) (lv' := [(5, .int (v5 + (1 : Int32))), (4, .int (v5)), (3, .int (t0)), (0, .ref (q 0)), (1, .int (v1)), (2, .int (v2))]) hx hb dX12_besideNow_87 hl (k := 5) rfl rfl (by decide) rfl (fun ls hl => ?_)
    refine lv_goto (tgt := 22) hx hb dX12_besideNow_90 (by decide) ?_
    exact hk22 v1 v2 t0 v5 (v5 + (1 : Int32)) hf _ _ _ hP hD hS (lv_sub hl [3, 4, 5, 2, 1, 0] rfl)
set_option maxRecDepth 20000 in
theorem tX12_besideNow_22 {q : Nat → Nat}  (X : tc_X dC dI ca A RX12 cX12_besideNow 6 (some .int) p s m args meth c) (z : Int32)  (S : ms_T) (k4 : Int32 → Int32 → Option (Int32)) (hk4 : ∀ (v1 : Int32) (v2 : Int32), k4 v1 v2 = some z → ∀ (H : Heap) (locs : List Loc) (ls : Array Slot), va_P (dC, dI) classes (w12 ca q S) H → va_D A (w12 ca q S) → va_S A s.heap H locs → lv_has ls 6 [(0, .ref (q 0)), (1, .int (v1)), (2, .int (v2))] → W p l e rmX12_besideNow s m args below meth c H locs 0 0 (MQ below (tc_QI dC dI ca A (w12 ca q S) (z)) args s 0 0 A) (F0 m 4 ls [])) : ∀ n : Nat, ∀ (v1 : Int32) (v2 : Int32) (v3 : Int32) (v4 : Int32) (v5 : Int32), fX12_besideNow_22 S k4 n v1 v2 v3 v4 v5 = some z → ∀ (H : Heap) (locs : List Loc) (ls : Array Slot), va_P (dC, dI) classes (w12 ca q S) H → va_D A (w12 ca q S) → va_S A s.heap H locs → lv_has ls 6 [(0, .ref (q 0)), (1, .int (v1)), (2, .int (v2)), (3, .int (v3)), (4, .int (v4)), (5, .int (v5))] → W p l e rmX12_besideNow s m args below meth c H locs 0 0 (MQ below (tc_QI dC dI ca A (w12 ca q S) (z)) args s 0 0 A) (F0 m 22 ls []) := by
  obtain ⟨hx, hb, hr, hml, hown, hts, hlk, hK, hA, hG⟩ := id X
  intro n
  induction n with
  | zero => intro v1 v2 v3 v4 v5 hf; exact absurd (show none = some z from hf) (fun h => by cases h)
  | succ n ih =>
    intro v1 v2 v3 v4 v5 hf H locs ls hP hD hS hl
    rw [fX12_besideNow_22] at hf
    refine lv_iload hx hb dX12_besideNow_22 (lv_at hl 5 rfl) ?_
    refine lv_aload_n hx hb dX12_besideNow_24 rfl (lv_at hl 0 rfl) ?_
    refine va_get (D := (dC, dI)) (ci := 12) (v := .ref (q 5)) (C := RX12) (T := TX12) (N := 49) hx hb hts i_X12 hown hK hP 0 rfl rfl 20 (by decide) (hts _ wf_X12_35) (fun _ h9 => h9) rfl dX12_besideNow_25 ?_
    refine lv_iconst (v := (2 : Int32)) hx hb dX12_besideNow_28 (by decide) ?_
    refine va_iald hx hb hK hP 5 1 rfl rfl (inb_vp (by decide)) dX12_besideNow_29 ?_
    refine lv_icmp_ge (tgt := 93) hx hb dX12_besideNow_30 (by decide) (fun hc => ?_) (fun hc => ?_)
    · have hf := tc_pos hc hf
      refine lv_iload_n hx hb dX12_besideNow_93 rfl (lv_at hl 1 rfl) ?_
      refine lv_aload_n hx hb dX12_besideNow_94 rfl (lv_at hl 0 rfl) ?_
      refine lv_iload_n hx hb dX12_besideNow_95 rfl (lv_at hl 3 rfl) ?_
      refine lv_iload hx hb dX12_besideNow_96 (lv_at hl 4 rfl) ?_
      obtain ⟨z1, hg, hf⟩ := tc_bi hf
      refine tc_iVs (As := [.int (v3), .int (v4)]) (rest := [.int (v1)]) (b := q 0) X hP hD hS (mX12_isBeside hg) okX12_isBeside wl_X12_488 wi_X12_isBeside ws_X12_X12_isBeside_X12_isBeside ⟨rfl, rfl, Nat.le_of_ble_eq_true rfl, Nat.le_of_ble_eq_true rfl⟩ 12 0 rfl rfl rfl hl.1 (Nat.le_of_ble_eq_true rfl) dX12_besideNow_98 (fun H locs hP hD hS => ?_)
      refine lv_if_eq (tgt := 108) hx hb dX12_besideNow_101 (by decide) (fun hc => ?_) (fun hc => ?_)
      · have hf := tc_pos hc hf
        refine lv_iconst (v := (0 : Int32)) hx hb dX12_besideNow_108 (by decide) ?_
        refine lv_iadd hx hb dX12_besideNow_109 ?_
        refine lv_istore_n (lv' := [(1, .int (v1 + (0 : Int32))), (0, .ref (q 0)), (2, .int (v2)), (3, .int (v3)), (4, .int (v4)), (5, .int (v5))]) hx hb dX12_besideNow_110 rfl hl (by decide) rfl (fun ls hl => ?_)
        refine lv_iinc (v := v2 + (1 : Int32)) (lv' := [(2, .int (v2 + (1 : Int32))), (1, .int (v1 + (0 : Int32))), (0, .ref (q 0)), (3, .int (v3)), (4, .int (v4)), (5, .int (v5))]) hx hb dX12_besideNow_111 hl (k := 2) rfl rfl (by decide) rfl (fun ls hl => ?_)
        refine lv_goto (tgt := 4) hx hb dX12_besideNow_114 (by decide) ?_
        exact hk4 (v1 + (0 : Int32)) (v2 + (1 : Int32)) hf _ _ _ hP hD hS (lv_sub hl [2, 1, 0] rfl)
      · have hf := tc_neg hc hf
        refine lv_iconst (v := (1 : Int32)) hx hb dX12_besideNow_104 (by decide) ?_
        refine lv_goto (tgt := 109) hx hb dX12_besideNow_105 (by decide) ?_
        refine lv_iadd hx hb dX12_besideNow_109 ?_
        refine lv_istore_n (lv' := [(1, .int (v1 + (1 : Int32))), (0, .ref (q 0)), (2, .int (v2)), (3, .int (v3)), (4, .int (v4)), (5, .int (v5))]) hx hb dX12_besideNow_110 rfl hl (by decide) rfl (fun ls hl => ?_)
        refine lv_iinc (v := v2 + (1 : Int32)) (lv' := [(2, .int (v2 + (1 : Int32))), (1, .int (v1 + (1 : Int32))), (0, .ref (q 0)), (3, .int (v3)), (4, .int (v4)), (5, .int (v5))]) hx hb dX12_besideNow_111 hl (k := 2) rfl rfl (by decide) rfl (fun ls hl => ?_)
        refine lv_goto (tgt := 4) hx hb dX12_besideNow_114 (by decide) ?_
        exact hk4 (v1 + (1 : Int32)) (v2 + (1 : Int32)) hf _ _ _ hP hD hS (lv_sub hl [2, 1, 0] rfl)
    · have hf := tc_neg hc hf
      refine lv_aload_n hx hb dX12_besideNow_33 rfl (lv_at hl 0 rfl) ?_
      refine va_get (D := (dC, dI)) (ci := 12) (v := .ref (q 10)) (C := RX12) (T := TX12) (N := 49) hx hb hts i_X12 hown hK hP 0 rfl rfl 35 (by decide) (hts _ wf_X12_50) (fun _ h9 => h9) rfl dX12_besideNow_34 ?_
      refine lv_iload hx hb dX12_besideNow_37 (lv_at hl 5 rfl) ?_
      obtain ⟨hi2, hf⟩ := tc_in hf
      refine va_iald hx hb hK hP 10 1 rfl rfl hi2 dX12_besideNow_39 ?_
      refine lv_aload_n hx hb dX12_besideNow_40 rfl (lv_at hl 0 rfl) ?_
      refine va_get (D := (dC, dI)) (ci := 12) (v := .ref (q 5)) (C := RX12) (T := TX12) (N := 49) hx hb hts i_X12 hown hK hP 0 rfl rfl 20 (by decide) (hts _ wf_X12_35) (fun _ h9 => h9) rfl dX12_besideNow_41 ?_
      refine lv_bipush (v := (72 : Int32)) hx hb dX12_besideNow_44 (by decide) ?_
      refine lv_iload_n hx hb dX12_besideNow_46 rfl (lv_at hl 2 rfl) ?_
      refine lv_iadd hx hb dX12_besideNow_47 ?_
      obtain ⟨hi3, hf⟩ := tc_in hf
      refine va_iald hx hb hK hP 5 1 rfl rfl hi3 dX12_besideNow_48 ?_
      refine lv_icmp_ne (tgt := 57) hx hb dX12_besideNow_49 (by decide) (fun hc => ?_) (fun hc => ?_)
      · have hf := tc_neg hc hf
        refine lv_iload_n hx hb dX12_besideNow_57 rfl (lv_at hl 3 rfl) ?_
        exact tX12_besideNow_58 X z S k4 (fX12_besideNow_22 S k4 n) hk4 ih v1 v2 v4 v5 v3 hf _ _ _ hP hD hS (lv_sub hl [0, 1, 2, 4, 5] rfl)
      · have hf := tc_pos hc hf
        refine lv_iload hx hb dX12_besideNow_52 (lv_at hl 5 rfl) ?_
        refine lv_goto (tgt := 58) hx hb dX12_besideNow_54 (by decide) ?_
        exact tX12_besideNow_58 X z S k4 (fX12_besideNow_22 S k4 n) hk4 ih v1 v2 v4 v5 v5 hf _ _ _ hP hD hS (lv_sub hl [0, 1, 2, 4, 5] rfl)
set_option maxRecDepth 20000 in
theorem tX12_besideNow_4 {q : Nat → Nat}  (X : tc_X dC dI ca A RX12 cX12_besideNow 6 (some .int) p s m args meth c) (z : Int32)  (S : ms_T)   : ∀ n : Nat, ∀ (v1 : Int32) (v2 : Int32), fX12_besideNow_4 S n v1 v2 = some z → ∀ (H : Heap) (locs : List Loc) (ls : Array Slot), va_P (dC, dI) classes (w12 ca q S) H → va_D A (w12 ca q S) → va_S A s.heap H locs → lv_has ls 6 [(0, .ref (q 0)), (1, .int (v1)), (2, .int (v2))] → W p l e rmX12_besideNow s m args below meth c H locs 0 0 (MQ below (tc_QI dC dI ca A (w12 ca q S) (z)) args s 0 0 A) (F0 m 4 ls []) := by
  obtain ⟨hx, hb, hr, hml, hown, hts, hlk, hK, hA, hG⟩ := id X
  intro n
  induction n with
  | zero => intro v1 v2 hf; exact absurd (show none = some z from hf) (fun h => by cases h)
  | succ n ih =>
    intro v1 v2 hf H locs ls hP hD hS hl
    rw [fX12_besideNow_4] at hf
    refine lv_iload_n hx hb dX12_besideNow_4 rfl (lv_at hl 2 rfl) ?_
    refine lv_aload_n hx hb dX12_besideNow_5 rfl (lv_at hl 0 rfl) ?_
    refine va_get (D := (dC, dI)) (ci := 12) (v := .ref (q 5)) (C := RX12) (T := TX12) (N := 49) hx hb hts i_X12 hown hK hP 0 rfl rfl 20 (by decide) (hts _ wf_X12_35) (fun _ h9 => h9) rfl dX12_besideNow_6 ?_
    refine lv_iconst (v := (3 : Int32)) hx hb dX12_besideNow_9 (by decide) ?_
    refine va_iald hx hb hK hP 5 1 rfl rfl (inb_vp (by decide)) dX12_besideNow_10 ?_
    refine lv_icmp_ge (tgt := 117) hx hb dX12_besideNow_11 (by decide) (fun hc => ?_) (fun hc => ?_)
    · have hf := tc_pos hc hf
      refine lv_iload_n hx hb dX12_besideNow_117 rfl (lv_at hl 1 rfl) ?_
      obtain rfl := Option.some.inj hf
      exact tc_ri X hP hD hS rfl dX12_besideNow_118 rfl rfl
    · have hf := tc_neg hc hf
      refine lv_iconst (v := (0 : Int32)) hx hb dX12_besideNow_14 (by decide) ?_
      refine lv_istore_n (lv' := [(3, .int ((0 : Int32))), (0, .ref (q 0)), (1, .int (v1)), (2, .int (v2))]) hx hb dX12_besideNow_15 rfl hl (by decide) rfl (fun ls hl => ?_)
      refine lv_iconst (v := (0 : Int32)) hx hb dX12_besideNow_16 (by decide) ?_
      refine lv_istore (lv' := [(4, .int ((0 : Int32))), (3, .int ((0 : Int32))), (0, .ref (q 0)), (1, .int (v1)), (2, .int (v2))]) hx hb dX12_besideNow_17 hl (by decide) rfl (fun ls hl => ?_)
      refine lv_iconst (v := (0 : Int32)) hx hb dX12_besideNow_19 (by decide) ?_
      refine lv_istore (lv' := [(5, .int ((0 : Int32))), (4, .int ((0 : Int32))), (3, .int ((0 : Int32))), (0, .ref (q 0)), (1, .int (v1)), (2, .int (v2))]) hx hb dX12_besideNow_20 hl (by decide) rfl (fun ls hl => ?_)
      exact tX12_besideNow_22 X z S (fX12_besideNow_4 S n) ih FU v1 v2 (0 : Int32) (0 : Int32) (0 : Int32) hf _ _ _ hP hD hS (lv_sub hl [3, 4, 5, 2, 1, 0] rfl)
set_option maxRecDepth 20000 in
theorem mX12_besideNow {q : Nat → Nat}  {S : ms_T}  {z : Int32}  (hf : fX12_besideNow S = some z) : tc_MI l dC dI ca yX12_besideNow cX12_besideNow 6 (some .int) rmX12_besideNow [.ref (q 0)] (w12 ca q S) (w12 ca q S) (z) := by
  refine tc_metI (own := RX12) (by decide) rfl ?_ (Nat.le_of_ble_eq_true rfl)
  intro p e s m below meth c A X hP hD hS ls hl
  obtain ⟨hx, hb, hr, hml, hown, hts, hlk, hK, hA, hG⟩ := id X
  unfold fX12_besideNow at hf
  have hl : lv_has ls 6 [(0, .ref (q 0))] := hl
  refine lv_iconst (v := (0 : Int32)) hx hb dX12_besideNow_0 (by decide) ?_
  refine lv_istore_n (lv' := [(1, .int ((0 : Int32))), (0, .ref (q 0))]) hx hb dX12_besideNow_1 rfl hl (by decide) rfl (fun ls hl => ?_)
  refine lv_iconst (v := (0 : Int32)) hx hb dX12_besideNow_2 (by decide) ?_
  refine lv_istore_n (lv' := [(2, .int ((0 : Int32))), (1, .int ((0 : Int32))), (0, .ref (q 0))]) hx hb dX12_besideNow_3 rfl hl (by decide) rfl (fun ls hl => ?_)
  exact tX12_besideNow_4 X z S FU (0 : Int32) (0 : Int32) hf _ _ _ hP hD hS (lv_sub hl [2, 1, 0] rfl)
def fX12_seats_88 (rc : ms_T → Int32 → Int32 → Option (ms_T))   : Nat → ms_T → Int32 → Int32 → Option (ms_T)
  | 0, _, _, _ => none
  | n + 1, S, v1, v4 =>
    if v1 ≤ v4 then
      some (S)
    else
      if inb v4 6 = true then
        if inb v4 6 = true then
          fX12_seats_88 rc n (sa S 11 v4 (ia S 10 v4)) v1 (v4 + (1 : Int32))
        else none
      else none
def fX12_seats_12 (rc : ms_T → Int32 → Int32 → Option (ms_T))   : Nat → ms_T → Int32 → Int32 → Int32 → Option (ms_T)
  | 0, _, _, _, _ => none
  | n + 1, S, v1, v2, v3 =>
    if (ia S 5 (2 : Int32)) ≤ v3 then
      some (S)
    else
      (fX12_has v2 v3).bind fun z4 =>
      if z4 = 0 then
        if inb v1 6 = true then
          (rc (sa S 10 v1 v3) (v1 + (1 : Int32)) (v2 ||| ((1 : Int32) <<< (v3 &&& 31)))).bind fun z6 =>
          fX12_seats_12 rc n z6 v1 v2 (v3 + (1 : Int32))
        else none
      else
        fX12_seats_12 rc n S v1 v2 (v3 + (1 : Int32))
def fX12_seats_0 (rc : ms_T → Int32 → Int32 → Option (ms_T)) (S : ms_T) (a1 : Int32) (a2 : Int32) : Option (ms_T) :=
  if (ia S 5 (2 : Int32)) ≤ a1 then
    (fX12_besideNow S).bind fun z1 =>
    if (gi S 37) < 0 then
      fX12_seats_88 rc FU (si S 37 z1) a1 (0 : Int32)
    else
      if z1 < (gi S 37) then
        fX12_seats_88 rc FU (si S 37 z1) a1 (0 : Int32)
      else
        some (S)
  else
    fX12_seats_12 rc FU S a1 a2 (0 : Int32)
def fX12_seats : Nat → ms_T → Int32 → Int32 → Option (ms_T)
  | 0, _, _, _ => none
  | d + 1, S, a1, a2 => fX12_seats_0 (fX12_seats d) S a1 a2
abbrev rmX12_seats (d : Nat) : Room := { frames := 2 + d, cells := 0, slots := 0, locals := 48 + d * 24 }
theorem okX12_seats : tc_ok yX12_seats cX12_seats 5 none 2 := ⟨wc_X12_seats, wn_X12, by decide, by decide, by decide +kernel⟩
set_option maxRecDepth 20000 in
theorem tX12_seats_88 {d : Nat} {q : Nat → Nat}  (X : tc_X dC dI ca A RX12 cX12_seats 5 none p s m args meth c) (z : ms_T) (rc : ms_T → Int32 → Int32 → Option (ms_T)) (hrc : ∀ {S : ms_T} {a1 : Int32} {a2 : Int32} {z : ms_T}, rc S a1 a2 = some z → tc_MV l dC dI ca yX12_seats cX12_seats 5 none (rmX12_seats d) [.ref (q 0), .int (a1), .int (a2)] (w12 ca q S) (w12 ca q z))    : ∀ n : Nat, ∀ (S : ms_T) (v1 : Int32) (v4 : Int32), fX12_seats_88 rc n S v1 v4 = some z → ∀ (H : Heap) (locs : List Loc) (ls : Array Slot), va_P (dC, dI) classes (w12 ca q S) H → va_D A (w12 ca q S) → va_S A s.heap H locs → lv_has ls 5 [(0, .ref (q 0)), (1, .int (v1)), (4, .int (v4))] → W p l e (rmX12_seats (d + 1)) s m args below meth c H locs 0 0 (MQ below (tc_QV dC dI ca A (w12 ca q z)) args s 0 0 A) (F0 m 88 ls []) := by
  obtain ⟨hx, hb, hr, hml, hown, hts, hlk, hK, hA, hG⟩ := id X
  intro n
  induction n with
  | zero => intro S v1 v4 hf; exact absurd (show none = some z from hf) (fun h => by cases h)
  | succ n ih =>
    intro S v1 v4 hf H locs ls hP hD hS hl
    rw [fX12_seats_88] at hf
    refine lv_iload hx hb dX12_seats_88 (lv_at hl 2 rfl) ?_
    refine lv_iload_n hx hb dX12_seats_90 rfl (lv_at hl 1 rfl) ?_
    refine lv_icmp_ge (tgt := 114) hx hb dX12_seats_91 (by decide) (fun hc => ?_) (fun hc => ?_)
    · have hf := tc_pos hc hf
      obtain rfl := Option.some.inj hf
      exact tc_rv X hP hD hS rfl dX12_seats_114 rfl
    · have hf := tc_neg hc hf
      refine lv_aload_n hx hb dX12_seats_94 rfl (lv_at hl 0 rfl) ?_
      refine va_get (D := (dC, dI)) (ci := 12) (v := .ref (q 11)) (C := RX12) (T := TX12) (N := 49) hx hb hts i_X12 hown hK hP 0 rfl rfl 36 (by decide) (hts _ wf_X12_53) (fun _ h9 => h9) rfl dX12_seats_95 ?_
      refine lv_iload hx hb dX12_seats_98 (lv_at hl 2 rfl) ?_
      refine lv_aload_n hx hb dX12_seats_100 rfl (lv_at hl 0 rfl) ?_
      refine va_get (D := (dC, dI)) (ci := 12) (v := .ref (q 10)) (C := RX12) (T := TX12) (N := 49) hx hb hts i_X12 hown hK hP 0 rfl rfl 35 (by decide) (hts _ wf_X12_50) (fun _ h9 => h9) rfl dX12_seats_101 ?_
      refine lv_iload hx hb dX12_seats_104 (lv_at hl 2 rfl) ?_
      obtain ⟨hi2, hf⟩ := tc_in hf
      refine va_iald hx hb hK hP 10 1 rfl rfl hi2 dX12_seats_106 ?_
      obtain ⟨hi3, hf⟩ := tc_in hf
      refine va_iast hx hb hK hP hD hS 11 1 rfl rfl hi3 dX12_seats_107 (fun H locs hP hD hS => ?_)
      have hP := tc_eP (aw12_0_11 ca q S v4 (ia S 10 v4)) hP
      have hD := tc_eD (aw12_0_11 ca q S v4 (ia S 10 v4)) hD
      refine lv_iinc (v := v4 + (1 : Int32)) (lv' := [(4, .int (v4 + (1 : Int32))), (0, .ref (q 0)), (1, .int (v1))]) hx hb dX12_seats_108 hl (k := 2) rfl rfl (by decide) rfl (fun ls hl => ?_)
      refine lv_goto (tgt := 88) hx hb dX12_seats_111 (by decide) ?_
      exact ih (sa S 11 v4 (ia S 10 v4)) v1 (v4 + (1 : Int32)) hf _ _ _ hP hD hS (lv_sub hl [1, 2, 0] rfl)
set_option maxRecDepth 20000 in
theorem tX12_seats_12 {d : Nat} {q : Nat → Nat}  (X : tc_X dC dI ca A RX12 cX12_seats 5 none p s m args meth c) (z : ms_T) (rc : ms_T → Int32 → Int32 → Option (ms_T)) (hrc : ∀ {S : ms_T} {a1 : Int32} {a2 : Int32} {z : ms_T}, rc S a1 a2 = some z → tc_MV l dC dI ca yX12_seats cX12_seats 5 none (rmX12_seats d) [.ref (q 0), .int (a1), .int (a2)] (w12 ca q S) (w12 ca q z))    : ∀ n : Nat, ∀ (S : ms_T) (v1 : Int32) (v2 : Int32) (v3 : Int32), fX12_seats_12 rc n S v1 v2 v3 = some z → ∀ (H : Heap) (locs : List Loc) (ls : Array Slot), va_P (dC, dI) classes (w12 ca q S) H → va_D A (w12 ca q S) → va_S A s.heap H locs → lv_has ls 5 [(0, .ref (q 0)), (1, .int (v1)), (2, .int (v2)), (3, .int (v3))] → W p l e (rmX12_seats (d + 1)) s m args below meth c H locs 0 0 (MQ below (tc_QV dC dI ca A (w12 ca q z)) args s 0 0 A) (F0 m 12 ls []) := by
  obtain ⟨hx, hb, hr, hml, hown, hts, hlk, hK, hA, hG⟩ := id X
  intro n
  induction n with
  | zero => intro S v1 v2 v3 hf; exact absurd (show none = some z from hf) (fun h => by cases h)
  | succ n ih =>
    intro S v1 v2 v3 hf H locs ls hP hD hS hl
    rw [fX12_seats_12] at hf
    refine lv_iload_n hx hb dX12_seats_12 rfl (lv_at hl 3 rfl) ?_
    refine lv_aload_n hx hb dX12_seats_13 rfl (lv_at hl 0 rfl) ?_
    refine va_get (D := (dC, dI)) (ci := 12) (v := .ref (q 5)) (C := RX12) (T := TX12) (N := 49) hx hb hts i_X12 hown hK hP 0 rfl rfl 20 (by decide) (hts _ wf_X12_35) (fun _ h9 => h9) rfl dX12_seats_14 ?_
    refine lv_iconst (v := (2 : Int32)) hx hb dX12_seats_17 (by decide) ?_
    refine va_iald hx hb hK hP 5 1 rfl rfl (inb_vp (by decide)) dX12_seats_18 ?_
    refine lv_icmp_ge (tgt := 58) hx hb dX12_seats_19 (by decide) (fun hc => ?_) (fun hc => ?_)
    · have hf := tc_pos hc hf
      obtain rfl := Option.some.inj hf
      exact tc_rv X hP hD hS rfl dX12_seats_58 rfl
    · have hf := tc_neg hc hf
      refine lv_iload_n hx hb dX12_seats_22 rfl (lv_at hl 2 rfl) ?_
      refine lv_iload_n hx hb dX12_seats_23 rfl (lv_at hl 3 rfl) ?_
      obtain ⟨z4, hg, hf⟩ := tc_bi hf
      refine tc_iS0 (As := [.int (v2), .int (v3)]) (rest := []) X hP hD hS (mX12_has hg) okX12_has wl_X12_102 wt_X12_has ⟨rfl, rfl, (by show 0 + 1 ≤ 2 + (d + 1); omega), (by show 8 + (2 + 11) + 0 ≤ 48 + (d + 1) * 24; omega)⟩ rfl hl.1 (Nat.le_of_ble_eq_true rfl) dX12_seats_24 (fun H locs hP hD hS => ?_)
      refine lv_if_eq (tgt := 33) hx hb dX12_seats_27 (by decide) (fun hc => ?_) (fun hc => ?_)
      · have hf := tc_pos hc hf
        refine lv_aload_n hx hb dX12_seats_33 rfl (lv_at hl 0 rfl) ?_
        refine va_get (D := (dC, dI)) (ci := 12) (v := .ref (q 10)) (C := RX12) (T := TX12) (N := 49) hx hb hts i_X12 hown hK hP 0 rfl rfl 35 (by decide) (hts _ wf_X12_50) (fun _ h9 => h9) rfl dX12_seats_34 ?_
        refine lv_iload_n hx hb dX12_seats_37 rfl (lv_at hl 1 rfl) ?_
        refine lv_iload_n hx hb dX12_seats_38 rfl (lv_at hl 3 rfl) ?_
        obtain ⟨hi5, hf⟩ := tc_in hf
        refine va_iast hx hb hK hP hD hS 10 1 rfl rfl hi5 dX12_seats_39 (fun H locs hP hD hS => ?_)
        have hP := tc_eP (aw12_0_10 ca q S v1 v3) hP
        have hD := tc_eD (aw12_0_10 ca q S v1 v3) hD
        refine lv_aload_n hx hb dX12_seats_40 rfl (lv_at hl 0 rfl) ?_
        refine lv_iload_n hx hb dX12_seats_41 rfl (lv_at hl 1 rfl) ?_
        refine lv_iconst (v := (1 : Int32)) hx hb dX12_seats_42 (by decide) ?_
        refine lv_iadd hx hb dX12_seats_43 ?_
        refine lv_iload_n hx hb dX12_seats_44 rfl (lv_at hl 2 rfl) ?_
        refine lv_iconst (v := (1 : Int32)) hx hb dX12_seats_45 (by decide) ?_
        refine lv_iload_n hx hb dX12_seats_46 rfl (lv_at hl 3 rfl) ?_
        refine lv_ishl hx hb dX12_seats_47 ?_
        refine lv_ior hx hb dX12_seats_48 ?_
        obtain ⟨z6, hg, hf⟩ := tc_bi hf
        refine tc_vVs (As := [.int (v1 + (1 : Int32)), .int (v2 ||| ((1 : Int32) <<< (v3 &&& 31)))]) (rest := []) (b := q 0) X hP hD hS (hrc hg) okX12_seats wl_X12_491 wi_X12_seats ws_X12_X12_seats_X12_seats ⟨rfl, rfl, (by show (2 + d) + 1 ≤ 2 + (d + 1); omega), (by show 8 + (5 + 11) + (48 + d * 24) ≤ 48 + (d + 1) * 24; omega)⟩ 12 0 rfl rfl rfl hl.1 (Nat.le_of_ble_eq_true rfl) dX12_seats_49 (fun H locs hP hD hS => ?_)
        refine lv_iinc (v := v3 + (1 : Int32)) (lv' := [(3, .int (v3 + (1 : Int32))), (0, .ref (q 0)), (1, .int (v1)), (2, .int (v2))]) hx hb dX12_seats_52 hl (k := 3) rfl rfl (by decide) rfl (fun ls hl => ?_)
        refine lv_goto (tgt := 12) hx hb dX12_seats_55 (by decide) ?_
        exact ih z6 v1 v2 (v3 + (1 : Int32)) hf _ _ _ hP hD hS (lv_sub hl [1, 2, 3, 0] rfl)
      · have hf := tc_neg hc hf
        refine lv_goto (tgt := 52) hx hb dX12_seats_30 (by decide) ?_
        refine lv_iinc (v := v3 + (1 : Int32)) (lv' := [(3, .int (v3 + (1 : Int32))), (0, .ref (q 0)), (1, .int (v1)), (2, .int (v2))]) hx hb dX12_seats_52 hl (k := 3) rfl rfl (by decide) rfl (fun ls hl => ?_)
        refine lv_goto (tgt := 12) hx hb dX12_seats_55 (by decide) ?_
        exact ih S v1 v2 (v3 + (1 : Int32)) hf _ _ _ hP hD hS (lv_sub hl [1, 2, 3, 0] rfl)
set_option maxRecDepth 20000 in
theorem mX12_seats_0 {d : Nat} {q : Nat → Nat}  {S : ms_T} {a1 : Int32} {a2 : Int32} {z : ms_T} {rc : ms_T → Int32 → Int32 → Option (ms_T)} (hrc : ∀ {S : ms_T} {a1 : Int32} {a2 : Int32} {z : ms_T}, rc S a1 a2 = some z → tc_MV l dC dI ca yX12_seats cX12_seats 5 none (rmX12_seats d) [.ref (q 0), .int (a1), .int (a2)] (w12 ca q S) (w12 ca q z)) (hf : fX12_seats_0 rc S a1 a2 = some z) : tc_MV l dC dI ca yX12_seats cX12_seats 5 none (rmX12_seats (d + 1)) [.ref (q 0), .int (a1), .int (a2)] (w12 ca q S) (w12 ca q z) := by
  refine tc_metV (own := RX12) (by decide) rfl ?_ (Nat.le_of_ble_eq_true rfl)
  intro p e s m below meth c A X hP hD hS ls hl
  obtain ⟨hx, hb, hr, hml, hown, hts, hlk, hK, hA, hG⟩ := id X
  unfold fX12_seats_0 at hf
  have hl : lv_has ls 5 [(0, .ref (q 0)), (1, .int (a1)), (2, .int (a2))] := hl
  refine lv_iload_n hx hb dX12_seats_0 rfl (lv_at hl 1 rfl) ?_
  refine lv_aload_n hx hb dX12_seats_1 rfl (lv_at hl 0 rfl) ?_
  refine va_get (D := (dC, dI)) (ci := 12) (v := .ref (q 5)) (C := RX12) (T := TX12) (N := 49) hx hb hts i_X12 hown hK hP 0 rfl rfl 20 (by decide) (hts _ wf_X12_35) (fun _ h9 => h9) rfl dX12_seats_2 ?_
  refine lv_iconst (v := (2 : Int32)) hx hb dX12_seats_5 (by decide) ?_
  refine va_iald hx hb hK hP 5 1 rfl rfl (inb_vp (by decide)) dX12_seats_6 ?_
  refine lv_icmp_ge (tgt := 59) hx hb dX12_seats_7 (by decide) (fun hc => ?_) (fun hc => ?_)
  · have hf := tc_pos hc hf
    refine lv_aload_n hx hb dX12_seats_59 rfl (lv_at hl 0 rfl) ?_
    obtain ⟨z1, hg, hf⟩ := tc_bi hf
    refine tc_iVs (As := []) (rest := []) (b := q 0) X hP hD hS (mX12_besideNow hg) okX12_besideNow wl_X12_494 wi_X12_besideNow ws_X12_X12_besideNow_X12_besideNow ⟨rfl, rfl, (by show 1 + 1 ≤ 2 + (d + 1); omega), (by show 8 + (6 + 11) + 23 ≤ 48 + (d + 1) * 24; omega)⟩ 12 0 rfl rfl rfl hl.1 (Nat.le_of_ble_eq_true rfl) dX12_seats_60 (fun H locs hP hD hS => ?_)
    refine lv_istore_n (lv' := [(3, .int (z1)), (0, .ref (q 0)), (1, .int (a1)), (2, .int (a2))]) hx hb dX12_seats_63 rfl hl (by decide) rfl (fun ls hl => ?_)
    refine lv_aload_n hx hb dX12_seats_64 rfl (lv_at hl 1 rfl) ?_
    refine va_get (D := (dC, dI)) (ci := 12) (v := .int (gi S 37)) (C := RX12) (T := TX12) (N := 49) hx hb hts i_X12 hown hK hP 0 rfl rfl 37 (by decide) (hts _ wf_X12_497) (fun _ h9 => h9) rfl dX12_seats_65 ?_
    refine lv_if_lt (tgt := 80) hx hb dX12_seats_68 (by decide) (fun hc => ?_) (fun hc => ?_)
    · have hf := tc_pos hc hf
      refine lv_aload_n hx hb dX12_seats_80 rfl (lv_at hl 1 rfl) ?_
      refine lv_iload_n hx hb dX12_seats_81 rfl (lv_at hl 0 rfl) ?_
      refine va_put (D := (dC, dI)) (ci := 12) (v := .int (z1)) (ty := .int) (C := RX12) (T := TX12) (N := 49) hx hb hts i_X12 tyX12 tyX12_ok nmX12 hown hK hP hD hS 0 rfl rfl 37 (by decide) (hts _ wf_X12_497) (fun _ h9 => h9) rfl (tyX12_ok 37 (by decide)) rfl rfl (Nat.le_of_ble_eq_true rfl) dX12_seats_82 (fun H locs hP hD hS => ?_)
      have hP := tc_eP (pw12_0_37 ca q S z1) hP
      have hD := tc_eD (pw12_0_37 ca q S z1) hD
      refine lv_iconst (v := (0 : Int32)) hx hb dX12_seats_85 (by decide) ?_
      refine lv_istore (lv' := [(4, .int ((0 : Int32))), (3, .int (z1)), (0, .ref (q 0)), (1, .int (a1)), (2, .int (a2))]) hx hb dX12_seats_86 hl (by decide) rfl (fun ls hl => ?_)
      exact tX12_seats_88 X z rc hrc FU (si S 37 z1) a1 (0 : Int32) hf _ _ _ hP hD hS (lv_sub hl [2, 3, 0] rfl)
    · have hf := tc_neg hc hf
      refine lv_iload_n hx hb dX12_seats_71 rfl (lv_at hl 0 rfl) ?_
      refine lv_aload_n hx hb dX12_seats_72 rfl (lv_at hl 1 rfl) ?_
      refine va_get (D := (dC, dI)) (ci := 12) (v := .int (gi S 37)) (C := RX12) (T := TX12) (N := 49) hx hb hts i_X12 hown hK hP 0 rfl rfl 37 (by decide) (hts _ wf_X12_497) (fun _ h9 => h9) rfl dX12_seats_73 ?_
      refine lv_icmp_lt (tgt := 80) hx hb dX12_seats_76 (by decide) (fun hc => ?_) (fun hc => ?_)
      · have hf := tc_pos hc hf
        refine lv_aload_n hx hb dX12_seats_80 rfl (lv_at hl 1 rfl) ?_
        refine lv_iload_n hx hb dX12_seats_81 rfl (lv_at hl 0 rfl) ?_
        refine va_put (D := (dC, dI)) (ci := 12) (v := .int (z1)) (ty := .int) (C := RX12) (T := TX12) (N := 49) hx hb hts i_X12 tyX12 tyX12_ok nmX12 hown hK hP hD hS 0 rfl rfl 37 (by decide) (hts _ wf_X12_497) (fun _ h9 => h9) rfl (tyX12_ok 37 (by decide)) rfl rfl (Nat.le_of_ble_eq_true rfl) dX12_seats_82 (fun H locs hP hD hS => ?_)
        have hP := tc_eP (pw12_0_37 ca q S z1) hP
        have hD := tc_eD (pw12_0_37 ca q S z1) hD
        refine lv_iconst (v := (0 : Int32)) hx hb dX12_seats_85 (by decide) ?_
        refine lv_istore (lv' := [(4, .int ((0 : Int32))), (3, .int (z1)), (0, .ref (q 0)), (1, .int (a1)), (2, .int (a2))]) hx hb dX12_seats_86 hl (by decide) rfl (fun ls hl => ?_)
        exact tX12_seats_88 X z rc hrc FU (si S 37 z1) a1 (0 : Int32) hf _ _ _ hP hD hS (lv_sub hl [2, 3, 0] rfl)
      · have hf := tc_neg hc hf
        obtain rfl := Option.some.inj hf
        exact tc_rv X hP hD hS rfl dX12_seats_79 rfl
  · have hf := tc_neg hc hf
    refine lv_iconst (v := (0 : Int32)) hx hb dX12_seats_10 (by decide) ?_
    refine lv_istore_n (lv' := [(3, .int ((0 : Int32))), (0, .ref (q 0)), (1, .int (a1)), (2, .int (a2))]) hx hb dX12_seats_11 rfl hl (by decide) rfl (fun ls hl => ?_)
    exact tX12_seats_12 X z rc hrc FU S a1 a2 (0 : Int32) hf _ _ _ hP hD hS (lv_sub hl [1, 2, 3, 0] rfl)
theorem mX12_seats (d : Nat) {q : Nat → Nat}  : ∀ {S : ms_T} {a1 : Int32} {a2 : Int32} {z : ms_T}, fX12_seats d S a1 a2 = some z → tc_MV l dC dI ca yX12_seats cX12_seats 5 none (rmX12_seats d) [.ref (q 0), .int (a1), .int (a2)] (w12 ca q S) (w12 ca q z) := by
  induction d with
  | zero => intro S a1 a2 z hf; exact absurd (show none = some z from hf) (fun h => by cases h)
  | succ d ih => intro S a1 a2 z hf; exact mX12_seats_0 ih hf
def fX12_laysSeats  (S : ms_T)  : Option (ms_T) :=
  (fX12_seats 8 (si S 37 (-1 : Int32)) (0 : Int32) (0 : Int32)).bind fun z1 =>
  some (z1)
abbrev rmX12_laysSeats : Room := { frames := 11, cells := 0, slots := 0, locals := 264 }
theorem okX12_laysSeats : tc_ok yX12_laysSeats cX12_laysSeats 1 none 0 := ⟨wc_X12_laysSeats, wn_X12, by decide, by decide, by decide +kernel⟩
set_option maxRecDepth 20000 in
theorem mX12_laysSeats {q : Nat → Nat}  {S : ms_T}  {z : ms_T}  (hf : fX12_laysSeats S = some z) : tc_MV l dC dI ca yX12_laysSeats cX12_laysSeats 1 none rmX12_laysSeats [.ref (q 0)] (w12 ca q S) (w12 ca q z) := by
  refine tc_metV (own := RX12) (by decide) rfl ?_ (Nat.le_of_ble_eq_true rfl)
  intro p e s m below meth c A X hP hD hS ls hl
  obtain ⟨hx, hb, hr, hml, hown, hts, hlk, hK, hA, hG⟩ := id X
  unfold fX12_laysSeats at hf
  have hl : lv_has ls 1 [(0, .ref (q 0))] := hl
  refine lv_aload_n hx hb dX12_laysSeats_0 rfl (lv_at hl 0 rfl) ?_
  refine lv_iconst (v := (-1 : Int32)) hx hb dX12_laysSeats_1 (by decide) ?_
  refine va_put (D := (dC, dI)) (ci := 12) (v := .int ((-1 : Int32))) (ty := .int) (C := RX12) (T := TX12) (N := 49) hx hb hts i_X12 tyX12 tyX12_ok nmX12 hown hK hP hD hS 0 rfl rfl 37 (by decide) (hts _ wf_X12_497) (fun _ h9 => h9) rfl (tyX12_ok 37 (by decide)) rfl rfl (Nat.le_of_ble_eq_true rfl) dX12_laysSeats_2 (fun H locs hP hD hS => ?_)
  have hP := tc_eP (pw12_0_37 ca q S (-1 : Int32)) hP
  have hD := tc_eD (pw12_0_37 ca q S (-1 : Int32)) hD
  refine lv_aload_n hx hb dX12_laysSeats_5 rfl (lv_at hl 0 rfl) ?_
  refine lv_iconst (v := (0 : Int32)) hx hb dX12_laysSeats_6 (by decide) ?_
  refine lv_iconst (v := (0 : Int32)) hx hb dX12_laysSeats_7 (by decide) ?_
  obtain ⟨z1, hg, hf⟩ := tc_bi hf
  refine tc_vVs (As := [.int ((0 : Int32)), .int ((0 : Int32))]) (rest := []) (b := q 0) X hP hD hS (mX12_seats 8 hg) okX12_seats wl_X12_491 wi_X12_seats ws_X12_X12_seats_X12_seats ⟨rfl, rfl, Nat.le_of_ble_eq_true rfl, Nat.le_of_ble_eq_true rfl⟩ 12 0 rfl rfl rfl hl.1 (Nat.le_of_ble_eq_true rfl) dX12_laysSeats_8 (fun H locs hP hD hS => ?_)
  obtain rfl := Option.some.inj hf
  exact tc_rv X hP hD hS rfl dX12_laysSeats_11 rfl
def fX12_seating  (S : ms_T)  : Option (Int32 × ms_T) :=
  (fX12_laysSeats (si (si S 1 (0 : Int32)) 0 (0 : Int32))).bind fun z1 =>
  some (gi z1 37, z1)
abbrev rmX12_seating : Room := { frames := 12, cells := 0, slots := 0, locals := 284 }
theorem okX12_seating : tc_ok yX12_seating cX12_seating 1 (some .int) 0 := ⟨wc_X12_seating, wn_X12, by decide, by decide, by decide +kernel⟩
set_option maxRecDepth 20000 in
theorem mX12_seating {q : Nat → Nat}  {S : ms_T}  {z : Int32 × ms_T}  (hf : fX12_seating S = some z) : tc_MI l dC dI ca yX12_seating cX12_seating 1 (some .int) rmX12_seating [.ref (q 0)] (w12 ca q S) (w12 ca q z.2) (z.1) := by
  refine tc_metI (own := RX12) (by decide) rfl ?_ (Nat.le_of_ble_eq_true rfl)
  intro p e s m below meth c A X hP hD hS ls hl
  obtain ⟨hx, hb, hr, hml, hown, hts, hlk, hK, hA, hG⟩ := id X
  unfold fX12_seating at hf
  have hl : lv_has ls 1 [(0, .ref (q 0))] := hl
  refine lv_aload_n hx hb dX12_seating_0 rfl (lv_at hl 0 rfl) ?_
  refine lv_iconst (v := (0 : Int32)) hx hb dX12_seating_1 (by decide) ?_
  refine va_put (D := (dC, dI)) (ci := 12) (v := .int ((0 : Int32))) (ty := .int) (C := RX12) (T := TX12) (N := 49) hx hb hts i_X12 tyX12 tyX12_ok nmX12 hown hK hP hD hS 0 rfl rfl 1 (by decide) (hts _ wf_X12_63) (fun _ h9 => h9) rfl (tyX12_ok 1 (by decide)) rfl rfl (Nat.le_of_ble_eq_true rfl) dX12_seating_2 (fun H locs hP hD hS => ?_)
  have hP := tc_eP (pw12_0_1 ca q S (0 : Int32)) hP
  have hD := tc_eD (pw12_0_1 ca q S (0 : Int32)) hD
  refine lv_aload_n hx hb dX12_seating_5 rfl (lv_at hl 0 rfl) ?_
  refine lv_iconst (v := (0 : Int32)) hx hb dX12_seating_6 (by decide) ?_
  refine va_put (D := (dC, dI)) (ci := 12) (v := .int ((0 : Int32))) (ty := .int) (C := RX12) (T := TX12) (N := 49) hx hb hts i_X12 tyX12 tyX12_ok nmX12 hown hK hP hD hS 0 rfl rfl 0 (by decide) (hts _ wf_X12_66) (fun _ h9 => h9) rfl (tyX12_ok 0 (by decide)) rfl rfl (Nat.le_of_ble_eq_true rfl) dX12_seating_7 (fun H locs hP hD hS => ?_)
  have hP := tc_eP (pw12_0_0 ca q (si S 1 (0 : Int32)) (0 : Int32)) hP
  have hD := tc_eD (pw12_0_0 ca q (si S 1 (0 : Int32)) (0 : Int32)) hD
  refine lv_aload_n hx hb dX12_seating_10 rfl (lv_at hl 0 rfl) ?_
  obtain ⟨z1, hg, hf⟩ := tc_bi hf
  refine tc_vVs (As := []) (rest := []) (b := q 0) X hP hD hS (mX12_laysSeats hg) okX12_laysSeats wl_X12_500 wi_X12_laysSeats ws_X12_X12_laysSeats_X12_laysSeats ⟨rfl, rfl, Nat.le_of_ble_eq_true rfl, Nat.le_of_ble_eq_true rfl⟩ 12 0 rfl rfl rfl hl.1 (Nat.le_of_ble_eq_true rfl) dX12_seating_11 (fun H locs hP hD hS => ?_)
  refine lv_aload_n hx hb dX12_seating_14 rfl (lv_at hl 0 rfl) ?_
  refine va_get (D := (dC, dI)) (ci := 12) (v := .int (gi z1 37)) (C := RX12) (T := TX12) (N := 49) hx hb hts i_X12 hown hK hP 0 rfl rfl 37 (by decide) (hts _ wf_X12_497) (fun _ h9 => h9) rfl dX12_seating_15 ?_
  obtain rfl := Option.some.inj hf
  exact tc_ri X hP hD hS rfl dX12_seating_18 rfl rfl
def fX12_seatOf  (S : ms_T) (a1 : Int32) : Option (Int32 × ms_T) :=
  (fX12_isTalkerAt (si (si S 1 (0 : Int32)) 0 (0 : Int32)) a1).bind fun z1 =>
  if z1 = 0 then
    (fX12_refuse (si (si S 1 (0 : Int32)) 0 (0 : Int32)) (2 : Int32)).bind fun z4 =>
    some (z4.1, z4.2)
  else
    (fX12_laysSeats (si (si S 1 (0 : Int32)) 0 (0 : Int32))).bind fun z2 =>
    if inb a1 6 = true then
      some (ia z2 11 a1, z2)
    else none
abbrev rmX12_seatOf : Room := { frames := 12, cells := 0, slots := 0, locals := 284 }
theorem okX12_seatOf : tc_ok yX12_seatOf cX12_seatOf 2 (some .int) 1 := ⟨wc_X12_seatOf, wn_X12, by decide, by decide, by decide +kernel⟩
set_option maxRecDepth 20000 in
theorem mX12_seatOf {q : Nat → Nat}  {S : ms_T} {a1 : Int32} {z : Int32 × ms_T}  (hf : fX12_seatOf S a1 = some z) : tc_MI l dC dI ca yX12_seatOf cX12_seatOf 2 (some .int) rmX12_seatOf [.ref (q 0), .int (a1)] (w12 ca q S) (w12 ca q z.2) (z.1) := by
  refine tc_metI (own := RX12) (by decide) rfl ?_ (Nat.le_of_ble_eq_true rfl)
  intro p e s m below meth c A X hP hD hS ls hl
  obtain ⟨hx, hb, hr, hml, hown, hts, hlk, hK, hA, hG⟩ := id X
  unfold fX12_seatOf at hf
  have hl : lv_has ls 2 [(0, .ref (q 0)), (1, .int (a1))] := hl
  refine lv_aload_n hx hb dX12_seatOf_0 rfl (lv_at hl 0 rfl) ?_
  refine lv_iconst (v := (0 : Int32)) hx hb dX12_seatOf_1 (by decide) ?_
  refine va_put (D := (dC, dI)) (ci := 12) (v := .int ((0 : Int32))) (ty := .int) (C := RX12) (T := TX12) (N := 49) hx hb hts i_X12 tyX12 tyX12_ok nmX12 hown hK hP hD hS 0 rfl rfl 1 (by decide) (hts _ wf_X12_63) (fun _ h9 => h9) rfl (tyX12_ok 1 (by decide)) rfl rfl (Nat.le_of_ble_eq_true rfl) dX12_seatOf_2 (fun H locs hP hD hS => ?_)
  have hP := tc_eP (pw12_0_1 ca q S (0 : Int32)) hP
  have hD := tc_eD (pw12_0_1 ca q S (0 : Int32)) hD
  refine lv_aload_n hx hb dX12_seatOf_5 rfl (lv_at hl 0 rfl) ?_
  refine lv_iconst (v := (0 : Int32)) hx hb dX12_seatOf_6 (by decide) ?_
  refine va_put (D := (dC, dI)) (ci := 12) (v := .int ((0 : Int32))) (ty := .int) (C := RX12) (T := TX12) (N := 49) hx hb hts i_X12 tyX12 tyX12_ok nmX12 hown hK hP hD hS 0 rfl rfl 0 (by decide) (hts _ wf_X12_66) (fun _ h9 => h9) rfl (tyX12_ok 0 (by decide)) rfl rfl (Nat.le_of_ble_eq_true rfl) dX12_seatOf_7 (fun H locs hP hD hS => ?_)
  have hP := tc_eP (pw12_0_0 ca q (si S 1 (0 : Int32)) (0 : Int32)) hP
  have hD := tc_eD (pw12_0_0 ca q (si S 1 (0 : Int32)) (0 : Int32)) hD
  refine lv_aload_n hx hb dX12_seatOf_10 rfl (lv_at hl 0 rfl) ?_
  refine lv_iload_n hx hb dX12_seatOf_11 rfl (lv_at hl 1 rfl) ?_
  obtain ⟨z1, hg, hf⟩ := tc_bi hf
  refine tc_iVs (As := [.int (a1)]) (rest := []) (b := q 0) X hP hD hS (mX12_isTalkerAt hg) okX12_isTalkerAt wl_X12_362 wi_X12_isTalkerAt ws_X12_X12_isTalkerAt_X12_isTalkerAt ⟨rfl, rfl, Nat.le_of_ble_eq_true rfl, Nat.le_of_ble_eq_true rfl⟩ 12 0 rfl rfl rfl hl.1 (Nat.le_of_ble_eq_true rfl) dX12_seatOf_12 (fun H locs hP hD hS => ?_)
  refine lv_if_ne (tgt := 24) hx hb dX12_seatOf_15 (by decide) (fun hc => ?_) (fun hc => ?_)
  · have hf := tc_neg hc hf
    refine lv_aload_n hx hb dX12_seatOf_24 rfl (lv_at hl 0 rfl) ?_
    obtain ⟨z2, hg, hf⟩ := tc_bi hf
    refine tc_vVs (As := []) (rest := []) (b := q 0) X hP hD hS (mX12_laysSeats hg) okX12_laysSeats wl_X12_500 wi_X12_laysSeats ws_X12_X12_laysSeats_X12_laysSeats ⟨rfl, rfl, Nat.le_of_ble_eq_true rfl, Nat.le_of_ble_eq_true rfl⟩ 12 0 rfl rfl rfl hl.1 (Nat.le_of_ble_eq_true rfl) dX12_seatOf_25 (fun H locs hP hD hS => ?_)
    refine lv_aload_n hx hb dX12_seatOf_28 rfl (lv_at hl 0 rfl) ?_
    refine va_get (D := (dC, dI)) (ci := 12) (v := .ref (q 11)) (C := RX12) (T := TX12) (N := 49) hx hb hts i_X12 hown hK hP 0 rfl rfl 36 (by decide) (hts _ wf_X12_53) (fun _ h9 => h9) rfl dX12_seatOf_29 ?_
    refine lv_iload_n hx hb dX12_seatOf_32 rfl (lv_at hl 1 rfl) ?_
    obtain ⟨hi3, hf⟩ := tc_in hf
    refine va_iald hx hb hK hP 11 1 rfl rfl hi3 dX12_seatOf_33 ?_
    obtain rfl := Option.some.inj hf
    exact tc_ri X hP hD hS rfl dX12_seatOf_34 rfl rfl
  · have hf := tc_pos hc hf
    refine lv_aload_n hx hb dX12_seatOf_18 rfl (lv_at hl 0 rfl) ?_
    refine lv_iconst (v := (2 : Int32)) hx hb dX12_seatOf_19 (by decide) ?_
    obtain ⟨z4, hg, hf⟩ := tc_bi hf
    refine tc_iVs (As := [.int ((2 : Int32))]) (rest := []) (b := q 0) X hP hD hS (mX12_refuse hg) okX12_refuse wl_X12_333 wi_X12_refuse ws_X12_X12_refuse_X12_refuse ⟨rfl, rfl, Nat.le_of_ble_eq_true rfl, Nat.le_of_ble_eq_true rfl⟩ 12 0 rfl rfl rfl hl.1 (Nat.le_of_ble_eq_true rfl) dX12_seatOf_20 (fun H locs hP hD hS => ?_)
    obtain rfl := Option.some.inj hf
    exact tc_ri X hP hD hS rfl dX12_seatOf_23 rfl rfl
end G
