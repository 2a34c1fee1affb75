section G
variable {p : Program} {l : Launch} {e : Env} {s : State} {m : MethodId} {args : Array Value} {below : List Frame} {meth : Method} {c : Code} {dC : Nat → ClassId} {dI : Nat → Nat → Nat} {ca : Nat → ClassId} {A : Nat → Prop}
theorem aw0_1_0_1 (ca : Nat → ClassId) (q0 q1 : Nat → Nat) (r0_0 r0_1 : Value) (S0 S1 : ms_T) (i v : Int32) : (w0 ca q0 r0_0 r0_1 S0 ++ w1 ca q1 S1 : va_W).set 1 (q0 1, .inl (ca 1, 60, .inl (upd (ra S0 1) i.toNatClampNeg v))) = w0 ca q0 r0_0 r0_1 (sa S0 1 i v) ++ w1 ca q1 S1 := rfl
def fX0_behindEnd  (SV : ms_T) (SE : ms_T) (a1 : Int32) : Option (Int32 × ms_T) :=
  if inb a1 60 = true then
    if inb (ia SE 5 a1) 60 = true then
      if (ia SE 1 (ia SE 5 a1)) = (23 : Int32) then
        if ((ia SE 5 a1) + (1 : Int32)) = a1 then
          some (a1 + (1 : Int32), SV)
        else
          if inb (ia SE 5 a1) 60 = true then
            if inb (ia SE 5 a1) 60 = true then
              if inb (ia SE 5 a1) 60 = true then
                if (ia (sa SV 1 (ia SE 5 a1) ((ia SV 1 (ia SE 5 a1)) - (1 : Int32))) 1 (ia SE 5 a1)) ≤ 0 then
                  some (a1 + (1 : Int32), sa SV 1 (ia SE 5 a1) ((ia SV 1 (ia SE 5 a1)) - (1 : Int32)))
                else
                  some ((ia SE 5 a1) + (1 : Int32), sa SV 1 (ia SE 5 a1) ((ia SV 1 (ia SE 5 a1)) - (1 : Int32)))
              else none
            else none
          else none
      else
        some (a1 + (1 : Int32), SV)
    else none
  else none
abbrev rmX0_behindEnd : Room := { frames := 0, cells := 0, slots := 0, locals := 0 }
theorem okX0_behindEnd : tc_ok yX0_behindEnd cX0_behindEnd 3 (some .int) 1 := ⟨wc_X0_behindEnd, wn_X0, by decide, by decide, by decide +kernel⟩
set_option maxRecDepth 20000 in
theorem mX0_behindEnd {qV : Nat → Nat} {qE : Nat → Nat} {rV0 : Value} {SV : ms_T} {SE : ms_T} {a1 : Int32} {z : Int32 × ms_T}  (hf : fX0_behindEnd SV SE a1 = some z) : tc_MI l dC dI ca yX0_behindEnd cX0_behindEnd 3 (some .int) rmX0_behindEnd [.ref (qV 0), .int (a1)] (w0 ca qV (rV0) (.ref (qE 0)) SV ++ w1 ca qE SE) (w0 ca qV (rV0) (.ref (qE 0)) z.2 ++ w1 ca qE SE) (z.1) := by
  refine tc_metI (own := RX0) (by decide) rfl ?_ (Nat.le_of_ble_eq_true rfl)
  intro p e s m below meth c A X hP hD hS ls hl
  obtain ⟨hx, hb, hr, hml, hown, hts, hlk, hK, hA, hG⟩ := id X
  unfold fX0_behindEnd at hf
  have hl : lv_has ls 3 [(0, .ref (qV 0)), (1, .int (a1))] := hl
  refine lv_aload_n hx hb dX0_behindEnd_0 rfl (lv_at hl 0 rfl) ?_
  refine va_get (D := (dC, dI)) (ci := 0) (v := .ref (qE 0)) (C := RX0) (T := TX0) (N := 10) hx hb hts i_X0 hown hK hP 0 rfl rfl 1 (by decide) (hts _ wf_X0_19) (fun _ h9 => h9) rfl dX0_behindEnd_1 ?_
  refine va_get (D := (dC, dI)) (ci := 1) (v := .ref (qE 5)) (C := RX1) (T := TX1) (N := 8) hx hb hts i_X1 hown hK hP 2 rfl rfl 7 (by decide) (hts _ wf_X0_60) (fun _ h9 => h9) rfl dX0_behindEnd_4 ?_
  refine lv_iload_n hx hb dX0_behindEnd_7 rfl (lv_at hl 1 rfl) ?_
  obtain ⟨hi1, hf⟩ := tc_in hf
  refine va_iald hx hb hK hP 7 1 rfl rfl hi1 dX0_behindEnd_8 ?_
  refine lv_istore_n (lv' := [(2, .int (ia SE 5 a1)), (0, .ref (qV 0)), (1, .int (a1))]) hx hb dX0_behindEnd_9 rfl hl (by decide) rfl (fun ls hl => ?_)
  refine lv_aload_n hx hb dX0_behindEnd_10 rfl (lv_at hl 1 rfl) ?_
  refine va_get (D := (dC, dI)) (ci := 0) (v := .ref (qE 0)) (C := RX0) (T := TX0) (N := 10) hx hb hts i_X0 hown hK hP 0 rfl rfl 1 (by decide) (hts _ wf_X0_19) (fun _ h9 => h9) rfl dX0_behindEnd_11 ?_
  refine va_get (D := (dC, dI)) (ci := 1) (v := .ref (qE 1)) (C := RX1) (T := TX1) (N := 8) hx hb hts i_X1 hown hK hP 2 rfl rfl 3 (by decide) (hts _ wf_X0_48) (fun _ h9 => h9) rfl dX0_behindEnd_14 ?_
  refine lv_iload_n hx hb dX0_behindEnd_17 rfl (lv_at hl 0 rfl) ?_
  obtain ⟨hi2, hf⟩ := tc_in hf
  refine va_iald hx hb hK hP 3 1 rfl rfl hi2 dX0_behindEnd_18 ?_
  refine lv_bipush (v := (23 : Int32)) hx hb dX0_behindEnd_19 (by decide) ?_
  refine lv_icmp_ne (tgt := 31) hx hb dX0_behindEnd_21 (by decide) (fun hc => ?_) (fun hc => ?_)
  · have hf := tc_neg hc hf
    refine lv_iload_n hx hb dX0_behindEnd_31 rfl (lv_at hl 2 rfl) ?_
    refine lv_iconst (v := (1 : Int32)) hx hb dX0_behindEnd_32 (by decide) ?_
    refine lv_iadd hx hb dX0_behindEnd_33 ?_
    obtain rfl := Option.some.inj hf
    exact tc_ri X hP hD hS rfl dX0_behindEnd_34 rfl rfl
  · have hf := tc_pos hc hf
    refine lv_iload_n hx hb dX0_behindEnd_24 rfl (lv_at hl 0 rfl) ?_
    refine lv_iconst (v := (1 : Int32)) hx hb dX0_behindEnd_25 (by decide) ?_
    refine lv_iadd hx hb dX0_behindEnd_26 ?_
    refine lv_iload_n hx hb dX0_behindEnd_27 rfl (lv_at hl 2 rfl) ?_
    refine lv_icmp_ne (tgt := 35) hx hb dX0_behindEnd_28 (by decide) (fun hc => ?_) (fun hc => ?_)
    · have hf := tc_neg hc hf
      refine lv_aload_n hx hb dX0_behindEnd_35 rfl (lv_at hl 1 rfl) ?_
      refine va_get (D := (dC, dI)) (ci := 0) (v := .ref (qV 1)) (C := RX0) (T := TX0) (N := 10) hx hb hts i_X0 hown hK hP 0 rfl rfl 3 (by decide) (hts _ wf_X0_9) (fun _ h9 => h9) rfl dX0_behindEnd_36 ?_
      refine lv_iload_n hx hb dX0_behindEnd_39 rfl (lv_at hl 0 rfl) ?_
      refine lv_dup2_11 hx hb dX0_behindEnd_40 rfl rfl ?_
      obtain ⟨hi3, hf⟩ := tc_in hf
      refine va_iald hx hb hK hP 1 1 rfl rfl hi3 dX0_behindEnd_41 ?_
      refine lv_iconst (v := (1 : Int32)) hx hb dX0_behindEnd_42 (by decide) ?_
      refine lv_isub hx hb dX0_behindEnd_43 ?_
      obtain ⟨hi4, hf⟩ := tc_in hf
      refine va_iast hx hb hK hP hD hS 1 1 rfl rfl hi4 dX0_behindEnd_44 (fun H locs hP hD hS => ?_)
      have hP := tc_eP (aw0_1_0_1 ca qV qE (rV0) (.ref (qE 0)) SV SE (ia SE 5 a1) ((ia SV 1 (ia SE 5 a1)) - (1 : Int32))) hP
      have hD := tc_eD (aw0_1_0_1 ca qV qE (rV0) (.ref (qE 0)) SV SE (ia SE 5 a1) ((ia SV 1 (ia SE 5 a1)) - (1 : Int32))) hD
      refine lv_aload_n hx hb dX0_behindEnd_45 rfl (lv_at hl 1 rfl) ?_
      refine va_get (D := (dC, dI)) (ci := 0) (v := .ref (qV 1)) (C := RX0) (T := TX0) (N := 10) hx hb hts i_X0 hown hK hP 0 rfl rfl 3 (by decide) (hts _ wf_X0_9) (fun _ h9 => h9) rfl dX0_behindEnd_46 ?_
      refine lv_iload_n hx hb dX0_behindEnd_49 rfl (lv_at hl 0 rfl) ?_
      obtain ⟨hi5, hf⟩ := tc_in hf
      refine va_iald hx hb hK hP 1 1 rfl rfl hi5 dX0_behindEnd_50 ?_
      refine lv_if_le (tgt := 60) hx hb dX0_behindEnd_51 (by decide) (fun hc => ?_) (fun hc => ?_)
      · have hf := tc_pos hc hf
        refine lv_iload_n hx hb dX0_behindEnd_60 rfl (lv_at hl 2 rfl) ?_
        refine lv_iconst (v := (1 : Int32)) hx hb dX0_behindEnd_61 (by decide) ?_
        refine lv_iadd hx hb dX0_behindEnd_62 ?_
        obtain rfl := Option.some.inj hf
        exact tc_ri X hP hD hS rfl dX0_behindEnd_63 rfl rfl
      · have hf := tc_neg hc hf
        refine lv_iload_n hx hb dX0_behindEnd_54 rfl (lv_at hl 0 rfl) ?_
        refine lv_iconst (v := (1 : Int32)) hx hb dX0_behindEnd_55 (by decide) ?_
        refine lv_iadd hx hb dX0_behindEnd_56 ?_
        refine lv_goto (tgt := 63) hx hb dX0_behindEnd_57 (by decide) ?_
        obtain rfl := Option.some.inj hf
        exact tc_ri X hP hD hS rfl dX0_behindEnd_63 rfl rfl
    · have hf := tc_pos hc hf
      refine lv_iload_n hx hb dX0_behindEnd_31 rfl (lv_at hl 2 rfl) ?_
      refine lv_iconst (v := (1 : Int32)) hx hb dX0_behindEnd_32 (by decide) ?_
      refine lv_iadd hx hb dX0_behindEnd_33 ?_
      obtain rfl := Option.some.inj hf
      exact tc_ri X hP hD hS rfl dX0_behindEnd_34 rfl rfl
def fX7_isFalling  (S : ms_T) (a1 : Int32) : Option (Int32) :=
  if (((gi S 12) >>> (a1 &&& 31)) &&& (1 : Int32)) = 0 then
    some ((0 : Int32))
  else
    some ((1 : Int32))
abbrev rmX7_isFalling : Room := { frames := 0, cells := 0, slots := 0, locals := 0 }
theorem okX7_isFalling : tc_ok yX7_isFalling cX7_isFalling 2 (some .boolean) 1 := ⟨wc_X7_isFalling, wn_X7, by decide, by decide, by decide +kernel⟩
set_option maxRecDepth 20000 in
theorem mX7_isFalling {q : Nat → Nat}  {S : ms_T} {a1 : Int32} {z : Int32}  (hf : fX7_isFalling S a1 = some z) : tc_MI l dC dI ca yX7_isFalling cX7_isFalling 2 (some .boolean) rmX7_isFalling [.ref (q 0), .int (a1)] (w7 ca q S) (w7 ca q S) (z) := by
  refine tc_metI (own := RX7) (by decide) rfl ?_ (Nat.le_of_ble_eq_true rfl)
  intro p e s m below meth c A X hP hD hS ls hl
  obtain ⟨hx, hb, hr, hml, hown, hts, hlk, hK, hA, hG⟩ := id X
  unfold fX7_isFalling at hf
  have hl : lv_has ls 2 [(0, .ref (q 0)), (1, .int (a1))] := hl
  refine lv_aload_n hx hb dX7_isFalling_0 rfl (lv_at hl 0 rfl) ?_
  refine va_get (D := (dC, dI)) (ci := 7) (v := .int (gi S 12)) (C := RX7) (T := TX7) (N := 18) hx hb hts i_X7 hown hK hP 0 rfl rfl 12 (by decide) (hts _ wf_X7_59) (fun _ h9 => h9) rfl dX7_isFalling_1 ?_
  refine lv_iload_n hx hb dX7_isFalling_4 rfl (lv_at hl 1 rfl) ?_
  refine lv_ishr hx hb dX7_isFalling_5 ?_
  refine lv_iconst (v := (1 : Int32)) hx hb dX7_isFalling_6 (by decide) ?_
  refine lv_iand hx hb dX7_isFalling_7 ?_
  refine lv_if_eq (tgt := 15) hx hb dX7_isFalling_8 (by decide) (fun hc => ?_) (fun hc => ?_)
  · have hf := tc_pos hc hf
    refine lv_iconst (v := (0 : Int32)) hx hb dX7_isFalling_15 (by decide) ?_
    obtain rfl := Option.some.inj hf
    exact tc_rz X hP hD hS rfl dX7_isFalling_16 (by decide) rfl rfl
  · have hf := tc_neg hc hf
    refine lv_iconst (v := (1 : Int32)) hx hb dX7_isFalling_11 (by decide) ?_
    refine lv_goto (tgt := 16) hx hb dX7_isFalling_12 (by decide) ?_
    obtain rfl := Option.some.inj hf
    exact tc_rz X hP hD hS rfl dX7_isFalling_16 (by decide) rfl rfl
def fX7_heightOf  (S : ms_T) (a1 : Int32) : Option (Int32) :=
  if inb a1 8 = true then
    some ((ia S 3 a1) + (1 : Int32))
  else none
abbrev rmX7_heightOf : Room := { frames := 0, cells := 0, slots := 0, locals := 0 }
theorem okX7_heightOf : tc_ok yX7_heightOf cX7_heightOf 2 (some .int) 1 := ⟨wc_X7_heightOf, wn_X7, by decide, by decide, by decide +kernel⟩
set_option maxRecDepth 20000 in
theorem mX7_heightOf {q : Nat → Nat}  {S : ms_T} {a1 : Int32} {z : Int32}  (hf : fX7_heightOf S a1 = some z) : tc_MI l dC dI ca yX7_heightOf cX7_heightOf 2 (some .int) rmX7_heightOf [.ref (q 0), .int (a1)] (w7 ca q S) (w7 ca q S) (z) := by
  refine tc_metI (own := RX7) (by decide) rfl ?_ (Nat.le_of_ble_eq_true rfl)
  intro p e s m below meth c A X hP hD hS ls hl
  obtain ⟨hx, hb, hr, hml, hown, hts, hlk, hK, hA, hG⟩ := id X
  unfold fX7_heightOf at hf
  have hl : lv_has ls 2 [(0, .ref (q 0)), (1, .int (a1))] := hl
  refine lv_aload_n hx hb dX7_heightOf_0 rfl (lv_at hl 0 rfl) ?_
  refine va_get (D := (dC, dI)) (ci := 7) (v := .ref (q 3)) (C := RX7) (T := TX7) (N := 18) hx hb hts i_X7 hown hK hP 0 rfl rfl 5 (by decide) (hts _ wf_X7_22) (fun _ h9 => h9) rfl dX7_heightOf_1 ?_
  refine lv_iload_n hx hb dX7_heightOf_4 rfl (lv_at hl 1 rfl) ?_
  obtain ⟨hi1, hf⟩ := tc_in hf
  refine va_iald hx hb hK hP 3 1 rfl rfl hi1 dX7_heightOf_5 ?_
  refine lv_iconst (v := (1 : Int32)) hx hb dX7_heightOf_6 (by decide) ?_
  refine lv_iadd hx hb dX7_heightOf_7 ?_
  obtain rfl := Option.some.inj hf
  exact tc_ri X hP hD hS rfl dX7_heightOf_8 rfl rfl
def fX7_isNear  (S : ms_T) (a1 : Int32) (a2 : Int32) : Option (Int32) :=
  (fX7_heightOf S a1).bind fun z1 =>
  if (1 : Int32) < (jabs (z1 - a2)) then
    some ((0 : Int32))
  else
    some ((1 : Int32))
abbrev rmX7_isNear : Room := { frames := 1, cells := 0, slots := 0, locals := 23 }
theorem okX7_isNear : tc_ok yX7_isNear cX7_isNear 3 (some .boolean) 2 := ⟨wc_X7_isNear, wn_X7, by decide, by decide, by decide +kernel⟩
set_option maxRecDepth 20000 in
theorem mX7_isNear {q : Nat → Nat}  {S : ms_T} {a1 : Int32} {a2 : Int32} {z : Int32}  (hf : fX7_isNear S a1 a2 = some z) : tc_MI l dC dI ca yX7_isNear cX7_isNear 3 (some .boolean) rmX7_isNear [.ref (q 0), .int (a1), .int (a2)] (w7 ca q S) (w7 ca q S) (z) := by
  refine tc_metI (own := RX7) (by decide) rfl ?_ (Nat.le_of_ble_eq_true rfl)
  intro p e s m below meth c A X hP hD hS ls hl
  obtain ⟨hx, hb, hr, hml, hown, hts, hlk, hK, hA, hG⟩ := id X
  unfold fX7_isNear at hf
  have hl : lv_has ls 3 [(0, .ref (q 0)), (1, .int (a1)), (2, .int (a2))] := hl
  refine lv_aload_n hx hb dX7_isNear_0 rfl (lv_at hl 0 rfl) ?_
  refine lv_iload_n hx hb dX7_isNear_1 rfl (lv_at hl 1 rfl) ?_
  obtain ⟨z1, hg, hf⟩ := tc_bi hf
  refine tc_iVs (As := [.int (a1)]) (rest := []) (b := q 0) X hP hD hS (mX7_heightOf hg) okX7_heightOf wl_X7_87 wi_X7_heightOf ws_X7_X7_heightOf_X7_heightOf ⟨rfl, rfl, Nat.le_of_ble_eq_true rfl, Nat.le_of_ble_eq_true rfl⟩ 7 0 rfl rfl rfl hl.1 (Nat.le_of_ble_eq_true rfl) dX7_isNear_2 (fun H locs hP hD hS => ?_)
  refine lv_iload_n hx hb dX7_isNear_5 rfl (lv_at hl 2 rfl) ?_
  refine lv_isub hx hb dX7_isNear_6 ?_
  refine tc_mabs (rest := []) X hl.1 wl_X7_91 (Nat.le_of_ble_eq_true rfl) (Nat.le_of_ble_eq_true rfl) dX7_isNear_7 ?_
  refine lv_iconst (v := (1 : Int32)) hx hb dX7_isNear_10 (by decide) ?_
  refine lv_icmp_gt (tgt := 18) hx hb dX7_isNear_11 (by decide) (fun hc => ?_) (fun hc => ?_)
  · have hf := tc_pos hc hf
    refine lv_iconst (v := (0 : Int32)) hx hb dX7_isNear_18 (by decide) ?_
    obtain rfl := Option.some.inj hf
    exact tc_rz X hP hD hS rfl dX7_isNear_19 (by decide) rfl rfl
  · have hf := tc_neg hc hf
    refine lv_iconst (v := (1 : Int32)) hx hb dX7_isNear_14 (by decide) ?_
    refine lv_goto (tgt := 19) hx hb dX7_isNear_15 (by decide) ?_
    obtain rfl := Option.some.inj hf
    exact tc_rz X hP hD hS rfl dX7_isNear_19 (by decide) rfl rfl
def fX7_sayable_23  (S : ms_T)  : Nat → Int32 → Int32 → Int32 → Option (Int32)
  | 0, _, _, _ => none
  | n + 1, v1, v2, v3 =>
    if (gi S 4) ≤ v3 then
      some (v2)
    else
      if inb v1 6 = true then
        (fX7_isNear S v3 (ia S 6 v1)).bind fun z4 =>
        if z4 = 0 then
          fX7_sayable_23 S n v1 v2 (v3 + (1 : Int32))
        else
          fX7_sayable_23 S n v1 (v2 ||| ((1 : Int32) <<< (v3 &&& 31))) (v3 + (1 : Int32))
      else none
def fX7_sayable  (S : ms_T) (a1 : Int32) : Option (Int32) :=
  (fX7_isFalling S a1).bind fun z1 =>
  if z1 = 0 then
    if inb a1 6 = true then
      if (ia S 6 a1) = 0 then
        some ((0 : Int32))
      else
        fX7_sayable_23 S FU a1 (0 : Int32) (0 : Int32)
    else none
  else
    some ((0 : Int32))
abbrev rmX7_sayable : Room := { frames := 2, cells := 0, slots := 0, locals := 45 }
theorem okX7_sayable : tc_ok yX7_sayable cX7_sayable 4 (some .int) 1 := ⟨wc_X7_sayable, wn_X7, by decide, by decide, by decide +kernel⟩
set_option maxRecDepth 20000 in
theorem tX7_sayable_23 {q : Nat → Nat}  (X : tc_X dC dI ca A RX7 cX7_sayable 4 (some .int) p s m args meth c) (z : Int32)  (S : ms_T)   : ∀ n : Nat, ∀ (v1 : Int32) (v2 : Int32) (v3 : Int32), fX7_sayable_23 S n v1 v2 v3 = some z → ∀ (H : Heap) (locs : List Loc) (ls : Array Slot), va_P (dC, dI) classes (w7 ca q S) H → va_D A (w7 ca q S) → va_S A s.heap H locs → lv_has ls 4 [(0, .ref (q 0)), (1, .int (v1)), (2, .int (v2)), (3, .int (v3))] → W p l e rmX7_sayable s m args below meth c H locs 0 0 (MQ below (tc_QI dC dI ca A (w7 ca q S) (z)) args s 0 0 A) (F0 m 23 ls []) := by
  obtain ⟨hx, hb, hr, hml, hown, hts, hlk, hK, hA, hG⟩ := id X
  intro n
  induction n with
  | zero => intro v1 v2 v3 hf; exact absurd (show none = some z from hf) (fun h => by cases h)
  | succ n ih =>
    intro v1 v2 v3 hf H locs ls hP hD hS hl
    rw [fX7_sayable_23] at hf
    refine lv_iload_n hx hb dX7_sayable_23 rfl (lv_at hl 3 rfl) ?_
    refine lv_aload_n hx hb dX7_sayable_24 rfl (lv_at hl 0 rfl) ?_
    refine va_get (D := (dC, dI)) (ci := 7) (v := .int (gi S 4)) (C := RX7) (T := TX7) (N := 18) hx hb hts i_X7 hown hK hP 0 rfl rfl 4 (by decide) (hts _ wf_X7_50) (fun _ h9 => h9) rfl dX7_sayable_25 ?_
    refine lv_icmp_ge (tgt := 57) hx hb dX7_sayable_28 (by decide) (fun hc => ?_) (fun hc => ?_)
    · have hf := tc_pos hc hf
      refine lv_iload_n hx hb dX7_sayable_57 rfl (lv_at hl 2 rfl) ?_
      obtain rfl := Option.some.inj hf
      exact tc_ri X hP hD hS rfl dX7_sayable_58 rfl rfl
    · have hf := tc_neg hc hf
      refine lv_aload_n hx hb dX7_sayable_31 rfl (lv_at hl 0 rfl) ?_
      refine lv_iload_n hx hb dX7_sayable_32 rfl (lv_at hl 3 rfl) ?_
      refine lv_aload_n hx hb dX7_sayable_33 rfl (lv_at hl 0 rfl) ?_
      refine va_get (D := (dC, dI)) (ci := 7) (v := .ref (q 6)) (C := RX7) (T := TX7) (N := 18) hx hb hts i_X7 hown hK hP 0 rfl rfl 10 (by decide) (hts _ wf_X7_31) (fun _ h9 => h9) rfl dX7_sayable_34 ?_
      refine lv_iload_n hx hb dX7_sayable_37 rfl (lv_at hl 1 rfl) ?_
      obtain ⟨hi3, hf⟩ := tc_in hf
      refine va_iald hx hb hK hP 6 1 rfl rfl hi3 dX7_sayable_38 ?_
      obtain ⟨z4, hg, hf⟩ := tc_bi hf
      refine tc_iVs (As := [.int (v3), .int (ia S 6 v1)]) (rest := []) (b := q 0) X hP hD hS (mX7_isNear hg) okX7_isNear wl_X7_98 wi_X7_isNear ws_X7_X7_isNear_X7_isNear ⟨rfl, rfl, Nat.le_of_ble_eq_true rfl, Nat.le_of_ble_eq_true rfl⟩ 7 0 rfl rfl rfl hl.1 (Nat.le_of_ble_eq_true rfl) dX7_sayable_39 (fun H locs hP hD hS => ?_)
      refine lv_if_eq (tgt := 51) hx hb dX7_sayable_42 (by decide) (fun hc => ?_) (fun hc => ?_)
      · have hf := tc_pos hc hf
        refine lv_iinc (v := v3 + (1 : Int32)) (lv' := [(3, .int (v3 + (1 : Int32))), (0, .ref (q 0)), (1, .int (v1)), (2, .int (v2))]) hx hb dX7_sayable_51 hl (k := 3) rfl rfl (by decide) rfl (fun ls hl => ?_)
        refine lv_goto (tgt := 23) hx hb dX7_sayable_54 (by decide) ?_
        exact ih v1 v2 (v3 + (1 : Int32)) hf _ _ _ hP hD hS (lv_sub hl [1, 2, 3, 0] rfl)
      · have hf := tc_neg hc hf
        refine lv_iload_n hx hb dX7_sayable_45 rfl (lv_at hl 2 rfl) ?_
        refine lv_iconst (v := (1 : Int32)) hx hb dX7_sayable_46 (by decide) ?_
        refine lv_iload_n hx hb dX7_sayable_47 rfl (lv_at hl 3 rfl) ?_
        refine lv_ishl hx hb dX7_sayable_48 ?_
        refine lv_ior hx hb dX7_sayable_49 ?_
        refine lv_istore_n (lv' := [(2, .int (v2 ||| ((1 : Int32) <<< (v3 &&& 31)))), (0, .ref (q 0)), (1, .int (v1)), (3, .int (v3))]) hx hb dX7_sayable_50 rfl hl (by decide) rfl (fun ls hl => ?_)
        refine lv_iinc (v := v3 + (1 : Int32)) (lv' := [(3, .int (v3 + (1 : Int32))), (2, .int (v2 ||| ((1 : Int32) <<< (v3 &&& 31)))), (0, .ref (q 0)), (1, .int (v1))]) hx hb dX7_sayable_51 hl (k := 3) rfl rfl (by decide) rfl (fun ls hl => ?_)
        refine lv_goto (tgt := 23) hx hb dX7_sayable_54 (by decide) ?_
        exact ih v1 (v2 ||| ((1 : Int32) <<< (v3 &&& 31))) (v3 + (1 : Int32)) hf _ _ _ hP hD hS (lv_sub hl [2, 3, 1, 0] rfl)
set_option maxRecDepth 20000 in
theorem mX7_sayable {q : Nat → Nat}  {S : ms_T} {a1 : Int32} {z : Int32}  (hf : fX7_sayable S a1 = some z) : tc_MI l dC dI ca yX7_sayable cX7_sayable 4 (some .int) rmX7_sayable [.ref (q 0), .int (a1)] (w7 ca q S) (w7 ca q S) (z) := by
  refine tc_metI (own := RX7) (by decide) rfl ?_ (Nat.le_of_ble_eq_true rfl)
  intro p e s m below meth c A X hP hD hS ls hl
  obtain ⟨hx, hb, hr, hml, hown, hts, hlk, hK, hA, hG⟩ := id X
  unfold fX7_sayable at hf
  have hl : lv_has ls 4 [(0, .ref (q 0)), (1, .int (a1))] := hl
  refine lv_aload_n hx hb dX7_sayable_0 rfl (lv_at hl 0 rfl) ?_
  refine lv_iload_n hx hb dX7_sayable_1 rfl (lv_at hl 1 rfl) ?_
  obtain ⟨z1, hg, hf⟩ := tc_bi hf
  refine tc_iVs (As := [.int (a1)]) (rest := []) (b := q 0) X hP hD hS (mX7_isFalling hg) okX7_isFalling wl_X7_94 wi_X7_isFalling ws_X7_X7_isFalling_X7_isFalling ⟨rfl, rfl, Nat.le_of_ble_eq_true rfl, Nat.le_of_ble_eq_true rfl⟩ 7 0 rfl rfl rfl hl.1 (Nat.le_of_ble_eq_true rfl) dX7_sayable_2 (fun H locs hP hD hS => ?_)
  refine lv_if_ne (tgt := 17) hx hb dX7_sayable_5 (by decide) (fun hc => ?_) (fun hc => ?_)
  · have hf := tc_neg hc hf
    refine lv_iconst (v := (0 : Int32)) hx hb dX7_sayable_17 (by decide) ?_
    obtain rfl := Option.some.inj hf
    exact tc_ri X hP hD hS rfl dX7_sayable_18 rfl rfl
  · have hf := tc_pos hc hf
    refine lv_aload_n hx hb dX7_sayable_8 rfl (lv_at hl 0 rfl) ?_
    refine va_get (D := (dC, dI)) (ci := 7) (v := .ref (q 6)) (C := RX7) (T := TX7) (N := 18) hx hb hts i_X7 hown hK hP 0 rfl rfl 10 (by decide) (hts _ wf_X7_31) (fun _ h9 => h9) rfl dX7_sayable_9 ?_
    refine lv_iload_n hx hb dX7_sayable_12 rfl (lv_at hl 1 rfl) ?_
    obtain ⟨hi2, hf⟩ := tc_in hf
    refine va_iald hx hb hK hP 6 1 rfl rfl hi2 dX7_sayable_13 ?_
    refine lv_if_ne (tgt := 19) hx hb dX7_sayable_14 (by decide) (fun hc => ?_) (fun hc => ?_)
    · have hf := tc_neg hc hf
      refine lv_iconst (v := (0 : Int32)) hx hb dX7_sayable_19 (by decide) ?_
      refine lv_istore_n (lv' := [(2, .int ((0 : Int32))), (0, .ref (q 0)), (1, .int (a1))]) hx hb dX7_sayable_20 rfl hl (by decide) rfl (fun ls hl => ?_)
      refine lv_iconst (v := (0 : Int32)) hx hb dX7_sayable_21 (by decide) ?_
      refine lv_istore_n (lv' := [(3, .int ((0 : Int32))), (2, .int ((0 : Int32))), (0, .ref (q 0)), (1, .int (a1))]) hx hb dX7_sayable_22 rfl hl (by decide) rfl (fun ls hl => ?_)
      exact tX7_sayable_23 X z S FU a1 (0 : Int32) (0 : Int32) hf _ _ _ hP hD hS (lv_sub hl [2, 3, 1, 0] rfl)
    · have hf := tc_pos hc hf
      refine lv_iconst (v := (0 : Int32)) hx hb dX7_sayable_17 (by decide) ?_
      obtain rfl := Option.some.inj hf
      exact tc_ri X hP hD hS rfl dX7_sayable_18 rfl rfl
def fX7_standingBy_43  (S : ms_T) (k5 : Int32 → Int32 → Int32 → Int32 → Option (Int32)) (v1 : Int32) (v2 : Int32) (v3 : Int32) (v4 : Int32) (t0 : Int32) : Option (Int32) :=
  if v4 = v2 then
    k5 v1 v2 v3 (v4 + (1 : Int32))
  else
    if ((v1 >>> (v4 &&& 31)) &&& (1 : Int32)) = 0 then
      if t0 = 0 then
        k5 v1 v2 v3 (v4 + (1 : Int32))
      else
        k5 v1 v2 (v3 ||| ((1 : Int32) <<< (v4 &&& 31))) (v4 + (1 : Int32))
    else
      k5 v1 v2 (v3 ||| ((1 : Int32) <<< (v4 &&& 31))) (v4 + (1 : Int32))
def fX7_standingBy_5  (S : ms_T)  : Nat → Int32 → Int32 → Int32 → Int32 → Option (Int32)
  | 0, _, _, _, _ => none
  | n + 1, v1, v2, v3, v4 =>
    if (gi S 4) ≤ v4 then
      some (v3)
    else
      if inb v4 8 = true then
        if (ia S 4 v4) = 0 then
          fX7_standingBy_43 S (fX7_standingBy_5 S n) v1 v2 v3 v4 (0 : Int32)
        else
          if inb v4 8 = true then
            if ((ia S 4 v4) &&& (v3 ^^^ (-1 : Int32))) = 0 then
              fX7_standingBy_43 S (fX7_standingBy_5 S n) v1 v2 v3 v4 (1 : Int32)
            else
              fX7_standingBy_43 S (fX7_standingBy_5 S n) v1 v2 v3 v4 (0 : Int32)
          else none
      else none
def fX7_standingBy  (S : ms_T) (a1 : Int32) (a2 : Int32) : Option (Int32) :=
  fX7_standingBy_5 S FU a1 a2 (0 : Int32) (0 : Int32)
abbrev rmX7_standingBy : Room := { frames := 0, cells := 0, slots := 0, locals := 0 }
theorem okX7_standingBy : tc_ok yX7_standingBy cX7_standingBy 6 (some .int) 2 := ⟨wc_X7_standingBy, wn_X7, by decide, by decide, by decide +kernel⟩
set_option maxRecDepth 20000 in
theorem tX7_standingBy_43 {q : Nat → Nat}  (X : tc_X dC dI ca A RX7 cX7_standingBy 6 (some .int) p s m args meth c) (z : Int32)  (S : ms_T) (k5 : Int32 → Int32 → Int32 → Int32 → Option (Int32)) (hk5 : ∀ (v1 : Int32) (v2 : Int32) (v3 : Int32) (v4 : Int32), k5 v1 v2 v3 v4 = some z → ∀ (H : Heap) (locs : List Loc) (ls : Array Slot), va_P (dC, dI) classes (w7 ca q S) H → va_D A (w7 ca q S) → va_S A s.heap H locs → lv_has ls 6 [(0, .ref (q 0)), (1, .int (v1)), (2, .int (v2)), (3, .int (v3)), (4, .int (v4))] → W p l e rmX7_standingBy s m args below meth c H locs 0 0 (MQ below (tc_QI dC dI ca A (w7 ca q S) (z)) args s 0 0 A) (F0 m 5 ls [])) : ∀ (v1 : Int32) (v2 : Int32) (v3 : Int32) (v4 : Int32) (t0 : Int32), fX7_standingBy_43 S k5 v1 v2 v3 v4 t0 = some z → ∀ (H : Heap) (locs : List Loc) (ls : Array Slot), va_P (dC, dI) classes (w7 ca q S) H → va_D A (w7 ca q S) → va_S A s.heap H locs → lv_has ls 6 [(0, .ref (q 0)), (1, .int (v1)), (2, .int (v2)), (3, .int (v3)), (4, .int (v4))] → W p l e rmX7_standingBy s m args below meth c H locs 0 0 (MQ below (tc_QI dC dI ca A (w7 ca q S) (z)) args s 0 0 A) (F0 m 43 ls [.int (t0)]) := by
  obtain ⟨hx, hb, hr, hml, hown, hts, hlk, hK, hA, hG⟩ := id X
  intro v1 v2 v3 v4 t0 hf H locs ls hP hD hS hl
  unfold fX7_standingBy_43 at hf
  refine lv_istore (lv' := [(5, .int (t0)), (0, .ref (q 0)), (1, .int (v1)), (2, .int (v2)), (3, .int (v3)), (4, .int (v4))]) hx hb dX7_standingBy_43 hl (by decide) rfl (fun ls hl => ?_)
  refine lv_iload hx hb dX7_standingBy_45 (lv_at hl 5 rfl) ?_
  refine lv_iload_n hx hb dX7_standingBy_47 rfl (lv_at hl 3 rfl) ?_
  refine lv_icmp_eq (tgt := 72) hx hb dX7_standingBy_48 (by decide) (fun hc => ?_) (fun hc => ?_)
  · have hf := tc_pos hc hf
    refine lv_iinc (v := v4 + (1 : Int32)) (lv' := [(4, .int (v4 + (1 : Int32))), (5, .int (t0)), (0, .ref (q 0)), (1, .int (v1)), (2, .int (v2)), (3, .int (v3))]) hx hb dX7_standingBy_72 hl (k := 5) rfl rfl (by decide) rfl (fun ls hl => ?_)
    refine lv_goto (tgt := 5) hx hb dX7_standingBy_75 (by decide) ?_
    exact hk5 v1 v2 v3 (v4 + (1 : Int32)) hf _ _ _ hP hD hS (lv_sub hl [2, 3, 4, 5, 0] rfl)
  · have hf := tc_neg hc hf
    refine lv_iload_n hx hb dX7_standingBy_51 rfl (lv_at hl 2 rfl) ?_
    refine lv_iload hx hb dX7_standingBy_52 (lv_at hl 5 rfl) ?_
    refine lv_ishr hx hb dX7_standingBy_54 ?_
    refine lv_iconst (v := (1 : Int32)) hx hb dX7_standingBy_55 (by decide) ?_
    refine lv_iand hx hb dX7_standingBy_56 ?_
    refine lv_if_ne (tgt := 65) hx hb dX7_standingBy_57 (by decide) (fun hc => ?_) (fun hc => ?_)
    · have hf := tc_neg hc hf
      refine lv_iload_n hx hb dX7_standingBy_65 rfl (lv_at hl 4 rfl) ?_
      refine lv_iconst (v := (1 : Int32)) hx hb dX7_standingBy_66 (by decide) ?_
      refine lv_iload hx hb dX7_standingBy_67 (lv_at hl 5 rfl) ?_
      refine lv_ishl hx hb dX7_standingBy_69 ?_
      refine lv_ior hx hb dX7_standingBy_70 ?_
      refine lv_istore_n (lv' := [(3, .int (v3 ||| ((1 : Int32) <<< (v4 &&& 31)))), (5, .int (t0)), (0, .ref (q 0)), (1, .int (v1)), (2, .int (v2)), (4, .int (v4))]) hx hb dX7_standingBy_71 rfl hl (by decide) rfl (fun ls hl => ?_)
      refine lv_iinc (v := v4 + (1 : Int32)) (lv' := [(4, .int (v4 + (1 : Int32))), (3, .int (v3 ||| ((1 : Int32) <<< (v4 &&& 31)))), (5, .int (t0)), (0, .ref (q 0)), (1, .int (v1)), (2, .int (v2))]) hx hb dX7_standingBy_72 hl (k := 5) rfl rfl (by decide) rfl (fun ls hl => ?_)
      refine lv_goto (tgt := 5) hx hb dX7_standingBy_75 (by decide) ?_
      exact hk5 v1 v2 (v3 ||| ((1 : Int32) <<< (v4 &&& 31))) (v4 + (1 : Int32)) hf _ _ _ hP hD hS (lv_sub hl [3, 4, 5, 1, 0] rfl)
    · have hf := tc_pos hc hf
      refine lv_iload hx hb dX7_standingBy_60 (lv_at hl 0 rfl) ?_
      refine lv_if_eq (tgt := 72) hx hb dX7_standingBy_62 (by decide) (fun hc => ?_) (fun hc => ?_)
      · have hf := tc_pos hc hf
        refine lv_iinc (v := v4 + (1 : Int32)) (lv' := [(4, .int (v4 + (1 : Int32))), (5, .int (t0)), (0, .ref (q 0)), (1, .int (v1)), (2, .int (v2)), (3, .int (v3))]) hx hb dX7_standingBy_72 hl (k := 5) rfl rfl (by decide) rfl (fun ls hl => ?_)
        refine lv_goto (tgt := 5) hx hb dX7_standingBy_75 (by decide) ?_
        exact hk5 v1 v2 v3 (v4 + (1 : Int32)) hf _ _ _ hP hD hS (lv_sub hl [2, 3, 4, 5, 0] rfl)
      · have hf := tc_neg hc hf
        refine lv_iload_n hx hb dX7_standingBy_65 rfl (lv_at hl 4 rfl) ?_
        refine lv_iconst (v := (1 : Int32)) hx hb dX7_standingBy_66 (by decide) ?_
        refine lv_iload hx hb dX7_standingBy_67 (lv_at hl 5 rfl) ?_
        refine lv_ishl hx hb dX7_standingBy_69 ?_
        refine lv_ior hx hb dX7_standingBy_70 ?_
        refine lv_istore_n (lv' := [(3, .int (v3 ||| ((1 : Int32) <<< (v4 &&& 31)))), (5, .int (t0)), (0, .ref (q 0)), (1, .int (v1)), (2, .int (v2)), (4, .int (v4))]) hx hb dX7_standingBy_71 rfl hl (by decide) rfl (fun ls hl => ?_)
        refine lv_iinc (v := v4 + (1 : Int32)) (lv' := [(4, .int (v4 + (1 : Int32))), (3, .int (v3 ||| ((1 : Int32) <<< (v4 &&& 31)))), (5, .int (t0)), (0, .ref (q 0)), (1, .int (v1)), (2, .int (v2))]) hx hb dX7_standingBy_72 hl (k := 5) rfl rfl (by decide) rfl (fun ls hl => ?_)
        refine lv_goto (tgt := 5) hx hb dX7_standingBy_75 (by decide) ?_
        exact hk5 v1 v2 (v3 ||| ((1 : Int32) <<< (v4 &&& 31))) (v4 + (1 : Int32)) hf _ _ _ hP hD hS (lv_sub hl [3, 4, 5, 1, 0] rfl)
set_option maxRecDepth 20000 in
theorem tX7_standingBy_5 {q : Nat → Nat}  (X : tc_X dC dI ca A RX7 cX7_standingBy 6 (some .int) p s m args meth c) (z : Int32)  (S : ms_T)   : ∀ n : Nat, ∀ (v1 : Int32) (v2 : Int32) (v3 : Int32) (v4 : Int32), fX7_standingBy_5 S n v1 v2 v3 v4 = some z → ∀ (H : Heap) (locs : List Loc) (ls : Array Slot), va_P (dC, dI) classes (w7 ca q S) H → va_D A (w7 ca q S) → va_S A s.heap H locs → lv_has ls 6 [(0, .ref (q 0)), (1, .int (v1)), (2, .int (v2)), (3, .int (v3)), (4, .int (v4))] → W p l e rmX7_standingBy s m args below meth c H locs 0 0 (MQ below (tc_QI dC dI ca A (w7 ca q S) (z)) args s 0 0 A) (F0 m 5 ls []) := by
  obtain ⟨hx, hb, hr, hml, hown, hts, hlk, hK, hA, hG⟩ := id X
  intro n
  induction n with
  | zero => intro v1 v2 v3 v4 hf; exact absurd (show none = some z from hf) (fun h => by cases h)
  | succ n ih =>
    intro v1 v2 v3 v4 hf H locs ls hP hD hS hl
    rw [fX7_standingBy_5] at hf
    refine lv_iload hx hb dX7_standingBy_5 (lv_at hl 4 rfl) ?_
    refine lv_aload_n hx hb dX7_standingBy_7 rfl (lv_at hl 0 rfl) ?_
    refine va_get (D := (dC, dI)) (ci := 7) (v := .int (gi S 4)) (C := RX7) (T := TX7) (N := 18) hx hb hts i_X7 hown hK hP 0 rfl rfl 4 (by decide) (hts _ wf_X7_50) (fun _ h9 => h9) rfl dX7_standingBy_8 ?_
    refine lv_icmp_ge (tgt := 78) hx hb dX7_standingBy_11 (by decide) (fun hc => ?_) (fun hc => ?_)
    · have hf := tc_pos hc hf
      refine lv_iload_n hx hb dX7_standingBy_78 rfl (lv_at hl 3 rfl) ?_
      obtain rfl := Option.some.inj hf
      exact tc_ri X hP hD hS rfl dX7_standingBy_79 rfl rfl
    · have hf := tc_neg hc hf
      refine lv_aload_n hx hb dX7_standingBy_14 rfl (lv_at hl 0 rfl) ?_
      refine va_get (D := (dC, dI)) (ci := 7) (v := .ref (q 4)) (C := RX7) (T := TX7) (N := 18) hx hb hts i_X7 hown hK hP 0 rfl rfl 6 (by decide) (hts _ wf_X7_25) (fun _ h9 => h9) rfl dX7_standingBy_15 ?_
      refine lv_iload hx hb dX7_standingBy_18 (lv_at hl 4 rfl) ?_
      obtain ⟨hi1, hf⟩ := tc_in hf
      refine va_iald hx hb hK hP 4 1 rfl rfl hi1 dX7_standingBy_20 ?_
      refine lv_if_eq (tgt := 42) hx hb dX7_standingBy_21 (by decide) (fun hc => ?_) (fun hc => ?_)
      · have hf := tc_pos hc hf
        refine lv_iconst (v := (0 : Int32)) hx hb dX7_standingBy_42 (by decide) ?_
        exact tX7_standingBy_43 X z S (fX7_standingBy_5 S n) ih v1 v2 v3 v4 (0 : Int32) hf _ _ _ hP hD hS (lv_sub hl [0, 1, 2, 3, 4] rfl)
      · have hf := tc_neg hc hf
        refine lv_aload_n hx hb dX7_standingBy_24 rfl (lv_at hl 0 rfl) ?_
        refine va_get (D := (dC, dI)) (ci := 7) (v := .ref (q 4)) (C := RX7) (T := TX7) (N := 18) hx hb hts i_X7 hown hK hP 0 rfl rfl 6 (by decide) (hts _ wf_X7_25) (fun _ h9 => h9) rfl dX7_standingBy_25 ?_
        refine lv_iload hx hb dX7_standingBy_28 (lv_at hl 4 rfl) ?_
        obtain ⟨hi2, hf⟩ := tc_in hf
        refine va_iald hx hb hK hP 4 1 rfl rfl hi2 dX7_standingBy_30 ?_
        refine lv_iload_n hx hb dX7_standingBy_31 rfl (lv_at hl 3 rfl) ?_
        refine lv_iconst (v := (-1 : Int32)) hx hb dX7_standingBy_32 (by decide) ?_
        refine lv_ixor hx hb dX7_standingBy_33 ?_
        refine lv_iand hx hb dX7_standingBy_34 ?_
        refine lv_if_ne (tgt := 42) hx hb dX7_standingBy_35 (by decide) (fun hc => ?_) (fun hc => ?_)
        · have hf := tc_neg hc hf
          refine lv_iconst (v := (0 : Int32)) hx hb dX7_standingBy_42 (by decide) ?_
          exact tX7_standingBy_43 X z S (fX7_standingBy_5 S n) ih v1 v2 v3 v4 (0 : Int32) hf _ _ _ hP hD hS (lv_sub hl [0, 1, 2, 3, 4] rfl)
        · have hf := tc_pos hc hf
          refine lv_iconst (v := (1 : Int32)) hx hb dX7_standingBy_38 (by decide) ?_
          refine lv_goto (tgt := 43) hx hb dX7_standingBy_39 (by decide) ?_
          exact tX7_standingBy_43 X z S (fX7_standingBy_5 S n) ih v1 v2 v3 v4 (1 : Int32) hf _ _ _ hP hD hS (lv_sub hl [0, 1, 2, 3, 4] rfl)
set_option maxRecDepth 20000 in
theorem mX7_standingBy {q : Nat → Nat}  {S : ms_T} {a1 : Int32} {a2 : Int32} {z : Int32}  (hf : fX7_standingBy S a1 a2 = some z) : tc_MI l dC dI ca yX7_standingBy cX7_standingBy 6 (some .int) rmX7_standingBy [.ref (q 0), .int (a1), .int (a2)] (w7 ca q S) (w7 ca q S) (z) := by
  refine tc_metI (own := RX7) (by decide) rfl ?_ (Nat.le_of_ble_eq_true rfl)
  intro p e s m below meth c A X hP hD hS ls hl
  obtain ⟨hx, hb, hr, hml, hown, hts, hlk, hK, hA, hG⟩ := id X
  unfold fX7_standingBy at hf
  have hl : lv_has ls 6 [(0, .ref (q 0)), (1, .int (a1)), (2, .int (a2))] := hl
  refine lv_iconst (v := (0 : Int32)) hx hb dX7_standingBy_0 (by decide) ?_
  refine lv_istore_n (lv' := [(3, .int ((0 : Int32))), (0, .ref (q 0)), (1, .int (a1)), (2, .int (a2))]) hx hb dX7_standingBy_1 rfl hl (by decide) rfl (fun ls hl => ?_)
  refine lv_iconst (v := (0 : Int32)) hx hb dX7_standingBy_2 (by decide) ?_
  refine lv_istore (lv' := [(4, .int ((0 : Int32))), (3, .int ((0 : Int32))), (0, .ref (q 0)), (1, .int (a1)), (2, .int (a2))]) hx hb dX7_standingBy_3 hl (by decide) rfl (fun ls hl => ?_)
  exact tX7_standingBy_5 X z S FU a1 a2 (0 : Int32) (0 : Int32) hf _ _ _ hP hD hS (lv_sub hl [2, 3, 4, 1, 0] rfl)
def fX7_standing  (S : ms_T)  : Option (Int32) :=
  (fX7_standingBy S (gi S 7) (-1 : Int32)).bind fun z1 =>
  some (z1)
abbrev rmX7_standing : Room := { frames := 1, cells := 0, slots := 0, locals := 25 }
theorem okX7_standing : tc_ok yX7_standing cX7_standing 1 (some .int) 0 := ⟨wc_X7_standing, wn_X7, by decide, by decide, by decide +kernel⟩
set_option maxRecDepth 20000 in
theorem mX7_standing {q : Nat → Nat}  {S : ms_T}  {z : Int32}  (hf : fX7_standing S = some z) : tc_MI l dC dI ca yX7_standing cX7_standing 1 (some .int) rmX7_standing [.ref (q 0)] (w7 ca q S) (w7 ca q S) (z) := by
  refine tc_metI (own := RX7) (by decide) rfl ?_ (Nat.le_of_ble_eq_true rfl)
  intro p e s m below meth c A X hP hD hS ls hl
  obtain ⟨hx, hb, hr, hml, hown, hts, hlk, hK, hA, hG⟩ := id X
  unfold fX7_standing at hf
  have hl : lv_has ls 1 [(0, .ref (q 0))] := hl
  refine lv_aload_n hx hb dX7_standing_0 rfl (lv_at hl 0 rfl) ?_
  refine lv_aload_n hx hb dX7_standing_1 rfl (lv_at hl 0 rfl) ?_
  refine va_get (D := (dC, dI)) (ci := 7) (v := .int (gi S 7)) (C := RX7) (T := TX7) (N := 18) hx hb hts i_X7 hown hK hP 0 rfl rfl 7 (by decide) (hts _ wf_X7_53) (fun _ h9 => h9) rfl dX7_standing_2 ?_
  refine lv_iconst (v := (-1 : Int32)) hx hb dX7_standing_5 (by decide) ?_
  obtain ⟨z1, hg, hf⟩ := tc_bi hf
  refine tc_iVs (As := [.int (gi S 7), .int ((-1 : Int32))]) (rest := []) (b := q 0) X hP hD hS (mX7_standingBy hg) okX7_standingBy wl_X7_80 wi_X7_standingBy ws_X7_X7_standingBy_X7_standingBy ⟨rfl, rfl, Nat.le_of_ble_eq_true rfl, Nat.le_of_ble_eq_true rfl⟩ 7 0 rfl rfl rfl hl.1 (Nat.le_of_ble_eq_true rfl) dX7_standing_6 (fun H locs hP hD hS => ?_)
  obtain rfl := Option.some.inj hf
  exact tc_ri X hP hD hS rfl dX7_standing_9 rfl rfl
theorem aw7_0_6 (ca : Nat → ClassId) (q0 : Nat → Nat) (S0 : ms_T) (i v : Int32) : (w7 ca q0 S0 : va_W).set 6 (q0 6, .inl (ca 1, 6, .inl (upd (ra S0 6) i.toNatClampNeg v))) = w7 ca q0 (sa S0 6 i v) := rfl
theorem pw7_0_16 (ca : Nat → ClassId) (q0 : Nat → Nat) (S0 : ms_T) (v : Int32) : (w7 ca q0 S0 : va_W).set 0 (q0 0, .inr (7, List.set (.int (gi S0 0) :: .int (gi S0 1) :: .ref (q0 1) :: .ref (q0 2) :: .int (gi S0 4) :: .ref (q0 3) :: .ref (q0 4) :: .int (gi S0 7) :: .int (gi S0 8) :: .ref (q0 5) :: .ref (q0 6) :: .ref (q0 7) :: .int (gi S0 12) :: .int (gi S0 13) :: .ref (q0 8) :: .ref (q0 9) :: .int (gi S0 16) :: .ref (q0 10) :: []) 16 (.int v))) = w7 ca q0 (si S0 16 v) := rfl
theorem pw7_0_12 (ca : Nat → ClassId) (q0 : Nat → Nat) (S0 : ms_T) (v : Int32) : (w7 ca q0 S0 : va_W).set 0 (q0 0, .inr (7, List.set (.int (gi S0 0) :: .int (gi S0 1) :: .ref (q0 1) :: .ref (q0 2) :: .int (gi S0 4) :: .ref (q0 3) :: .ref (q0 4) :: .int (gi S0 7) :: .int (gi S0 8) :: .ref (q0 5) :: .ref (q0 6) :: .ref (q0 7) :: .int (gi S0 12) :: .int (gi S0 13) :: .ref (q0 8) :: .ref (q0 9) :: .int (gi S0 16) :: .ref (q0 10) :: []) 12 (.int v))) = w7 ca q0 (si S0 12 v) := rfl
def fX7_letSay  (S : ms_T) (a1 : Int32) (a2 : Int32) : Option (ms_T) :=
  (fX7_heightOf S a2).bind fun z1 =>
  if inb a1 6 = true then
    (fX7_standing (si (sa S 6 a1 z1) 16 ((gi (sa S 6 a1 z1) 16) + (1 : Int32)))).bind fun z3 =>
    if ((z3 >>> (a2 &&& 31)) &&& (1 : Int32)) = 0 then
      some (si (si (sa S 6 a1 z1) 16 ((gi (sa S 6 a1 z1) 16) + (1 : Int32))) 12 ((gi (si (sa S 6 a1 z1) 16 ((gi (sa S 6 a1 z1) 16) + (1 : Int32))) 12) ||| ((1 : Int32) <<< (a1 &&& 31))))
    else
      some (si (sa S 6 a1 z1) 16 ((gi (sa S 6 a1 z1) 16) + (1 : Int32)))
  else none
abbrev rmX7_letSay : Room := { frames := 2, cells := 0, slots := 0, locals := 45 }
theorem okX7_letSay : tc_ok yX7_letSay cX7_letSay 3 none 2 := ⟨wc_X7_letSay, wn_X7, by decide, by decide, by decide +kernel⟩
set_option maxRecDepth 20000 in
theorem mX7_letSay {q : Nat → Nat}  {S : ms_T} {a1 : Int32} {a2 : Int32} {z : ms_T}  (hf : fX7_letSay S a1 a2 = some z) : tc_MV l dC dI ca yX7_letSay cX7_letSay 3 none rmX7_letSay [.ref (q 0), .int (a1), .int (a2)] (w7 ca q S) (w7 ca q z) := by
  refine tc_metV (own := RX7) (by decide) rfl ?_ (Nat.le_of_ble_eq_true rfl)
  intro p e s m below meth c A X hP hD hS ls hl
  obtain ⟨hx, hb, hr, hml, hown, hts, hlk, hK, hA, hG⟩ := id X
  unfold fX7_letSay at hf
  have hl : lv_has ls 3 [(0, .ref (q 0)), (1, .int (a1)), (2, .int (a2))] := hl
  refine lv_aload_n hx hb dX7_letSay_0 rfl (lv_at hl 0 rfl) ?_
  refine va_get (D := (dC, dI)) (ci := 7) (v := .ref (q 6)) (C := RX7) (T := TX7) (N := 18) hx hb hts i_X7 hown hK hP 0 rfl rfl 10 (by decide) (hts _ wf_X7_31) (fun _ h9 => h9) rfl dX7_letSay_1 ?_
  refine lv_iload_n hx hb dX7_letSay_4 rfl (lv_at hl 1 rfl) ?_
  refine lv_aload_n hx hb dX7_letSay_5 rfl (lv_at hl 0 rfl) ?_
  refine lv_iload_n hx hb dX7_letSay_6 rfl (lv_at hl 2 rfl) ?_
  obtain ⟨z1, hg, hf⟩ := tc_bi hf
  refine tc_iVs (As := [.int (a2)]) (rest := [.int (a1), .ref (q 6)]) (b := q 0) X hP hD hS (mX7_heightOf hg) okX7_heightOf wl_X7_87 wi_X7_heightOf ws_X7_X7_heightOf_X7_heightOf ⟨rfl, rfl, Nat.le_of_ble_eq_true rfl, Nat.le_of_ble_eq_true rfl⟩ 7 0 rfl rfl rfl hl.1 (Nat.le_of_ble_eq_true rfl) dX7_letSay_7 (fun H locs hP hD hS => ?_)
  obtain ⟨hi2, hf⟩ := tc_in hf
  refine va_iast hx hb hK hP hD hS 6 1 rfl rfl hi2 dX7_letSay_10 (fun H locs hP hD hS => ?_)
  have hP := tc_eP (aw7_0_6 ca q S a1 z1) hP
  have hD := tc_eD (aw7_0_6 ca q S a1 z1) hD
  refine lv_aload_n hx hb dX7_letSay_11 rfl (lv_at hl 0 rfl) ?_
  refine lv_dup hx hb dX7_letSay_12 rfl ?_
  refine va_get (D := (dC, dI)) (ci := 7) (v := .int (gi (sa S 6 a1 z1) 16)) (C := RX7) (T := TX7) (N := 18) hx hb hts i_X7 hown hK hP 0 rfl rfl 16 (by decide) (hts _ wf_X7_65) (fun _ h9 => h9) rfl dX7_letSay_13 ?_
  refine lv_iconst (v := (1 : Int32)) hx hb dX7_letSay_16 (by decide) ?_
  refine lv_iadd hx hb dX7_letSay_17 ?_
  refine va_put (D := (dC, dI)) (ci := 7) (v := .int ((gi (sa S 6 a1 z1) 16) + (1 : Int32))) (ty := .int) (C := RX7) (T := TX7) (N := 18) hx hb hts i_X7 tyX7 tyX7_ok nmX7 hown hK hP hD hS 0 rfl rfl 16 (by decide) (hts _ wf_X7_65) (fun _ h9 => h9) rfl (tyX7_ok 16 (by decide)) rfl rfl (Nat.le_of_ble_eq_true rfl) dX7_letSay_18 (fun H locs hP hD hS => ?_)
  have hP := tc_eP (pw7_0_16 ca q (sa S 6 a1 z1) ((gi (sa S 6 a1 z1) 16) + (1 : Int32))) hP
  have hD := tc_eD (pw7_0_16 ca q (sa S 6 a1 z1) ((gi (sa S 6 a1 z1) 16) + (1 : Int32))) hD
  refine lv_aload_n hx hb dX7_letSay_21 rfl (lv_at hl 0 rfl) ?_
  obtain ⟨z3, hg, hf⟩ := tc_bi hf
  refine tc_iVs (As := []) (rest := []) (b := q 0) X hP hD hS (mX7_standing hg) okX7_standing wl_X7_83 wi_X7_standing ws_X7_X7_standing_X7_standing ⟨rfl, rfl, Nat.le_of_ble_eq_true rfl, Nat.le_of_ble_eq_true rfl⟩ 7 0 rfl rfl rfl hl.1 (Nat.le_of_ble_eq_true rfl) dX7_letSay_22 (fun H locs hP hD hS => ?_)
  refine lv_iload_n hx hb dX7_letSay_25 rfl (lv_at hl 2 rfl) ?_
  refine lv_ishr hx hb dX7_letSay_26 ?_
  refine lv_iconst (v := (1 : Int32)) hx hb dX7_letSay_27 (by decide) ?_
  refine lv_iand hx hb dX7_letSay_28 ?_
  refine lv_if_ne (tgt := 44) hx hb dX7_letSay_29 (by decide) (fun hc => ?_) (fun hc => ?_)
  · have hf := tc_neg hc hf
    obtain rfl := Option.some.inj hf
    exact tc_rv X hP hD hS rfl dX7_letSay_44 rfl
  · have hf := tc_pos hc hf
    refine lv_aload_n hx hb dX7_letSay_32 rfl (lv_at hl 0 rfl) ?_
    refine lv_dup hx hb dX7_letSay_33 rfl ?_
    refine va_get (D := (dC, dI)) (ci := 7) (v := .int (gi (si (sa S 6 a1 z1) 16 ((gi (sa S 6 a1 z1) 16) + (1 : Int32))) 12)) (C := RX7) (T := TX7) (N := 18) hx hb hts i_X7 hown hK hP 0 rfl rfl 12 (by decide) (hts _ wf_X7_59) (fun _ h9 => h9) rfl dX7_letSay_34 ?_
    refine lv_iconst (v := (1 : Int32)) hx hb dX7_letSay_37 (by decide) ?_
    refine lv_iload_n hx hb dX7_letSay_38 rfl (lv_at hl 1 rfl) ?_
    refine lv_ishl hx hb dX7_letSay_39 ?_
    refine lv_ior hx hb dX7_letSay_40 ?_
    refine va_put (D := (dC, dI)) (ci := 7) (v := .int ((gi (si (sa S 6 a1 z1) 16 ((gi (sa S 6 a1 z1) 16) + (1 : Int32))) 12) ||| ((1 : Int32) <<< (a1 &&& 31)))) (ty := .int) (C := RX7) (T := TX7) (N := 18) hx hb hts i_X7 tyX7 tyX7_ok nmX7 hown hK hP hD hS 0 rfl rfl 12 (by decide) (hts _ wf_X7_59) (fun _ h9 => h9) rfl (tyX7_ok 12 (by decide)) rfl rfl (Nat.le_of_ble_eq_true rfl) dX7_letSay_41 (fun H locs hP hD hS => ?_)
    have hP := tc_eP (pw7_0_12 ca q (si (sa S 6 a1 z1) 16 ((gi (sa S 6 a1 z1) 16) + (1 : Int32))) ((gi (si (sa S 6 a1 z1) 16 ((gi (sa S 6 a1 z1) 16) + (1 : Int32))) 12) ||| ((1 : Int32) <<< (a1 &&& 31)))) hP
    have hD := tc_eD (pw7_0_12 ca q (si (sa S 6 a1 z1) 16 ((gi (sa S 6 a1 z1) 16) + (1 : Int32))) ((gi (si (sa S 6 a1 z1) 16 ((gi (sa S 6 a1 z1) 16) + (1 : Int32))) 12) ||| ((1 : Int32) <<< (a1 &&& 31)))) hD
    obtain rfl := Option.some.inj hf
    exact tc_rv X hP hD hS rfl dX7_letSay_44 rfl
theorem pw0_7_0_6 (ca : Nat → ClassId) (q0 q1 : Nat → Nat) (r0_0 r0_1 : Value) (S0 S1 : ms_T) (v : Int32) : (w0 ca q0 r0_0 r0_1 S0 ++ w7 ca q1 S1 : va_W).set 0 (q0 0, .inr (0, List.set (r0_0 :: r0_1 :: .int (gi S0 2) :: .ref (q0 1) :: .int (gi S0 4) :: .int (gi S0 5) :: .int (gi S0 6) :: .int (gi S0 7) :: .int (gi S0 8) :: .int (gi S0 9) :: []) 6 (.int v))) = w0 ca q0 r0_0 r0_1 (si S0 6 v) ++ w7 ca q1 S1 := rfl
theorem pw0_7_0_7 (ca : Nat → ClassId) (q0 q1 : Nat → Nat) (r0_0 r0_1 : Value) (S0 S1 : ms_T) (v : Int32) : (w0 ca q0 r0_0 r0_1 S0 ++ w7 ca q1 S1 : va_W).set 0 (q0 0, .inr (0, List.set (r0_0 :: r0_1 :: .int (gi S0 2) :: .ref (q0 1) :: .int (gi S0 4) :: .int (gi S0 5) :: .int (gi S0 6) :: .int (gi S0 7) :: .int (gi S0 8) :: .int (gi S0 9) :: []) 7 (.int v))) = w0 ca q0 r0_0 r0_1 (si S0 7 v) ++ w7 ca q1 S1 := rfl
theorem pw0_7_0_5 (ca : Nat → ClassId) (q0 q1 : Nat → Nat) (r0_0 r0_1 : Value) (S0 S1 : ms_T) (v : Int32) : (w0 ca q0 r0_0 r0_1 S0 ++ w7 ca q1 S1 : va_W).set 0 (q0 0, .inr (0, List.set (r0_0 :: r0_1 :: .int (gi S0 2) :: .ref (q0 1) :: .int (gi S0 4) :: .int (gi S0 5) :: .int (gi S0 6) :: .int (gi S0 7) :: .int (gi S0 8) :: .int (gi S0 9) :: []) 5 (.int v))) = w0 ca q0 r0_0 r0_1 (si S0 5 v) ++ w7 ca q1 S1 := rfl
def fX0_doSay  (SV : ms_T) (ST : ms_T) (a1 : Int32) (a2 : Int32) : Option (ms_T × ms_T) :=
  (fX7_sayable ST a1).bind fun z1 =>
  if ((z1 >>> (a2 &&& 31)) &&& (1 : Int32)) = 0 then
    some (si SV 5 ((gi SV 5) + (1 : Int32)), ST)
  else
    (fX7_letSay ST a1 a2).bind fun z2 =>
    (fX7_isFalling z2 a1).bind fun z3 =>
    if z3 = 0 then
      some (si SV 6 ((gi SV 6) + (1 : Int32)), z2)
    else
      some (si (si SV 6 ((gi SV 6) + (1 : Int32))) 7 ((gi (si SV 6 ((gi SV 6) + (1 : Int32))) 7) + (1 : Int32)), z2)
abbrev rmX0_doSay : Room := { frames := 3, cells := 0, slots := 0, locals := 68 }
theorem okX0_doSay : tc_ok yX0_doSay cX0_doSay 3 none 2 := ⟨wc_X0_doSay, wn_X0, by decide, by decide, by decide +kernel⟩
set_option maxRecDepth 20000 in
theorem mX0_doSay {qV : Nat → Nat} {qT : Nat → Nat} {rV1 : Value} {SV : ms_T} {ST : ms_T} {a1 : Int32} {a2 : Int32} {z : ms_T × ms_T}  (hf : fX0_doSay SV ST a1 a2 = some z) : tc_MV l dC dI ca yX0_doSay cX0_doSay 3 none rmX0_doSay [.ref (qV 0), .int (a1), .int (a2)] (w0 ca qV (.ref (qT 0)) (rV1) SV ++ w7 ca qT ST) (w0 ca qV (.ref (qT 0)) (rV1) z.1 ++ w7 ca qT z.2) := by
  refine tc_metV (own := RX0) (by decide) rfl ?_ (Nat.le_of_ble_eq_true rfl)
  intro p e s m below meth c A X hP hD hS ls hl
  obtain ⟨hx, hb, hr, hml, hown, hts, hlk, hK, hA, hG⟩ := id X
  unfold fX0_doSay at hf
  have hl : lv_has ls 3 [(0, .ref (qV 0)), (1, .int (a1)), (2, .int (a2))] := hl
  refine lv_aload_n hx hb dX0_doSay_0 rfl (lv_at hl 0 rfl) ?_
  refine va_get (D := (dC, dI)) (ci := 0) (v := .ref (qT 0)) (C := RX0) (T := TX0) (N := 10) hx hb hts i_X0 hown hK hP 0 rfl rfl 0 (by decide) (hts _ wf_X0_15) (fun _ h9 => h9) rfl dX0_doSay_1 ?_
  refine lv_iload_n hx hb dX0_doSay_4 rfl (lv_at hl 1 rfl) ?_
  obtain ⟨z1, hg, hf⟩ := tc_bi hf
  refine tc_iV (As := [.int (a1)]) (rest := []) (b := qT 0) (wc := w7 ca qT ST) (wr := w0 ca qV (.ref (qT 0)) (rV1) SV) X hP hD hS (mX7_sayable hg) okX7_sayable wl_X0_94 wi_X7_sayable ws_X7_X7_sayable_X7_sayable ⟨rfl, rfl, Nat.le_of_ble_eq_true rfl, Nat.le_of_ble_eq_true rfl⟩ 7 0 rfl rfl [2, 3, 4, 5, 6, 7, 8, 9, 10, 11, 12] [0, 1] ⟨rfl, rfl, rfl, rfl, by decide⟩ rfl hl.1 (Nat.le_of_ble_eq_true rfl) dX0_doSay_5 (fun H locs hP hD hS => ?_)
  have hP := hP.sub (ws' := (w0 ca qV (.ref (qT 0)) (rV1) SV ++ w7 ca qT ST)) [0, 1, 2, 3, 4, 5, 6, 7, 8, 9, 10, 11, 12] rfl
  have hD := hD.sub (ws' := (w0 ca qV (.ref (qT 0)) (rV1) SV ++ w7 ca qT ST)) [0, 1, 2, 3, 4, 5, 6, 7, 8, 9, 10, 11, 12] rfl rfl
  refine lv_iload_n hx hb dX0_doSay_8 rfl (lv_at hl 2 rfl) ?_
  refine lv_ishr hx hb dX0_doSay_9 ?_
  refine lv_iconst (v := (1 : Int32)) hx hb dX0_doSay_10 (by decide) ?_
  refine lv_iand hx hb dX0_doSay_11 ?_
  refine lv_if_ne (tgt := 26) hx hb dX0_doSay_12 (by decide) (fun hc => ?_) (fun hc => ?_)
  · have hf := tc_neg hc hf
    refine lv_aload_n hx hb dX0_doSay_26 rfl (lv_at hl 0 rfl) ?_
    refine va_get (D := (dC, dI)) (ci := 0) (v := .ref (qT 0)) (C := RX0) (T := TX0) (N := 10) hx hb hts i_X0 hown hK hP 0 rfl rfl 0 (by decide) (hts _ wf_X0_15) (fun _ h9 => h9) rfl dX0_doSay_27 ?_
    refine lv_iload_n hx hb dX0_doSay_30 rfl (lv_at hl 1 rfl) ?_
    refine lv_iload_n hx hb dX0_doSay_31 rfl (lv_at hl 2 rfl) ?_
    obtain ⟨z2, hg, hf⟩ := tc_bi hf
    refine tc_vV (As := [.int (a1), .int (a2)]) (rest := []) (b := qT 0) (wc := w7 ca qT ST) (wr := w0 ca qV (.ref (qT 0)) (rV1) SV) X hP hD hS (mX7_letSay hg) okX7_letSay wl_X0_99 wi_X7_letSay ws_X7_X7_letSay_X7_letSay ⟨rfl, rfl, Nat.le_of_ble_eq_true rfl, Nat.le_of_ble_eq_true rfl⟩ 7 0 rfl rfl [2, 3, 4, 5, 6, 7, 8, 9, 10, 11, 12] [0, 1] ⟨rfl, rfl, rfl, rfl, by decide⟩ rfl hl.1 (Nat.le_of_ble_eq_true rfl) dX0_doSay_32 (fun H locs hP hD hS => ?_)
    have hP := hP.sub (ws' := (w0 ca qV (.ref (qT 0)) (rV1) SV ++ w7 ca qT z2)) [0, 1, 2, 3, 4, 5, 6, 7, 8, 9, 10, 11, 12] rfl
    have hD := hD.sub (ws' := (w0 ca qV (.ref (qT 0)) (rV1) SV ++ w7 ca qT z2)) [0, 1, 2, 3, 4, 5, 6, 7, 8, 9, 10, 11, 12] rfl rfl
    refine lv_aload_n hx hb dX0_doSay_35 rfl (lv_at hl 0 rfl) ?_
    refine lv_dup hx hb dX0_doSay_36 rfl ?_
    refine va_get (D := (dC, dI)) (ci := 0) (v := .int (gi SV 6)) (C := RX0) (T := TX0) (N := 10) hx hb hts i_X0 hown hK hP 0 rfl rfl 6 (by decide) (hts _ wf_X0_33) (fun _ h9 => h9) rfl dX0_doSay_37 ?_
    refine lv_iconst (v := (1 : Int32)) hx hb dX0_doSay_40 (by decide) ?_
    refine lv_iadd hx hb dX0_doSay_41 ?_
    refine va_put (D := (dC, dI)) (ci := 0) (v := .int ((gi SV 6) + (1 : Int32))) (ty := .int) (C := RX0) (T := TX0) (N := 10) hx hb hts i_X0 tyX0 tyX0_ok nmX0 hown hK hP hD hS 0 rfl rfl 6 (by decide) (hts _ wf_X0_33) (fun _ h9 => h9) rfl (tyX0_ok 6 (by decide)) rfl rfl (Nat.le_of_ble_eq_true rfl) dX0_doSay_42 (fun H locs hP hD hS => ?_)
    have hP := tc_eP (pw0_7_0_6 ca qV qT (.ref (qT 0)) (rV1) SV z2 ((gi SV 6) + (1 : Int32))) hP
    have hD := tc_eD (pw0_7_0_6 ca qV qT (.ref (qT 0)) (rV1) SV z2 ((gi SV 6) + (1 : Int32))) hD
    refine lv_aload_n hx hb dX0_doSay_45 rfl (lv_at hl 0 rfl) ?_
    refine va_get (D := (dC, dI)) (ci := 0) (v := .ref (qT 0)) (C := RX0) (T := TX0) (N := 10) hx hb hts i_X0 hown hK hP 0 rfl rfl 0 (by decide) (hts _ wf_X0_15) (fun _ h9 => h9) rfl dX0_doSay_46 ?_
    refine lv_iload_n hx hb dX0_doSay_49 rfl (lv_at hl 1 rfl) ?_
    obtain ⟨z3, hg, hf⟩ := tc_bi hf
    refine tc_iV (As := [.int (a1)]) (rest := []) (b := qT 0) (wc := w7 ca qT z2) (wr := w0 ca qV (.ref (qT 0)) (rV1) (si SV 6 ((gi SV 6) + (1 : Int32)))) X hP hD hS (mX7_isFalling hg) okX7_isFalling wl_X0_102 wi_X7_isFalling ws_X7_X7_isFalling_X7_isFalling ⟨rfl, rfl, Nat.le_of_ble_eq_true rfl, Nat.le_of_ble_eq_true rfl⟩ 7 0 rfl rfl [2, 3, 4, 5, 6, 7, 8, 9, 10, 11, 12] [0, 1] ⟨rfl, rfl, rfl, rfl, by decide⟩ rfl hl.1 (Nat.le_of_ble_eq_true rfl) dX0_doSay_50 (fun H locs hP hD hS => ?_)
    have hP := hP.sub (ws' := (w0 ca qV (.ref (qT 0)) (rV1) (si SV 6 ((gi SV 6) + (1 : Int32))) ++ w7 ca qT z2)) [0, 1, 2, 3, 4, 5, 6, 7, 8, 9, 10, 11, 12] rfl
    have hD := hD.sub (ws' := (w0 ca qV (.ref (qT 0)) (rV1) (si SV 6 ((gi SV 6) + (1 : Int32))) ++ w7 ca qT z2)) [0, 1, 2, 3, 4, 5, 6, 7, 8, 9, 10, 11, 12] rfl rfl
    refine lv_if_eq (tgt := 66) hx hb dX0_doSay_53 (by decide) (fun hc => ?_) (fun hc => ?_)
    · have hf := tc_pos hc hf
      obtain rfl := Option.some.inj hf
      exact tc_rv X hP hD hS rfl dX0_doSay_66 rfl
    · have hf := tc_neg hc hf
      refine lv_aload_n hx hb dX0_doSay_56 rfl (lv_at hl 0 rfl) ?_
      refine lv_dup hx hb dX0_doSay_57 rfl ?_
      refine va_get (D := (dC, dI)) (ci := 0) (v := .int (gi (si SV 6 ((gi SV 6) + (1 : Int32))) 7)) (C := RX0) (T := TX0) (N := 10) hx hb hts i_X0 hown hK hP 0 rfl rfl 7 (by decide) (hts _ wf_X0_36) (fun _ h9 => h9) rfl dX0_doSay_58 ?_
      refine lv_iconst (v := (1 : Int32)) hx hb dX0_doSay_61 (by decide) ?_
      refine lv_iadd hx hb dX0_doSay_62 ?_
      refine va_put (D := (dC, dI)) (ci := 0) (v := .int ((gi (si SV 6 ((gi SV 6) + (1 : Int32))) 7) + (1 : Int32))) (ty := .int) (C := RX0) (T := TX0) (N := 10) hx hb hts i_X0 tyX0 tyX0_ok nmX0 hown hK hP hD hS 0 rfl rfl 7 (by decide) (hts _ wf_X0_36) (fun _ h9 => h9) rfl (tyX0_ok 7 (by decide)) rfl rfl (Nat.le_of_ble_eq_true rfl) dX0_doSay_63 (fun H locs hP hD hS => ?_)
      have hP := tc_eP (pw0_7_0_7 ca qV qT (.ref (qT 0)) (rV1) (si SV 6 ((gi SV 6) + (1 : Int32))) z2 ((gi (si SV 6 ((gi SV 6) + (1 : Int32))) 7) + (1 : Int32))) hP
      have hD := tc_eD (pw0_7_0_7 ca qV qT (.ref (qT 0)) (rV1) (si SV 6 ((gi SV 6) + (1 : Int32))) z2 ((gi (si SV 6 ((gi SV 6) + (1 : Int32))) 7) + (1 : Int32))) hD
      obtain rfl := Option.some.inj hf
      exact tc_rv X hP hD hS rfl dX0_doSay_66 rfl
  · have hf := tc_pos hc hf
    refine lv_aload_n hx hb dX0_doSay_15 rfl (lv_at hl 0 rfl) ?_
    refine lv_dup hx hb dX0_doSay_16 rfl ?_
    refine va_get (D := (dC, dI)) (ci := 0) (v := .int (gi SV 5)) (C := RX0) (T := TX0) (N := 10) hx hb hts i_X0 hown hK hP 0 rfl rfl 5 (by decide) (hts _ wf_X0_30) (fun _ h9 => h9) rfl dX0_doSay_17 ?_
    refine lv_iconst (v := (1 : Int32)) hx hb dX0_doSay_20 (by decide) ?_
    refine lv_iadd hx hb dX0_doSay_21 ?_
    refine va_put (D := (dC, dI)) (ci := 0) (v := .int ((gi SV 5) + (1 : Int32))) (ty := .int) (C := RX0) (T := TX0) (N := 10) hx hb hts i_X0 tyX0 tyX0_ok nmX0 hown hK hP hD hS 0 rfl rfl 5 (by decide) (hts _ wf_X0_30) (fun _ h9 => h9) rfl (tyX0_ok 5 (by decide)) rfl rfl (Nat.le_of_ble_eq_true rfl) dX0_doSay_22 (fun H locs hP hD hS => ?_)
    have hP := tc_eP (pw0_7_0_5 ca qV qT (.ref (qT 0)) (rV1) SV ST ((gi SV 5) + (1 : Int32))) hP
    have hD := tc_eD (pw0_7_0_5 ca qV qT (.ref (qT 0)) (rV1) SV ST ((gi SV 5) + (1 : Int32))) hD
    obtain rfl := Option.some.inj hf
    exact tc_rv X hP hD hS rfl dX0_doSay_25 rfl
def fX7_letDrop  (S : ms_T) (a1 : Int32) (a2 : Int32) : Option (ms_T) :=
  if inb a1 6 = true then
    if inb a1 6 = true then
      if inb a1 6 = true then
        if (ia (sa S 6 a1 (jmax (0 : Int32) ((ia S 6 a1) - a2))) 6 a1) = 0 then
          some (si (sa S 6 a1 (jmax (0 : Int32) ((ia S 6 a1) - a2))) 12 ((gi (sa S 6 a1 (jmax (0 : Int32) ((ia S 6 a1) - a2))) 12) &&& (((1 : Int32) <<< (a1 &&& 31)) ^^^ (-1 : Int32))))
        else
          some (sa S 6 a1 (jmax (0 : Int32) ((ia S 6 a1) - a2)))
      else none
    else none
  else none
abbrev rmX7_letDrop : Room := { frames := 1, cells := 0, slots := 0, locals := 23 }
theorem okX7_letDrop : tc_ok yX7_letDrop cX7_letDrop 3 none 2 := ⟨wc_X7_letDrop, wn_X7, by decide, by decide, by decide +kernel⟩
set_option maxRecDepth 20000 in
theorem mX7_letDrop {q : Nat → Nat}  {S : ms_T} {a1 : Int32} {a2 : Int32} {z : ms_T}  (hf : fX7_letDrop S a1 a2 = some z) : tc_MV l dC dI ca yX7_letDrop cX7_letDrop 3 none rmX7_letDrop [.ref (q 0), .int (a1), .int (a2)] (w7 ca q S) (w7 ca q z) := by
  refine tc_metV (own := RX7) (by decide) rfl ?_ (Nat.le_of_ble_eq_true rfl)
  intro p e s m below meth c A X hP hD hS ls hl
  obtain ⟨hx, hb, hr, hml, hown, hts, hlk, hK, hA, hG⟩ := id X
  unfold fX7_letDrop at hf
  have hl : lv_has ls 3 [(0, .ref (q 0)), (1, .int (a1)), (2, .int (a2))] := hl
  refine lv_aload_n hx hb dX7_letDrop_0 rfl (lv_at hl 0 rfl) ?_
  refine va_get (D := (dC, dI)) (ci := 7) (v := .ref (q 6)) (C := RX7) (T := TX7) (N := 18) hx hb hts i_X7 hown hK hP 0 rfl rfl 10 (by decide) (hts _ wf_X7_31) (fun _ h9 => h9) rfl dX7_letDrop_1 ?_
  refine lv_iload_n hx hb dX7_letDrop_4 rfl (lv_at hl 1 rfl) ?_
  refine lv_iconst (v := (0 : Int32)) hx hb dX7_letDrop_5 (by decide) ?_
  refine lv_aload_n hx hb dX7_letDrop_6 rfl (lv_at hl 0 rfl) ?_
  refine va_get (D := (dC, dI)) (ci := 7) (v := .ref (q 6)) (C := RX7) (T := TX7) (N := 18) hx hb hts i_X7 hown hK hP 0 rfl rfl 10 (by decide) (hts _ wf_X7_31) (fun _ h9 => h9) rfl dX7_letDrop_7 ?_
  refine lv_iload_n hx hb dX7_letDrop_10 rfl (lv_at hl 1 rfl) ?_
  obtain ⟨hi1, hf⟩ := tc_in hf
  refine va_iald hx hb hK hP 6 1 rfl rfl hi1 dX7_letDrop_11 ?_
  refine lv_iload_n hx hb dX7_letDrop_12 rfl (lv_at hl 2 rfl) ?_
  refine lv_isub hx hb dX7_letDrop_13 ?_
  refine tc_mmax (rest := [.int (a1), .ref (q 6)]) X hl.1 wl_X7_74 (Nat.le_of_ble_eq_true rfl) (Nat.le_of_ble_eq_true rfl) dX7_letDrop_14 ?_
  obtain ⟨hi2, hf⟩ := tc_in hf
  refine va_iast hx hb hK hP hD hS 6 1 rfl rfl hi2 dX7_letDrop_17 (fun H locs hP hD hS => ?_)
  have hP := tc_eP (aw7_0_6 ca q S a1 (jmax (0 : Int32) ((ia S 6 a1) - a2))) hP
  have hD := tc_eD (aw7_0_6 ca q S a1 (jmax (0 : Int32) ((ia S 6 a1) - a2))) hD
  refine lv_aload_n hx hb dX7_letDrop_18 rfl (lv_at hl 0 rfl) ?_
  refine va_get (D := (dC, dI)) (ci := 7) (v := .ref (q 6)) (C := RX7) (T := TX7) (N := 18) hx hb hts i_X7 hown hK hP 0 rfl rfl 10 (by decide) (hts _ wf_X7_31) (fun _ h9 => h9) rfl dX7_letDrop_19 ?_
  refine lv_iload_n hx hb dX7_letDrop_22 rfl (lv_at hl 1 rfl) ?_
  obtain ⟨hi3, hf⟩ := tc_in hf
  refine va_iald hx hb hK hP 6 1 rfl rfl hi3 dX7_letDrop_23 ?_
  refine lv_if_ne (tgt := 41) hx hb dX7_letDrop_24 (by decide) (fun hc => ?_) (fun hc => ?_)
  · have hf := tc_neg hc hf
    obtain rfl := Option.some.inj hf
    exact tc_rv X hP hD hS rfl dX7_letDrop_41 rfl
  · have hf := tc_pos hc hf
    refine lv_aload_n hx hb dX7_letDrop_27 rfl (lv_at hl 0 rfl) ?_
    refine lv_dup hx hb dX7_letDrop_28 rfl ?_
    refine va_get (D := (dC, dI)) (ci := 7) (v := .int (gi (sa S 6 a1 (jmax (0 : Int32) ((ia S 6 a1) - a2))) 12)) (C := RX7) (T := TX7) (N := 18) hx hb hts i_X7 hown hK hP 0 rfl rfl 12 (by decide) (hts _ wf_X7_59) (fun _ h9 => h9) rfl dX7_letDrop_29 ?_
    refine lv_iconst (v := (1 : Int32)) hx hb dX7_letDrop_32 (by decide) ?_
    refine lv_iload_n hx hb dX7_letDrop_33 rfl (lv_at hl 1 rfl) ?_
    refine lv_ishl hx hb dX7_letDrop_34 ?_
    refine lv_iconst (v := (-1 : Int32)) hx hb dX7_letDrop_35 (by decide) ?_
    refine lv_ixor hx hb dX7_letDrop_36 ?_
    refine lv_iand hx hb dX7_letDrop_37 ?_
    refine va_put (D := (dC, dI)) (ci := 7) (v := .int ((gi (sa S 6 a1 (jmax (0 : Int32) ((ia S 6 a1) - a2))) 12) &&& (((1 : Int32) <<< (a1 &&& 31)) ^^^ (-1 : Int32)))) (ty := .int) (C := RX7) (T := TX7) (N := 18) hx hb hts i_X7 tyX7 tyX7_ok nmX7 hown hK hP hD hS 0 rfl rfl 12 (by decide) (hts _ wf_X7_59) (fun _ h9 => h9) rfl (tyX7_ok 12 (by decide)) rfl rfl (Nat.le_of_ble_eq_true rfl) dX7_letDrop_38 (fun H locs hP hD hS => ?_)
    have hP := tc_eP (pw7_0_12 ca q (sa S 6 a1 (jmax (0 : Int32) ((ia S 6 a1) - a2))) ((gi (sa S 6 a1 (jmax (0 : Int32) ((ia S 6 a1) - a2))) 12) &&& (((1 : Int32) <<< (a1 &&& 31)) ^^^ (-1 : Int32)))) hP
    have hD := tc_eD (pw7_0_12 ca q (sa S 6 a1 (jmax (0 : Int32) ((ia S 6 a1) - a2))) ((gi (sa S 6 a1 (jmax (0 : Int32) ((ia S 6 a1) - a2))) 12) &&& (((1 : Int32) <<< (a1 &&& 31)) ^^^ (-1 : Int32)))) hD
    obtain rfl := Option.some.inj hf
    exact tc_rv X hP hD hS rfl dX7_letDrop_41 rfl
def fX0_doDrop  (SV : ms_T) (ST : ms_T) (a1 : Int32) (a2 : Int32) : Option (ms_T × ms_T) :=
  (fX7_isFalling ST a1).bind fun z1 =>
  if z1 = 0 then
    some (si SV 5 ((gi SV 5) + (1 : Int32)), ST)
  else
    (fX7_letDrop ST a1 a2).bind fun z2 =>
    some (SV, z2)
abbrev rmX0_doDrop : Room := { frames := 2, cells := 0, slots := 0, locals := 45 }
theorem okX0_doDrop : tc_ok yX0_doDrop cX0_doDrop 3 none 2 := ⟨wc_X0_doDrop, wn_X0, by decide, by decide, by decide +kernel⟩
set_option maxRecDepth 20000 in
theorem mX0_doDrop {qV : Nat → Nat} {qT : Nat → Nat} {rV1 : Value} {SV : ms_T} {ST : ms_T} {a1 : Int32} {a2 : Int32} {z : ms_T × ms_T}  (hf : fX0_doDrop SV ST a1 a2 = some z) : tc_MV l dC dI ca yX0_doDrop cX0_doDrop 3 none rmX0_doDrop [.ref (qV 0), .int (a1), .int (a2)] (w0 ca qV (.ref (qT 0)) (rV1) SV ++ w7 ca qT ST) (w0 ca qV (.ref (qT 0)) (rV1) z.1 ++ w7 ca qT z.2) := by
  refine tc_metV (own := RX0) (by decide) rfl ?_ (Nat.le_of_ble_eq_true rfl)
  intro p e s m below meth c A X hP hD hS ls hl
  obtain ⟨hx, hb, hr, hml, hown, hts, hlk, hK, hA, hG⟩ := id X
  unfold fX0_doDrop at hf
  have hl : lv_has ls 3 [(0, .ref (qV 0)), (1, .int (a1)), (2, .int (a2))] := hl
  refine lv_aload_n hx hb dX0_doDrop_0 rfl (lv_at hl 0 rfl) ?_
  refine va_get (D := (dC, dI)) (ci := 0) (v := .ref (qT 0)) (C := RX0) (T := TX0) (N := 10) hx hb hts i_X0 hown hK hP 0 rfl rfl 0 (by decide) (hts _ wf_X0_15) (fun _ h9 => h9) rfl dX0_doDrop_1 ?_
  refine lv_iload_n hx hb dX0_doDrop_4 rfl (lv_at hl 1 rfl) ?_
  obtain ⟨z1, hg, hf⟩ := tc_bi hf
  refine tc_iV (As := [.int (a1)]) (rest := []) (b := qT 0) (wc := w7 ca qT ST) (wr := w0 ca qV (.ref (qT 0)) (rV1) SV) X hP hD hS (mX7_isFalling hg) okX7_isFalling wl_X0_102 wi_X7_isFalling ws_X7_X7_isFalling_X7_isFalling ⟨rfl, rfl, Nat.le_of_ble_eq_true rfl, Nat.le_of_ble_eq_true rfl⟩ 7 0 rfl rfl [2, 3, 4, 5, 6, 7, 8, 9, 10, 11, 12] [0, 1] ⟨rfl, rfl, rfl, rfl, by decide⟩ rfl hl.1 (Nat.le_of_ble_eq_true rfl) dX0_doDrop_5 (fun H locs hP hD hS => ?_)
  have hP := hP.sub (ws' := (w0 ca qV (.ref (qT 0)) (rV1) SV ++ w7 ca qT ST)) [0, 1, 2, 3, 4, 5, 6, 7, 8, 9, 10, 11, 12] rfl
  have hD := hD.sub (ws' := (w0 ca qV (.ref (qT 0)) (rV1) SV ++ w7 ca qT ST)) [0, 1, 2, 3, 4, 5, 6, 7, 8, 9, 10, 11, 12] rfl rfl
  refine lv_if_eq (tgt := 23) hx hb dX0_doDrop_8 (by decide) (fun hc => ?_) (fun hc => ?_)
  · have hf := tc_pos hc hf
    refine lv_aload_n hx hb dX0_doDrop_23 rfl (lv_at hl 0 rfl) ?_
    refine lv_dup hx hb dX0_doDrop_24 rfl ?_
    refine va_get (D := (dC, dI)) (ci := 0) (v := .int (gi SV 5)) (C := RX0) (T := TX0) (N := 10) hx hb hts i_X0 hown hK hP 0 rfl rfl 5 (by decide) (hts _ wf_X0_30) (fun _ h9 => h9) rfl dX0_doDrop_25 ?_
    refine lv_iconst (v := (1 : Int32)) hx hb dX0_doDrop_28 (by decide) ?_
    refine lv_iadd hx hb dX0_doDrop_29 ?_
    refine va_put (D := (dC, dI)) (ci := 0) (v := .int ((gi SV 5) + (1 : Int32))) (ty := .int) (C := RX0) (T := TX0) (N := 10) hx hb hts i_X0 tyX0 tyX0_ok nmX0 hown hK hP hD hS 0 rfl rfl 5 (by decide) (hts _ wf_X0_30) (fun _ h9 => h9) rfl (tyX0_ok 5 (by decide)) rfl rfl (Nat.le_of_ble_eq_true rfl) dX0_doDrop_30 (fun H locs hP hD hS => ?_)
    have hP := tc_eP (pw0_7_0_5 ca qV qT (.ref (qT 0)) (rV1) SV ST ((gi SV 5) + (1 : Int32))) hP
    have hD := tc_eD (pw0_7_0_5 ca qV qT (.ref (qT 0)) (rV1) SV ST ((gi SV 5) + (1 : Int32))) hD
    obtain rfl := Option.some.inj hf
    exact tc_rv X hP hD hS rfl dX0_doDrop_33 rfl
  · have hf := tc_neg hc hf
    refine lv_aload_n hx hb dX0_doDrop_11 rfl (lv_at hl 0 rfl) ?_
    refine va_get (D := (dC, dI)) (ci := 0) (v := .ref (qT 0)) (C := RX0) (T := TX0) (N := 10) hx hb hts i_X0 hown hK hP 0 rfl rfl 0 (by decide) (hts _ wf_X0_15) (fun _ h9 => h9) rfl dX0_doDrop_12 ?_
    refine lv_iload_n hx hb dX0_doDrop_15 rfl (lv_at hl 1 rfl) ?_
    refine lv_iload_n hx hb dX0_doDrop_16 rfl (lv_at hl 2 rfl) ?_
    obtain ⟨z2, hg, hf⟩ := tc_bi hf
    refine tc_vV (As := [.int (a1), .int (a2)]) (rest := []) (b := qT 0) (wc := w7 ca qT ST) (wr := w0 ca qV (.ref (qT 0)) (rV1) SV) X hP hD hS (mX7_letDrop hg) okX7_letDrop wl_X0_105 wi_X7_letDrop ws_X7_X7_letDrop_X7_letDrop ⟨rfl, rfl, Nat.le_of_ble_eq_true rfl, Nat.le_of_ble_eq_true rfl⟩ 7 0 rfl rfl [2, 3, 4, 5, 6, 7, 8, 9, 10, 11, 12] [0, 1] ⟨rfl, rfl, rfl, rfl, by decide⟩ rfl hl.1 (Nat.le_of_ble_eq_true rfl) dX0_doDrop_17 (fun H locs hP hD hS => ?_)
    have hP := hP.sub (ws' := (w0 ca qV (.ref (qT 0)) (rV1) SV ++ w7 ca qT z2)) [0, 1, 2, 3, 4, 5, 6, 7, 8, 9, 10, 11, 12] rfl
    have hD := hD.sub (ws' := (w0 ca qV (.ref (qT 0)) (rV1) SV ++ w7 ca qT z2)) [0, 1, 2, 3, 4, 5, 6, 7, 8, 9, 10, 11, 12] rfl rfl
    refine lv_goto (tgt := 33) hx hb dX0_doDrop_20 (by decide) ?_
    obtain rfl := Option.some.inj hf
    exact tc_rv X hP hD hS rfl dX0_doDrop_33 rfl
theorem pw0_0_2 (ca : Nat → ClassId) (q0 : Nat → Nat) (r0_0 r0_1 : Value) (S0 : ms_T) (v : Int32) : (w0 ca q0 r0_0 r0_1 S0 : va_W).set 0 (q0 0, .inr (0, List.set (r0_0 :: r0_1 :: .int (gi S0 2) :: .ref (q0 1) :: .int (gi S0 4) :: .int (gi S0 5) :: .int (gi S0 6) :: .int (gi S0 7) :: .int (gi S0 8) :: .int (gi S0 9) :: []) 2 (.int v))) = w0 ca q0 r0_0 r0_1 (si S0 2 v) := rfl
def fX0_draw  (S : ms_T) (a1 : Int32) : Option (Int32 × ms_T) :=
  if a1 ≤ 0 then
    some ((0 : Int32), si S 2 ((((gi S 2) * (2971 : Int32)) + (10979 : Int32)) - (((gi S 2) * (2971 : Int32)) + (10979 : Int32)) / (65536 : Int32) * (65536 : Int32)))
  else
    if ¬ a1 = 0 then
      some (((gi (si S 2 ((((gi S 2) * (2971 : Int32)) + (10979 : Int32)) - (((gi S 2) * (2971 : Int32)) + (10979 : Int32)) / (65536 : Int32) * (65536 : Int32))) 2) / (8 : Int32)) - ((gi (si S 2 ((((gi S 2) * (2971 : Int32)) + (10979 : Int32)) - (((gi S 2) * (2971 : Int32)) + (10979 : Int32)) / (65536 : Int32) * (65536 : Int32))) 2) / (8 : Int32)) / a1 * a1, si S 2 ((((gi S 2) * (2971 : Int32)) + (10979 : Int32)) - (((gi S 2) * (2971 : Int32)) + (10979 : Int32)) / (65536 : Int32) * (65536 : Int32)))
    else none
abbrev rmX0_draw : Room := { frames := 0, cells := 0, slots := 0, locals := 0 }
theorem okX0_draw : tc_ok yX0_draw cX0_draw 2 (some .int) 1 := ⟨wc_X0_draw, wn_X0, by decide, by decide, by decide +kernel⟩
set_option maxRecDepth 20000 in
theorem mX0_draw {q : Nat → Nat} {rV0 : Value} {rV1 : Value} {S : ms_T} {a1 : Int32} {z : Int32 × ms_T}  (hf : fX0_draw S a1 = some z) : tc_MI l dC dI ca yX0_draw cX0_draw 2 (some .int) rmX0_draw [.ref (q 0), .int (a1)] (w0 ca q (rV0) (rV1) S) (w0 ca q (rV0) (rV1) z.2) (z.1) := by
  refine tc_metI (own := RX0) (by decide) rfl ?_ (Nat.le_of_ble_eq_true rfl)
  intro p e s m below meth c A X hP hD hS ls hl
  obtain ⟨hx, hb, hr, hml, hown, hts, hlk, hK, hA, hG⟩ := id X
  unfold fX0_draw at hf
  have hl : lv_has ls 2 [(0, .ref (q 0)), (1, .int (a1))] := hl
  refine lv_aload_n hx hb dX0_draw_0 rfl (lv_at hl 0 rfl) ?_
  refine lv_aload_n hx hb dX0_draw_1 rfl (lv_at hl 0 rfl) ?_
  refine va_get (D := (dC, dI)) (ci := 0) (v := .int (gi S 2)) (C := RX0) (T := TX0) (N := 10) hx hb hts i_X0 hown hK hP 0 rfl rfl 2 (by decide) (hts _ wf_X0_23) (fun _ h9 => h9) rfl dX0_draw_2 ?_
  refine lv_sipush (v := (2971 : Int32)) hx hb dX0_draw_5 (by decide) ?_
  refine lv_imul hx hb dX0_draw_8 ?_
  refine lv_sipush (v := (10979 : Int32)) hx hb dX0_draw_9 (by decide) ?_
  refine lv_iadd hx hb dX0_draw_12 ?_
  refine lv_ldc (v := (65536 : Int32)) hx hb hown (hts _ wk_X0_93) dX0_draw_13 ?_
  refine lv_irem hx hb dX0_draw_15 (by decide) ?_
  refine va_put (D := (dC, dI)) (ci := 0) (v := .int ((((gi S 2) * (2971 : Int32)) + (10979 : Int32)) - (((gi S 2) * (2971 : Int32)) + (10979 : Int32)) / (65536 : Int32) * (65536 : Int32))) (ty := .int) (C := RX0) (T := TX0) (N := 10) hx hb hts i_X0 tyX0 tyX0_ok nmX0 hown hK hP hD hS 0 rfl rfl 2 (by decide) (hts _ wf_X0_23) (fun _ h9 => h9) rfl (tyX0_ok 2 (by decide)) rfl rfl (Nat.le_of_ble_eq_true rfl) dX0_draw_16 (fun H locs hP hD hS => ?_)
  have hP := tc_eP (pw0_0_2 ca q (rV0) (rV1) S ((((gi S 2) * (2971 : Int32)) + (10979 : Int32)) - (((gi S 2) * (2971 : Int32)) + (10979 : Int32)) / (65536 : Int32) * (65536 : Int32))) hP
  have hD := tc_eD (pw0_0_2 ca q (rV0) (rV1) S ((((gi S 2) * (2971 : Int32)) + (10979 : Int32)) - (((gi S 2) * (2971 : Int32)) + (10979 : Int32)) / (65536 : Int32) * (65536 : Int32))) hD
  refine lv_iload_n hx hb dX0_draw_19 rfl (lv_at hl 1 rfl) ?_
  refine lv_if_le (tgt := 35) hx hb dX0_draw_20 (by decide) (fun hc => ?_) (fun hc => ?_)
  · have hf := tc_pos hc hf
    refine lv_iconst (v := (0 : Int32)) hx hb dX0_draw_35 (by decide) ?_
    obtain rfl := Option.some.inj hf
    exact tc_ri X hP hD hS rfl dX0_draw_36 rfl rfl
  · have hf := tc_neg hc hf
    refine lv_aload_n hx hb dX0_draw_23 rfl (lv_at hl 0 rfl) ?_
    refine va_get (D := (dC, dI)) (ci := 0) (v := .int (gi (si S 2 ((((gi S 2) * (2971 : Int32)) + (10979 : Int32)) - (((gi S 2) * (2971 : Int32)) + (10979 : Int32)) / (65536 : Int32) * (65536 : Int32))) 2)) (C := RX0) (T := TX0) (N := 10) hx hb hts i_X0 hown hK hP 0 rfl rfl 2 (by decide) (hts _ wf_X0_23) (fun _ h9 => h9) rfl dX0_draw_24 ?_
    refine lv_bipush (v := (8 : Int32)) hx hb dX0_draw_27 (by decide) ?_
    refine lv_idiv hx hb dX0_draw_29 (by decide) ?_
    refine lv_iload_n hx hb dX0_draw_30 rfl (lv_at hl 1 rfl) ?_
    obtain ⟨hne, hf⟩ := tc_ck hf
    refine lv_irem hx hb dX0_draw_31 hne ?_
    refine lv_goto (tgt := 36) hx hb dX0_draw_32 (by decide) ?_
    obtain rfl := Option.some.inj hf
    exact tc_ri X hP hD hS rfl dX0_draw_36 rfl rfl
def fX7_landing  (S : ms_T) (a1 : Int32) : Option (Int32) :=
  if a1 = 0 then
    some ((0 : Int32))
  else
    if inb (a1 - (1 : Int32)) 9 = true then
      some (jmax (0 : Int32) (a1 - (ia S 2 (a1 - (1 : Int32)))))
    else none
abbrev rmX7_landing : Room := { frames := 1, cells := 0, slots := 0, locals := 23 }
theorem okX7_landing : tc_ok yX7_landing cX7_landing 2 (some .int) 1 := ⟨wc_X7_landing, wn_X7, by decide, by decide, by decide +kernel⟩
set_option maxRecDepth 20000 in
theorem mX7_landing {q : Nat → Nat}  {S : ms_T} {a1 : Int32} {z : Int32}  (hf : fX7_landing S a1 = some z) : tc_MI l dC dI ca yX7_landing cX7_landing 2 (some .int) rmX7_landing [.ref (q 0), .int (a1)] (w7 ca q S) (w7 ca q S) (z) := by
  refine tc_metI (own := RX7) (by decide) rfl ?_ (Nat.le_of_ble_eq_true rfl)
  intro p e s m below meth c A X hP hD hS ls hl
  obtain ⟨hx, hb, hr, hml, hown, hts, hlk, hK, hA, hG⟩ := id X
  unfold fX7_landing at hf
  have hl : lv_has ls 2 [(0, .ref (q 0)), (1, .int (a1))] := hl
  refine lv_iload_n hx hb dX7_landing_0 rfl (lv_at hl 1 rfl) ?_
  refine lv_if_ne (tgt := 8) hx hb dX7_landing_1 (by decide) (fun hc => ?_) (fun hc => ?_)
  · have hf := tc_neg hc hf
    refine lv_iconst (v := (0 : Int32)) hx hb dX7_landing_8 (by decide) ?_
    refine lv_iload_n hx hb dX7_landing_9 rfl (lv_at hl 1 rfl) ?_
    refine lv_aload_n hx hb dX7_landing_10 rfl (lv_at hl 0 rfl) ?_
    refine va_get (D := (dC, dI)) (ci := 7) (v := .ref (q 2)) (C := RX7) (T := TX7) (N := 18) hx hb hts i_X7 hown hK hP 0 rfl rfl 3 (by decide) (hts _ wf_X7_19) (fun _ h9 => h9) rfl dX7_landing_11 ?_
    refine lv_iload_n hx hb dX7_landing_14 rfl (lv_at hl 1 rfl) ?_
    refine lv_iconst (v := (1 : Int32)) hx hb dX7_landing_15 (by decide) ?_
    refine lv_isub hx hb dX7_landing_16 ?_
    obtain ⟨hi1, hf⟩ := tc_in hf
    refine va_iald hx hb hK hP 2 1 rfl rfl hi1 dX7_landing_17 ?_
    refine lv_isub hx hb dX7_landing_18 ?_
    refine tc_mmax (rest := []) X hl.1 wl_X7_74 (Nat.le_of_ble_eq_true rfl) (Nat.le_of_ble_eq_true rfl) dX7_landing_19 ?_
    obtain rfl := Option.some.inj hf
    exact tc_ri X hP hD hS rfl dX7_landing_22 rfl rfl
  · have hf := tc_pos hc hf
    refine lv_iconst (v := (0 : Int32)) hx hb dX7_landing_4 (by decide) ?_
    refine lv_goto (tgt := 22) hx hb dX7_landing_5 (by decide) ?_
    obtain rfl := Option.some.inj hf
    exact tc_ri X hP hD hS rfl dX7_landing_22 rfl rfl
def fX7_letPull_23    (S : ms_T) (v1 : Int32) (t0 : Int32) (t1 : Int32) : Option (ms_T) :=
  if inb t1 6 = true then
    some (si (sa S 6 t1 t0) 12 ((gi (sa S 6 t1 t0) 12) &&& (((1 : Int32) <<< (v1 &&& 31)) ^^^ (-1 : Int32))))
  else none
def fX7_letPull  (S : ms_T) (a1 : Int32) (a2 : Int32) : Option (ms_T) :=
  if a2 = 0 then
    fX7_letPull_23 S a1 (0 : Int32) a1
  else
    if inb a1 6 = true then
      (fX7_landing S (ia S 6 a1)).bind fun z3 =>
      fX7_letPull_23 S a1 z3 a1
    else none
abbrev rmX7_letPull : Room := { frames := 2, cells := 0, slots := 0, locals := 44 }
theorem okX7_letPull : tc_ok yX7_letPull cX7_letPull 3 none 2 := ⟨wc_X7_letPull, wn_X7, by decide, by decide, by decide +kernel⟩
set_option maxRecDepth 20000 in
theorem tX7_letPull_23 {q : Nat → Nat}  (X : tc_X dC dI ca A RX7 cX7_letPull 3 none p s m args meth c) (z : ms_T)     : ∀ (S : ms_T) (v1 : Int32) (t0 : Int32) (t1 : Int32), fX7_letPull_23 S v1 t0 t1 = some z → ∀ (H : Heap) (locs : List Loc) (ls : Array Slot), va_P (dC, dI) classes (w7 ca q S) H → va_D A (w7 ca q S) → va_S A s.heap H locs → lv_has ls 3 [(0, .ref (q 0)), (1, .int (v1))] → W p l e rmX7_letPull s m args below meth c H locs 0 0 (MQ below (tc_QV dC dI ca A (w7 ca q z)) args s 0 0 A) (F0 m 23 ls [.int (t0), .int (t1), .ref (q 6)]) := by
  obtain ⟨hx, hb, hr, hml, hown, hts, hlk, hK, hA, hG⟩ := id X
  intro S v1 t0 t1 hf H locs ls hP hD hS hl
  unfold fX7_letPull_23 at hf
  obtain ⟨hi1, hf⟩ := tc_in hf
  refine va_iast hx hb hK hP hD hS 6 1 rfl rfl hi1 dX7_letPull_23 (fun H locs hP hD hS => ?_)
  have hP := tc_eP (aw7_0_6 ca q S t1 t0) hP
  have hD := tc_eD (aw7_0_6 ca q S t1 t0) hD
  refine lv_aload_n hx hb dX7_letPull_24 rfl (lv_at hl 0 rfl) ?_
  refine lv_dup hx hb dX7_letPull_25 rfl ?_
  refine va_get (D := (dC, dI)) (ci := 7) (v := .int (gi (sa S 6 t1 t0) 12)) (C := RX7) (T := TX7) (N := 18) hx hb hts i_X7 hown hK hP 0 rfl rfl 12 (by decide) (hts _ wf_X7_59) (fun _ h9 => h9) rfl dX7_letPull_26 ?_
  refine lv_iconst (v := (1 : Int32)) hx hb dX7_letPull_29 (by decide) ?_
  refine lv_iload_n hx hb dX7_letPull_30 rfl (lv_at hl 1 rfl) ?_
  refine lv_ishl hx hb dX7_letPull_31 ?_
  refine lv_iconst (v := (-1 : Int32)) hx hb dX7_letPull_32 (by decide) ?_
  refine lv_ixor hx hb dX7_letPull_33 ?_
  refine lv_iand hx hb dX7_letPull_34 ?_
  refine va_put (D := (dC, dI)) (ci := 7) (v := .int ((gi (sa S 6 t1 t0) 12) &&& (((1 : Int32) <<< (v1 &&& 31)) ^^^ (-1 : Int32)))) (ty := .int) (C := RX7) (T := TX7) (N := 18) hx hb hts i_X7 tyX7 tyX7_ok nmX7 hown hK hP hD hS 0 rfl rfl 12 (by decide) (hts _ wf_X7_59) (fun _ h9 => h9) rfl (tyX7_ok 12 (by decide)) rfl rfl (Nat.le_of_ble_eq_true rfl) dX7_letPull_35 (fun H locs hP hD hS => ?_)
  have hP := tc_eP (pw7_0_12 ca q (sa S 6 t1 t0) ((gi (sa S 6 t1 t0) 12) &&& (((1 : Int32) <<< (v1 &&& 31)) ^^^ (-1 : Int32)))) hP
  have hD := tc_eD (pw7_0_12 ca q (sa S 6 t1 t0) ((gi (sa S 6 t1 t0) 12) &&& (((1 : Int32) <<< (v1 &&& 31)) ^^^ (-1 : Int32)))) hD
  obtain rfl := Option.some.inj hf
  exact tc_rv X hP hD hS rfl dX7_letPull_38 rfl
set_option maxRecDepth 20000 in
theorem mX7_letPull {q : Nat → Nat}  {S : ms_T} {a1 : Int32} {a2 : Int32} {z : ms_T}  (hf : fX7_letPull S a1 a2 = some z) : tc_MV l dC dI ca yX7_letPull cX7_letPull 3 none rmX7_letPull [.ref (q 0), .int (a1), .int (a2)] (w7 ca q S) (w7 ca q z) := by
  refine tc_metV (own := RX7) (by decide) rfl ?_ (Nat.le_of_ble_eq_true rfl)
  intro p e s m below meth c A X hP hD hS ls hl
  obtain ⟨hx, hb, hr, hml, hown, hts, hlk, hK, hA, hG⟩ := id X
  unfold fX7_letPull at hf
  have hl : lv_has ls 3 [(0, .ref (q 0)), (1, .int (a1)), (2, .int (a2))] := hl
  refine lv_aload_n hx hb dX7_letPull_0 rfl (lv_at hl 0 rfl) ?_
  refine va_get (D := (dC, dI)) (ci := 7) (v := .ref (q 6)) (C := RX7) (T := TX7) (N := 18) hx hb hts i_X7 hown hK hP 0 rfl rfl 10 (by decide) (hts _ wf_X7_31) (fun _ h9 => h9) rfl dX7_letPull_1 ?_
  refine lv_iload_n hx hb dX7_letPull_4 rfl (lv_at hl 1 rfl) ?_
  refine lv_iload_n hx hb dX7_letPull_5 rfl (lv_at hl 2 rfl) ?_
  refine lv_if_eq (tgt := 22) hx hb dX7_letPull_6 (by decide) (fun hc => ?_) (fun hc => ?_)
  · have hf := tc_pos hc hf
    refine lv_iconst (v := (0 : Int32)) hx hb dX7_letPull_22 (by decide) ?_
    exact tX7_letPull_23 X z S a1 (0 : Int32) a1 hf _ _ _ hP hD hS (lv_sub hl [0, 1] rfl)
  · have hf := tc_neg hc hf
    refine lv_aload_n hx hb dX7_letPull_9 rfl (lv_at hl 0 rfl) ?_
    refine lv_aload_n hx hb dX7_letPull_10 rfl (lv_at hl 0 rfl) ?_
    refine va_get (D := (dC, dI)) (ci := 7) (v := .ref (q 6)) (C := RX7) (T := TX7) (N := 18) hx hb hts i_X7 hown hK hP 0 rfl rfl 10 (by decide) (hts _ wf_X7_31) (fun _ h9 => h9) rfl dX7_letPull_11 ?_
    refine lv_iload_n hx hb dX7_letPull_14 rfl (lv_at hl 1 rfl) ?_
    obtain ⟨hi2, hf⟩ := tc_in hf
    refine va_iald hx hb hK hP 6 1 rfl rfl hi2 dX7_letPull_15 ?_
    obtain ⟨z3, hg, hf⟩ := tc_bi hf
    refine tc_iVs (As := [.int (ia S 6 a1)]) (rest := [.int (a1), .ref (q 6)]) (b := q 0) X hP hD hS (mX7_landing hg) okX7_landing wl_X7_102 wi_X7_landing ws_X7_X7_landing_X7_landing ⟨rfl, rfl, Nat.le_of_ble_eq_true rfl, Nat.le_of_ble_eq_true rfl⟩ 7 0 rfl rfl rfl hl.1 (Nat.le_of_ble_eq_true rfl) dX7_letPull_16 (fun H locs hP hD hS => ?_)
    refine lv_goto (tgt := 23) hx hb dX7_letPull_19 (by decide) ?_
    exact tX7_letPull_23 X z S a1 z3 a1 hf _ _ _ hP hD hS (lv_sub hl [0, 1] rfl)
theorem pw0_7_0_8 (ca : Nat → ClassId) (q0 q1 : Nat → Nat) (r0_0 r0_1 : Value) (S0 S1 : ms_T) (v : Int32) : (w0 ca q0 r0_0 r0_1 S0 ++ w7 ca q1 S1 : va_W).set 0 (q0 0, .inr (0, List.set (r0_0 :: r0_1 :: .int (gi S0 2) :: .ref (q0 1) :: .int (gi S0 4) :: .int (gi S0 5) :: .int (gi S0 6) :: .int (gi S0 7) :: .int (gi S0 8) :: .int (gi S0 9) :: []) 8 (.int v))) = w0 ca q0 r0_0 r0_1 (si S0 8 v) ++ w7 ca q1 S1 := rfl
def fX0_doPull_39    (SV : ms_T) (ST : ms_T) (t0 : Int32) (t1 : Int32) : Option (ms_T × ms_T) :=
  (fX7_letPull ST t1 t0).bind fun z4 =>
  some (si SV 8 ((gi SV 8) + (1 : Int32)), z4)
def fX0_doPull  (SV : ms_T) (ST : ms_T) (a1 : Int32) : Option (ms_T × ms_T) :=
  (fX7_isFalling ST a1).bind fun z1 =>
  if z1 = 0 then
    some (si SV 5 ((gi SV 5) + (1 : Int32)), ST)
  else
    (fX0_draw SV (16 : Int32)).bind fun z2 =>
    if inb a1 6 = true then
      if z2.1 < (ia ST 7 a1) then
        fX0_doPull_39 z2.2 ST (0 : Int32) a1
      else
        fX0_doPull_39 z2.2 ST (1 : Int32) a1
    else none
abbrev rmX0_doPull : Room := { frames := 3, cells := 0, slots := 0, locals := 66 }
theorem okX0_doPull : tc_ok yX0_doPull cX0_doPull 2 none 1 := ⟨wc_X0_doPull, wn_X0, by decide, by decide, by decide +kernel⟩
set_option maxRecDepth 20000 in
theorem tX0_doPull_39 {qV : Nat → Nat} {qT : Nat → Nat} {rV1 : Value} (X : tc_X dC dI ca A RX0 cX0_doPull 2 none p s m args meth c) (z : ms_T × ms_T)     : ∀ (SV : ms_T) (ST : ms_T) (t0 : Int32) (t1 : Int32), fX0_doPull_39 SV ST t0 t1 = some z → ∀ (H : Heap) (locs : List Loc) (ls : Array Slot), va_P (dC, dI) classes (w0 ca qV (.ref (qT 0)) (rV1) SV ++ w7 ca qT ST) H → va_D A (w0 ca qV (.ref (qT 0)) (rV1) SV ++ w7 ca qT ST) → va_S A s.heap H locs → lv_has ls 2 [(0, .ref (qV 0))] → W p l e rmX0_doPull s m args below meth c H locs 0 0 (MQ below (tc_QV dC dI ca A (w0 ca qV (.ref (qT 0)) (rV1) z.1 ++ w7 ca qT z.2)) args s 0 0 A) (F0 m 39 ls [.int (t0), .int (t1), .ref (qT 0)]) := by
  obtain ⟨hx, hb, hr, hml, hown, hts, hlk, hK, hA, hG⟩ := id X
  intro SV ST t0 t1 hf H locs ls hP hD hS hl
  unfold fX0_doPull_39 at hf
  obtain ⟨z4, hg, hf⟩ := tc_bi hf
  refine tc_vV (As := [.int (t1), .int (t0)]) (rest := []) (b := qT 0) (wc := w7 ca qT ST) (wr := w0 ca qV (.ref (qT 0)) (rV1) SV) X hP hD hS (mX7_letPull hg) okX7_letPull wl_X0_114 wi_X7_letPull ws_X7_X7_letPull_X7_letPull ⟨rfl, rfl, Nat.le_of_ble_eq_true rfl, Nat.le_of_ble_eq_true rfl⟩ 7 0 rfl rfl [2, 3, 4, 5, 6, 7, 8, 9, 10, 11, 12] [0, 1] ⟨rfl, rfl, rfl, rfl, by decide⟩ rfl hl.1 (Nat.le_of_ble_eq_true rfl) dX0_doPull_39 (fun H locs hP hD hS => ?_)
  have hP := hP.sub (ws' := (w0 ca qV (.ref (qT 0)) (rV1) SV ++ w7 ca qT z4)) [0, 1, 2, 3, 4, 5, 6, 7, 8, 9, 10, 11, 12] rfl
  have hD := hD.sub (ws' := (w0 ca qV (.ref (qT 0)) (rV1) SV ++ w7 ca qT z4)) [0, 1, 2, 3, 4, 5, 6, 7, 8, 9, 10, 11, 12] rfl rfl
  refine lv_aload_n hx hb dX0_doPull_42 rfl (lv_at hl 0 rfl) ?_
  refine lv_dup hx hb dX0_doPull_43 rfl ?_
  refine va_get (D := (dC, dI)) (ci := 0) (v := .int (gi SV 8)) (C := RX0) (T := TX0) (N := 10) hx hb hts i_X0 hown hK hP 0 rfl rfl 8 (by decide) (hts _ wf_X0_39) (fun _ h9 => h9) rfl dX0_doPull_44 ?_
  refine lv_iconst (v := (1 : Int32)) hx hb dX0_doPull_47 (by decide) ?_
  refine lv_iadd hx hb dX0_doPull_48 ?_
  refine va_put (D := (dC, dI)) (ci := 0) (v := .int ((gi SV 8) + (1 : Int32))) (ty := .int) (C := RX0) (T := TX0) (N := 10) hx hb hts i_X0 tyX0 tyX0_ok nmX0 hown hK hP hD hS 0 rfl rfl 8 (by decide) (hts _ wf_X0_39) (fun _ h9 => h9) rfl (tyX0_ok 8 (by decide)) rfl rfl (Nat.le_of_ble_eq_true rfl) dX0_doPull_49 (fun H locs hP hD hS => ?_)
  have hP := tc_eP (pw0_7_0_8 ca qV qT (.ref (qT 0)) (rV1) SV z4 ((gi SV 8) + (1 : Int32))) hP
  have hD := tc_eD (pw0_7_0_8 ca qV qT (.ref (qT 0)) (rV1) SV z4 ((gi SV 8) + (1 : Int32))) hD
  refine lv_goto (tgt := 65) hx hb dX0_doPull_52 (by decide) ?_
  obtain rfl := Option.some.inj hf
  exact tc_rv X hP hD hS rfl dX0_doPull_65 rfl
set_option maxRecDepth 20000 in
theorem mX0_doPull {qV : Nat → Nat} {qT : Nat → Nat} {rV1 : Value} {SV : ms_T} {ST : ms_T} {a1 : Int32} {z : ms_T × ms_T}  (hf : fX0_doPull SV ST a1 = some z) : tc_MV l dC dI ca yX0_doPull cX0_doPull 2 none rmX0_doPull [.ref (qV 0), .int (a1)] (w0 ca qV (.ref (qT 0)) (rV1) SV ++ w7 ca qT ST) (w0 ca qV (.ref (qT 0)) (rV1) z.1 ++ w7 ca qT z.2) := by
  refine tc_metV (own := RX0) (by decide) rfl ?_ (Nat.le_of_ble_eq_true rfl)
  intro p e s m below meth c A X hP hD hS ls hl
  obtain ⟨hx, hb, hr, hml, hown, hts, hlk, hK, hA, hG⟩ := id X
  unfold fX0_doPull at hf
  have hl : lv_has ls 2 [(0, .ref (qV 0)), (1, .int (a1))] := hl
  refine lv_aload_n hx hb dX0_doPull_0 rfl (lv_at hl 0 rfl) ?_
  refine va_get (D := (dC, dI)) (ci := 0) (v := .ref (qT 0)) (C := RX0) (T := TX0) (N := 10) hx hb hts i_X0 hown hK hP 0 rfl rfl 0 (by decide) (hts _ wf_X0_15) (fun _ h9 => h9) rfl dX0_doPull_1 ?_
  refine lv_iload_n hx hb dX0_doPull_4 rfl (lv_at hl 1 rfl) ?_
  obtain ⟨z1, hg, hf⟩ := tc_bi hf
  refine tc_iV (As := [.int (a1)]) (rest := []) (b := qT 0) (wc := w7 ca qT ST) (wr := w0 ca qV (.ref (qT 0)) (rV1) SV) X hP hD hS (mX7_isFalling hg) okX7_isFalling wl_X0_102 wi_X7_isFalling ws_X7_X7_isFalling_X7_isFalling ⟨rfl, rfl, Nat.le_of_ble_eq_true rfl, Nat.le_of_ble_eq_true rfl⟩ 7 0 rfl rfl [2, 3, 4, 5, 6, 7, 8, 9, 10, 11, 12] [0, 1] ⟨rfl, rfl, rfl, rfl, by decide⟩ rfl hl.1 (Nat.le_of_ble_eq_true rfl) dX0_doPull_5 (fun H locs hP hD hS => ?_)
  have hP := hP.sub (ws' := (w0 ca qV (.ref (qT 0)) (rV1) SV ++ w7 ca qT ST)) [0, 1, 2, 3, 4, 5, 6, 7, 8, 9, 10, 11, 12] rfl
  have hD := hD.sub (ws' := (w0 ca qV (.ref (qT 0)) (rV1) SV ++ w7 ca qT ST)) [0, 1, 2, 3, 4, 5, 6, 7, 8, 9, 10, 11, 12] rfl rfl
  refine lv_if_eq (tgt := 55) hx hb dX0_doPull_8 (by decide) (fun hc => ?_) (fun hc => ?_)
  · have hf := tc_pos hc hf
    refine lv_aload_n hx hb dX0_doPull_55 rfl (lv_at hl 0 rfl) ?_
    refine lv_dup hx hb dX0_doPull_56 rfl ?_
    refine va_get (D := (dC, dI)) (ci := 0) (v := .int (gi SV 5)) (C := RX0) (T := TX0) (N := 10) hx hb hts i_X0 hown hK hP 0 rfl rfl 5 (by decide) (hts _ wf_X0_30) (fun _ h9 => h9) rfl dX0_doPull_57 ?_
    refine lv_iconst (v := (1 : Int32)) hx hb dX0_doPull_60 (by decide) ?_
    refine lv_iadd hx hb dX0_doPull_61 ?_
    refine va_put (D := (dC, dI)) (ci := 0) (v := .int ((gi SV 5) + (1 : Int32))) (ty := .int) (C := RX0) (T := TX0) (N := 10) hx hb hts i_X0 tyX0 tyX0_ok nmX0 hown hK hP hD hS 0 rfl rfl 5 (by decide) (hts _ wf_X0_30) (fun _ h9 => h9) rfl (tyX0_ok 5 (by decide)) rfl rfl (Nat.le_of_ble_eq_true rfl) dX0_doPull_62 (fun H locs hP hD hS => ?_)
    have hP := tc_eP (pw0_7_0_5 ca qV qT (.ref (qT 0)) (rV1) SV ST ((gi SV 5) + (1 : Int32))) hP
    have hD := tc_eD (pw0_7_0_5 ca qV qT (.ref (qT 0)) (rV1) SV ST ((gi SV 5) + (1 : Int32))) hD
    obtain rfl := Option.some.inj hf
    exact tc_rv X hP hD hS rfl dX0_doPull_65 rfl
  · have hf := tc_neg hc hf
    refine lv_aload_n hx hb dX0_doPull_11 rfl (lv_at hl 0 rfl) ?_
    refine va_get (D := (dC, dI)) (ci := 0) (v := .ref (qT 0)) (C := RX0) (T := TX0) (N := 10) hx hb hts i_X0 hown hK hP 0 rfl rfl 0 (by decide) (hts _ wf_X0_15) (fun _ h9 => h9) rfl dX0_doPull_12 ?_
    refine lv_iload_n hx hb dX0_doPull_15 rfl (lv_at hl 1 rfl) ?_
    refine lv_aload_n hx hb dX0_doPull_16 rfl (lv_at hl 0 rfl) ?_
    refine lv_bipush (v := (16 : Int32)) hx hb dX0_doPull_17 (by decide) ?_
    obtain ⟨z2, hg, hf⟩ := tc_bi hf
    refine tc_iV (As := [.int ((16 : Int32))]) (rest := [.int (a1), .ref (qT 0)]) (b := qV 0) (wc := w0 ca qV (.ref (qT 0)) (rV1) SV) (wr := w7 ca qT ST) X hP hD hS (mX0_draw hg) okX0_draw wl_X0_108 wi_X0_draw ws_X0_X0_draw_X0_draw ⟨rfl, rfl, Nat.le_of_ble_eq_true rfl, Nat.le_of_ble_eq_true rfl⟩ 0 0 rfl rfl [0, 1] [2, 3, 4, 5, 6, 7, 8, 9, 10, 11, 12] ⟨rfl, rfl, rfl, rfl, by decide⟩ rfl hl.1 (Nat.le_of_ble_eq_true rfl) dX0_doPull_19 (fun H locs hP hD hS => ?_)
    have hP := hP.sub (ws' := (w0 ca qV (.ref (qT 0)) (rV1) z2.2 ++ w7 ca qT ST)) [11, 12, 0, 1, 2, 3, 4, 5, 6, 7, 8, 9, 10] rfl
    have hD := hD.sub (ws' := (w0 ca qV (.ref (qT 0)) (rV1) z2.2 ++ w7 ca qT ST)) [11, 12, 0, 1, 2, 3, 4, 5, 6, 7, 8, 9, 10] rfl rfl
    refine lv_aload_n hx hb dX0_doPull_22 rfl (lv_at hl 0 rfl) ?_
    refine va_get (D := (dC, dI)) (ci := 0) (v := .ref (qT 0)) (C := RX0) (T := TX0) (N := 10) hx hb hts i_X0 hown hK hP 0 rfl rfl 0 (by decide) (hts _ wf_X0_15) (fun _ h9 => h9) rfl dX0_doPull_23 ?_
    refine va_get (D := (dC, dI)) (ci := 7) (v := .ref (qT 7)) (C := RX7) (T := TX7) (N := 18) hx hb hts i_X7 hown hK hP 2 rfl rfl 11 (by decide) (hts _ wf_X0_111) (fun _ h9 => h9) rfl dX0_doPull_26 ?_
    refine lv_iload_n hx hb dX0_doPull_29 rfl (lv_at hl 1 rfl) ?_
    obtain ⟨hi3, hf⟩ := tc_in hf
    refine va_iald hx hb hK hP 9 1 rfl rfl hi3 dX0_doPull_30 ?_
    refine lv_icmp_lt (tgt := 38) hx hb dX0_doPull_31 (by decide) (fun hc => ?_) (fun hc => ?_)
    · have hf := tc_pos hc hf
      refine lv_iconst (v := (0 : Int32)) hx hb dX0_doPull_38 (by decide) ?_
      exact tX0_doPull_39 X z z2.2 ST (0 : Int32) a1 hf _ _ _ hP hD hS (lv_sub hl [0] rfl)
    · have hf := tc_neg hc hf
      refine lv_iconst (v := (1 : Int32)) hx hb dX0_doPull_34 (by decide) ?_
      refine lv_goto (tgt := 39) hx hb dX0_doPull_35 (by decide) ?_
      exact tX0_doPull_39 X z z2.2 ST (1 : Int32) a1 hf _ _ _ hP hD hS (lv_sub hl [0] rfl)
def fX7_isPropped  (S : ms_T) (a1 : Int32) : Option (Int32) :=
  if (((gi S 7) >>> (a1 &&& 31)) &&& (1 : Int32)) = 0 then
    some ((0 : Int32))
  else
    some ((1 : Int32))
abbrev rmX7_isPropped : Room := { frames := 0, cells := 0, slots := 0, locals := 0 }
theorem okX7_isPropped : tc_ok yX7_isPropped cX7_isPropped 2 (some .boolean) 1 := ⟨wc_X7_isPropped, wn_X7, by decide, by decide, by decide +kernel⟩
set_option maxRecDepth 20000 in
theorem mX7_isPropped {q : Nat → Nat}  {S : ms_T} {a1 : Int32} {z : Int32}  (hf : fX7_isPropped S a1 = some z) : tc_MI l dC dI ca yX7_isPropped cX7_isPropped 2 (some .boolean) rmX7_isPropped [.ref (q 0), .int (a1)] (w7 ca q S) (w7 ca q S) (z) := by
  refine tc_metI (own := RX7) (by decide) rfl ?_ (Nat.le_of_ble_eq_true rfl)
  intro p e s m below meth c A X hP hD hS ls hl
  obtain ⟨hx, hb, hr, hml, hown, hts, hlk, hK, hA, hG⟩ := id X
  unfold fX7_isPropped at hf
  have hl : lv_has ls 2 [(0, .ref (q 0)), (1, .int (a1))] := hl
  refine lv_aload_n hx hb dX7_isPropped_0 rfl (lv_at hl 0 rfl) ?_
  refine va_get (D := (dC, dI)) (ci := 7) (v := .int (gi S 7)) (C := RX7) (T := TX7) (N := 18) hx hb hts i_X7 hown hK hP 0 rfl rfl 7 (by decide) (hts _ wf_X7_53) (fun _ h9 => h9) rfl dX7_isPropped_1 ?_
  refine lv_iload_n hx hb dX7_isPropped_4 rfl (lv_at hl 1 rfl) ?_
  refine lv_ishr hx hb dX7_isPropped_5 ?_
  refine lv_iconst (v := (1 : Int32)) hx hb dX7_isPropped_6 (by decide) ?_
  refine lv_iand hx hb dX7_isPropped_7 ?_
  refine lv_if_eq (tgt := 15) hx hb dX7_isPropped_8 (by decide) (fun hc => ?_) (fun hc => ?_)
  · have hf := tc_pos hc hf
    refine lv_iconst (v := (0 : Int32)) hx hb dX7_isPropped_15 (by decide) ?_
    obtain rfl := Option.some.inj hf
    exact tc_rz X hP hD hS rfl dX7_isPropped_16 (by decide) rfl rfl
  · have hf := tc_neg hc hf
    refine lv_iconst (v := (1 : Int32)) hx hb dX7_isPropped_11 (by decide) ?_
    refine lv_goto (tgt := 16) hx hb dX7_isPropped_12 (by decide) ?_
    obtain rfl := Option.some.inj hf
    exact tc_rz X hP hD hS rfl dX7_isPropped_16 (by decide) rfl rfl
theorem pw0_7_1_7 (ca : Nat → ClassId) (q0 q1 : Nat → Nat) (r0_0 r0_1 : Value) (S0 S1 : ms_T) (v : Int32) : (w0 ca q0 r0_0 r0_1 S0 ++ w7 ca q1 S1 : va_W).set 2 (q1 0, .inr (7, List.set (.int (gi S1 0) :: .int (gi S1 1) :: .ref (q1 1) :: .ref (q1 2) :: .int (gi S1 4) :: .ref (q1 3) :: .ref (q1 4) :: .int (gi S1 7) :: .int (gi S1 8) :: .ref (q1 5) :: .ref (q1 6) :: .ref (q1 7) :: .int (gi S1 12) :: .int (gi S1 13) :: .ref (q1 8) :: .ref (q1 9) :: .int (gi S1 16) :: .ref (q1 10) :: []) 7 (.int v))) = w0 ca q0 r0_0 r0_1 S0 ++ w7 ca q1 (si S1 7 v) := rfl
def fX0_doProp  (SV : ms_T) (ST : ms_T) (a1 : Int32) : Option (ms_T × ms_T) :=
  (fX7_isPropped ST a1).bind fun z1 =>
  if z1 = 0 then
    some (SV, si ST 7 ((gi ST 7) ||| ((1 : Int32) <<< (a1 &&& 31))))
  else
    some (si SV 5 ((gi SV 5) + (1 : Int32)), ST)
abbrev rmX0_doProp : Room := { frames := 1, cells := 0, slots := 0, locals := 21 }
theorem okX0_doProp : tc_ok yX0_doProp cX0_doProp 2 none 1 := ⟨wc_X0_doProp, wn_X0, by decide, by decide, by decide +kernel⟩
set_option maxRecDepth 20000 in
theorem mX0_doProp {qV : Nat → Nat} {qT : Nat → Nat} {rV1 : Value} {SV : ms_T} {ST : ms_T} {a1 : Int32} {z : ms_T × ms_T}  (hf : fX0_doProp SV ST a1 = some z) : tc_MV l dC dI ca yX0_doProp cX0_doProp 2 none rmX0_doProp [.ref (qV 0), .int (a1)] (w0 ca qV (.ref (qT 0)) (rV1) SV ++ w7 ca qT ST) (w0 ca qV (.ref (qT 0)) (rV1) z.1 ++ w7 ca qT z.2) := by
  refine tc_metV (own := RX0) (by decide) rfl ?_ (Nat.le_of_ble_eq_true rfl)
  intro p e s m below meth c A X hP hD hS ls hl
  obtain ⟨hx, hb, hr, hml, hown, hts, hlk, hK, hA, hG⟩ := id X
  unfold fX0_doProp at hf
  have hl : lv_has ls 2 [(0, .ref (qV 0)), (1, .int (a1))] := hl
  refine lv_aload_n hx hb dX0_doProp_0 rfl (lv_at hl 0 rfl) ?_
  refine va_get (D := (dC, dI)) (ci := 0) (v := .ref (qT 0)) (C := RX0) (T := TX0) (N := 10) hx hb hts i_X0 hown hK hP 0 rfl rfl 0 (by decide) (hts _ wf_X0_15) (fun _ h9 => h9) rfl dX0_doProp_1 ?_
  refine lv_iload_n hx hb dX0_doProp_4 rfl (lv_at hl 1 rfl) ?_
  obtain ⟨z1, hg, hf⟩ := tc_bi hf
  refine tc_iV (As := [.int (a1)]) (rest := []) (b := qT 0) (wc := w7 ca qT ST) (wr := w0 ca qV (.ref (qT 0)) (rV1) SV) X hP hD hS (mX7_isPropped hg) okX7_isPropped wl_X0_118 wi_X7_isPropped ws_X7_X7_isPropped_X7_isPropped ⟨rfl, rfl, Nat.le_of_ble_eq_true rfl, Nat.le_of_ble_eq_true rfl⟩ 7 0 rfl rfl [2, 3, 4, 5, 6, 7, 8, 9, 10, 11, 12] [0, 1] ⟨rfl, rfl, rfl, rfl, by decide⟩ rfl hl.1 (Nat.le_of_ble_eq_true rfl) dX0_doProp_5 (fun H locs hP hD hS => ?_)
  have hP := hP.sub (ws' := (w0 ca qV (.ref (qT 0)) (rV1) SV ++ w7 ca qT ST)) [0, 1, 2, 3, 4, 5, 6, 7, 8, 9, 10, 11, 12] rfl
  have hD := hD.sub (ws' := (w0 ca qV (.ref (qT 0)) (rV1) SV ++ w7 ca qT ST)) [0, 1, 2, 3, 4, 5, 6, 7, 8, 9, 10, 11, 12] rfl rfl
  refine lv_if_eq (tgt := 24) hx hb dX0_doProp_8 (by decide) (fun hc => ?_) (fun hc => ?_)
  · have hf := tc_pos hc hf
    refine lv_aload_n hx hb dX0_doProp_24 rfl (lv_at hl 0 rfl) ?_
    refine va_get (D := (dC, dI)) (ci := 0) (v := .ref (qT 0)) (C := RX0) (T := TX0) (N := 10) hx hb hts i_X0 hown hK hP 0 rfl rfl 0 (by decide) (hts _ wf_X0_15) (fun _ h9 => h9) rfl dX0_doProp_25 ?_
    refine lv_dup hx hb dX0_doProp_28 rfl ?_
    refine va_get (D := (dC, dI)) (ci := 7) (v := .int (gi ST 7)) (C := RX7) (T := TX7) (N := 18) hx hb hts i_X7 hown hK hP 2 rfl rfl 7 (by decide) (hts _ wf_X0_121) (fun _ h9 => h9) rfl dX0_doProp_29 ?_
    refine lv_iconst (v := (1 : Int32)) hx hb dX0_doProp_32 (by decide) ?_
    refine lv_iload_n hx hb dX0_doProp_33 rfl (lv_at hl 1 rfl) ?_
    refine lv_ishl hx hb dX0_doProp_34 ?_
    refine lv_ior hx hb dX0_doProp_35 ?_
    refine va_put (D := (dC, dI)) (ci := 7) (v := .int ((gi ST 7) ||| ((1 : Int32) <<< (a1 &&& 31)))) (ty := .int) (C := RX7) (T := TX7) (N := 18) hx hb hts i_X7 tyX7 tyX7_ok nmX7 hown hK hP hD hS 2 rfl rfl 7 (by decide) (hts _ wf_X0_121) (fun _ h9 => h9) rfl (tyX7_ok 7 (by decide)) rfl rfl (Nat.le_of_ble_eq_true rfl) dX0_doProp_36 (fun H locs hP hD hS => ?_)
    have hP := tc_eP (pw0_7_1_7 ca qV qT (.ref (qT 0)) (rV1) SV ST ((gi ST 7) ||| ((1 : Int32) <<< (a1 &&& 31)))) hP
    have hD := tc_eD (pw0_7_1_7 ca qV qT (.ref (qT 0)) (rV1) SV ST ((gi ST 7) ||| ((1 : Int32) <<< (a1 &&& 31)))) hD
    obtain rfl := Option.some.inj hf
    exact tc_rv X hP hD hS rfl dX0_doProp_39 rfl
  · have hf := tc_neg hc hf
    refine lv_aload_n hx hb dX0_doProp_11 rfl (lv_at hl 0 rfl) ?_
    refine lv_dup hx hb dX0_doProp_12 rfl ?_
    refine va_get (D := (dC, dI)) (ci := 0) (v := .int (gi SV 5)) (C := RX0) (T := TX0) (N := 10) hx hb hts i_X0 hown hK hP 0 rfl rfl 5 (by decide) (hts _ wf_X0_30) (fun _ h9 => h9) rfl dX0_doProp_13 ?_
    refine lv_iconst (v := (1 : Int32)) hx hb dX0_doProp_16 (by decide) ?_
    refine lv_iadd hx hb dX0_doProp_17 ?_
    refine va_put (D := (dC, dI)) (ci := 0) (v := .int ((gi SV 5) + (1 : Int32))) (ty := .int) (C := RX0) (T := TX0) (N := 10) hx hb hts i_X0 tyX0 tyX0_ok nmX0 hown hK hP hD hS 0 rfl rfl 5 (by decide) (hts _ wf_X0_30) (fun _ h9 => h9) rfl (tyX0_ok 5 (by decide)) rfl rfl (Nat.le_of_ble_eq_true rfl) dX0_doProp_18 (fun H locs hP hD hS => ?_)
    have hP := tc_eP (pw0_7_0_5 ca qV qT (.ref (qT 0)) (rV1) SV ST ((gi SV 5) + (1 : Int32))) hP
    have hD := tc_eD (pw0_7_0_5 ca qV qT (.ref (qT 0)) (rV1) SV ST ((gi SV 5) + (1 : Int32))) hD
    refine lv_goto (tgt := 39) hx hb dX0_doProp_21 (by decide) ?_
    obtain rfl := Option.some.inj hf
    exact tc_rv X hP hD hS rfl dX0_doProp_39 rfl
def fX0_doCut  (SV : ms_T) (ST : ms_T) (a1 : Int32) : Option (ms_T × ms_T) :=
  (fX7_isPropped ST a1).bind fun z1 =>
  if z1 = 0 then
    some (si SV 5 ((gi SV 5) + (1 : Int32)), ST)
  else
    some (SV, si ST 7 ((gi ST 7) &&& (((1 : Int32) <<< (a1 &&& 31)) ^^^ (-1 : Int32))))
abbrev rmX0_doCut : Room := { frames := 1, cells := 0, slots := 0, locals := 21 }
theorem okX0_doCut : tc_ok yX0_doCut cX0_doCut 2 none 1 := ⟨wc_X0_doCut, wn_X0, by decide, by decide, by decide +kernel⟩
set_option maxRecDepth 20000 in
theorem mX0_doCut {qV : Nat → Nat} {qT : Nat → Nat} {rV1 : Value} {SV : ms_T} {ST : ms_T} {a1 : Int32} {z : ms_T × ms_T}  (hf : fX0_doCut SV ST a1 = some z) : tc_MV l dC dI ca yX0_doCut cX0_doCut 2 none rmX0_doCut [.ref (qV 0), .int (a1)] (w0 ca qV (.ref (qT 0)) (rV1) SV ++ w7 ca qT ST) (w0 ca qV (.ref (qT 0)) (rV1) z.1 ++ w7 ca qT z.2) := by
  refine tc_metV (own := RX0) (by decide) rfl ?_ (Nat.le_of_ble_eq_true rfl)
  intro p e s m below meth c A X hP hD hS ls hl
  obtain ⟨hx, hb, hr, hml, hown, hts, hlk, hK, hA, hG⟩ := id X
  unfold fX0_doCut at hf
  have hl : lv_has ls 2 [(0, .ref (qV 0)), (1, .int (a1))] := hl
  refine lv_aload_n hx hb dX0_doCut_0 rfl (lv_at hl 0 rfl) ?_
  refine va_get (D := (dC, dI)) (ci := 0) (v := .ref (qT 0)) (C := RX0) (T := TX0) (N := 10) hx hb hts i_X0 hown hK hP 0 rfl rfl 0 (by decide) (hts _ wf_X0_15) (fun _ h9 => h9) rfl dX0_doCut_1 ?_
  refine lv_iload_n hx hb dX0_doCut_4 rfl (lv_at hl 1 rfl) ?_
  obtain ⟨z1, hg, hf⟩ := tc_bi hf
  refine tc_iV (As := [.int (a1)]) (rest := []) (b := qT 0) (wc := w7 ca qT ST) (wr := w0 ca qV (.ref (qT 0)) (rV1) SV) X hP hD hS (mX7_isPropped hg) okX7_isPropped wl_X0_118 wi_X7_isPropped ws_X7_X7_isPropped_X7_isPropped ⟨rfl, rfl, Nat.le_of_ble_eq_true rfl, Nat.le_of_ble_eq_true rfl⟩ 7 0 rfl rfl [2, 3, 4, 5, 6, 7, 8, 9, 10, 11, 12] [0, 1] ⟨rfl, rfl, rfl, rfl, by decide⟩ rfl hl.1 (Nat.le_of_ble_eq_true rfl) dX0_doCut_5 (fun H locs hP hD hS => ?_)
  have hP := hP.sub (ws' := (w0 ca qV (.ref (qT 0)) (rV1) SV ++ w7 ca qT ST)) [0, 1, 2, 3, 4, 5, 6, 7, 8, 9, 10, 11, 12] rfl
  have hD := hD.sub (ws' := (w0 ca qV (.ref (qT 0)) (rV1) SV ++ w7 ca qT ST)) [0, 1, 2, 3, 4, 5, 6, 7, 8, 9, 10, 11, 12] rfl rfl
  refine lv_if_eq (tgt := 31) hx hb dX0_doCut_8 (by decide) (fun hc => ?_) (fun hc => ?_)
  · have hf := tc_pos hc hf
    refine lv_aload_n hx hb dX0_doCut_31 rfl (lv_at hl 0 rfl) ?_
    refine lv_dup hx hb dX0_doCut_32 rfl ?_
    refine va_get (D := (dC, dI)) (ci := 0) (v := .int (gi SV 5)) (C := RX0) (T := TX0) (N := 10) hx hb hts i_X0 hown hK hP 0 rfl rfl 5 (by decide) (hts _ wf_X0_30) (fun _ h9 => h9) rfl dX0_doCut_33 ?_
    refine lv_iconst (v := (1 : Int32)) hx hb dX0_doCut_36 (by decide) ?_
    refine lv_iadd hx hb dX0_doCut_37 ?_
    refine va_put (D := (dC, dI)) (ci := 0) (v := .int ((gi SV 5) + (1 : Int32))) (ty := .int) (C := RX0) (T := TX0) (N := 10) hx hb hts i_X0 tyX0 tyX0_ok nmX0 hown hK hP hD hS 0 rfl rfl 5 (by decide) (hts _ wf_X0_30) (fun _ h9 => h9) rfl (tyX0_ok 5 (by decide)) rfl rfl (Nat.le_of_ble_eq_true rfl) dX0_doCut_38 (fun H locs hP hD hS => ?_)
    have hP := tc_eP (pw0_7_0_5 ca qV qT (.ref (qT 0)) (rV1) SV ST ((gi SV 5) + (1 : Int32))) hP
    have hD := tc_eD (pw0_7_0_5 ca qV qT (.ref (qT 0)) (rV1) SV ST ((gi SV 5) + (1 : Int32))) hD
    obtain rfl := Option.some.inj hf
    exact tc_rv X hP hD hS rfl dX0_doCut_41 rfl
  · have hf := tc_neg hc hf
    refine lv_aload_n hx hb dX0_doCut_11 rfl (lv_at hl 0 rfl) ?_
    refine va_get (D := (dC, dI)) (ci := 0) (v := .ref (qT 0)) (C := RX0) (T := TX0) (N := 10) hx hb hts i_X0 hown hK hP 0 rfl rfl 0 (by decide) (hts _ wf_X0_15) (fun _ h9 => h9) rfl dX0_doCut_12 ?_
    refine lv_dup hx hb dX0_doCut_15 rfl ?_
    refine va_get (D := (dC, dI)) (ci := 7) (v := .int (gi ST 7)) (C := RX7) (T := TX7) (N := 18) hx hb hts i_X7 hown hK hP 2 rfl rfl 7 (by decide) (hts _ wf_X0_121) (fun _ h9 => h9) rfl dX0_doCut_16 ?_
    refine lv_iconst (v := (1 : Int32)) hx hb dX0_doCut_19 (by decide) ?_
    refine lv_iload_n hx hb dX0_doCut_20 rfl (lv_at hl 1 rfl) ?_
    refine lv_ishl hx hb dX0_doCut_21 ?_
    refine lv_iconst (v := (-1 : Int32)) hx hb dX0_doCut_22 (by decide) ?_
    refine lv_ixor hx hb dX0_doCut_23 ?_
    refine lv_iand hx hb dX0_doCut_24 ?_
    refine va_put (D := (dC, dI)) (ci := 7) (v := .int ((gi ST 7) &&& (((1 : Int32) <<< (a1 &&& 31)) ^^^ (-1 : Int32)))) (ty := .int) (C := RX7) (T := TX7) (N := 18) hx hb hts i_X7 tyX7 tyX7_ok nmX7 hown hK hP hD hS 2 rfl rfl 7 (by decide) (hts _ wf_X0_121) (fun _ h9 => h9) rfl (tyX7_ok 7 (by decide)) rfl rfl (Nat.le_of_ble_eq_true rfl) dX0_doCut_25 (fun H locs hP hD hS => ?_)
    have hP := tc_eP (pw0_7_1_7 ca qV qT (.ref (qT 0)) (rV1) SV ST ((gi ST 7) &&& (((1 : Int32) <<< (a1 &&& 31)) ^^^ (-1 : Int32)))) hP
    have hD := tc_eD (pw0_7_1_7 ca qV qT (.ref (qT 0)) (rV1) SV ST ((gi ST 7) &&& (((1 : Int32) <<< (a1 &&& 31)) ^^^ (-1 : Int32)))) hD
    refine lv_goto (tgt := 41) hx hb dX0_doCut_28 (by decide) ?_
    obtain rfl := Option.some.inj hf
    exact tc_rv X hP hD hS rfl dX0_doCut_41 rfl
def fX0_doAny  (SV : ms_T) (ST : ms_T)  : Option (ms_T × ms_T) :=
  if (gi ST 8) = 0 then
    some (si SV 5 ((gi SV 5) + (1 : Int32)), ST)
  else
    if (gi ST 4) = 0 then
      some (si SV 5 ((gi SV 5) + (1 : Int32)), ST)
    else
      (fX0_draw SV (gi ST 8)).bind fun z1 =>
      (fX0_draw z1.2 (gi ST 4)).bind fun z2 =>
      (fX7_isFalling ST z1.1).bind fun z3 =>
      if z3 = 0 then
        (fX0_doSay z2.2 ST z1.1 z2.1).bind fun z4 =>
        some (z4.1, z4.2)
      else
        (fX0_doPull z2.2 ST z1.1).bind fun z5 =>
        some (z5.1, z5.2)
abbrev rmX0_doAny : Room := { frames := 4, cells := 0, slots := 0, locals := 90 }
theorem okX0_doAny : tc_ok yX0_doAny cX0_doAny 3 none 0 := ⟨wc_X0_doAny, wn_X0, by decide, by decide, by decide +kernel⟩
set_option maxRecDepth 20000 in
theorem mX0_doAny {qV : Nat → Nat} {qT : Nat → Nat} {rV1 : Value} {SV : ms_T} {ST : ms_T}  {z : ms_T × ms_T}  (hf : fX0_doAny SV ST = some z) : tc_MV l dC dI ca yX0_doAny cX0_doAny 3 none rmX0_doAny [.ref (qV 0)] (w0 ca qV (.ref (qT 0)) (rV1) SV ++ w7 ca qT ST) (w0 ca qV (.ref (qT 0)) (rV1) z.1 ++ w7 ca qT z.2) := by
  refine tc_metV (own := RX0) (by decide) rfl ?_ (Nat.le_of_ble_eq_true rfl)
  intro p e s m below meth c A X hP hD hS ls hl
  obtain ⟨hx, hb, hr, hml, hown, hts, hlk, hK, hA, hG⟩ := id X
  unfold fX0_doAny at hf
  have hl : lv_has ls 3 [(0, .ref (qV 0))] := hl
  refine lv_aload_n hx hb dX0_doAny_0 rfl (lv_at hl 0 rfl) ?_
  refine va_get (D := (dC, dI)) (ci := 0) (v := .ref (qT 0)) (C := RX0) (T := TX0) (N := 10) hx hb hts i_X0 hown hK hP 0 rfl rfl 0 (by decide) (hts _ wf_X0_15) (fun _ h9 => h9) rfl dX0_doAny_1 ?_
  refine va_get (D := (dC, dI)) (ci := 7) (v := .int (gi ST 8)) (C := RX7) (T := TX7) (N := 18) hx hb hts i_X7 hown hK hP 2 rfl rfl 8 (by decide) (hts _ wf_X0_124) (fun _ h9 => h9) rfl dX0_doAny_4 ?_
  refine lv_if_eq (tgt := 20) hx hb dX0_doAny_7 (by decide) (fun hc => ?_) (fun hc => ?_)
  · have hf := tc_pos hc hf
    refine lv_aload_n hx hb dX0_doAny_20 rfl (lv_at hl 0 rfl) ?_
    refine lv_dup hx hb dX0_doAny_21 rfl ?_
    refine va_get (D := (dC, dI)) (ci := 0) (v := .int (gi SV 5)) (C := RX0) (T := TX0) (N := 10) hx hb hts i_X0 hown hK hP 0 rfl rfl 5 (by decide) (hts _ wf_X0_30) (fun _ h9 => h9) rfl dX0_doAny_22 ?_
    refine lv_iconst (v := (1 : Int32)) hx hb dX0_doAny_25 (by decide) ?_
    refine lv_iadd hx hb dX0_doAny_26 ?_
    refine va_put (D := (dC, dI)) (ci := 0) (v := .int ((gi SV 5) + (1 : Int32))) (ty := .int) (C := RX0) (T := TX0) (N := 10) hx hb hts i_X0 tyX0 tyX0_ok nmX0 hown hK hP hD hS 0 rfl rfl 5 (by decide) (hts _ wf_X0_30) (fun _ h9 => h9) rfl (tyX0_ok 5 (by decide)) rfl rfl (Nat.le_of_ble_eq_true rfl) dX0_doAny_27 (fun H locs hP hD hS => ?_)
    have hP := tc_eP (pw0_7_0_5 ca qV qT (.ref (qT 0)) (rV1) SV ST ((gi SV 5) + (1 : Int32))) hP
    have hD := tc_eD (pw0_7_0_5 ca qV qT (.ref (qT 0)) (rV1) SV ST ((gi SV 5) + (1 : Int32))) hD
    obtain rfl := Option.some.inj hf
    exact tc_rv X hP hD hS rfl dX0_doAny_30 rfl
  · have hf := tc_neg hc hf
    refine lv_aload_n hx hb dX0_doAny_10 rfl (lv_at hl 0 rfl) ?_
    refine va_get (D := (dC, dI)) (ci := 0) (v := .ref (qT 0)) (C := RX0) (T := TX0) (N := 10) hx hb hts i_X0 hown hK hP 0 rfl rfl 0 (by decide) (hts _ wf_X0_15) (fun _ h9 => h9) rfl dX0_doAny_11 ?_
    refine va_get (D := (dC, dI)) (ci := 7) (v := .int (gi ST 4)) (C := RX7) (T := TX7) (N := 18) hx hb hts i_X7 hown hK hP 2 rfl rfl 4 (by decide) (hts _ wf_X0_127) (fun _ h9 => h9) rfl dX0_doAny_14 ?_
    refine lv_if_ne (tgt := 31) hx hb dX0_doAny_17 (by decide) (fun hc => ?_) (fun hc => ?_)
    · have hf := tc_neg hc hf
      refine lv_aload_n hx hb dX0_doAny_31 rfl (lv_at hl 0 rfl) ?_
      refine lv_aload_n hx hb dX0_doAny_32 rfl (lv_at hl 0 rfl) ?_
      refine va_get (D := (dC, dI)) (ci := 0) (v := .ref (qT 0)) (C := RX0) (T := TX0) (N := 10) hx hb hts i_X0 hown hK hP 0 rfl rfl 0 (by decide) (hts _ wf_X0_15) (fun _ h9 => h9) rfl dX0_doAny_33 ?_
      refine va_get (D := (dC, dI)) (ci := 7) (v := .int (gi ST 8)) (C := RX7) (T := TX7) (N := 18) hx hb hts i_X7 hown hK hP 2 rfl rfl 8 (by decide) (hts _ wf_X0_124) (fun _ h9 => h9) rfl dX0_doAny_36 ?_
      obtain ⟨z1, hg, hf⟩ := tc_bi hf
      refine tc_iV (As := [.int (gi ST 8)]) (rest := []) (b := qV 0) (wc := w0 ca qV (.ref (qT 0)) (rV1) SV) (wr := w7 ca qT ST) X hP hD hS (mX0_draw hg) okX0_draw wl_X0_108 wi_X0_draw ws_X0_X0_draw_X0_draw ⟨rfl, rfl, Nat.le_of_ble_eq_true rfl, Nat.le_of_ble_eq_true rfl⟩ 0 0 rfl rfl [0, 1] [2, 3, 4, 5, 6, 7, 8, 9, 10, 11, 12] ⟨rfl, rfl, rfl, rfl, by decide⟩ rfl hl.1 (Nat.le_of_ble_eq_true rfl) dX0_doAny_39 (fun H locs hP hD hS => ?_)
      have hP := hP.sub (ws' := (w0 ca qV (.ref (qT 0)) (rV1) z1.2 ++ w7 ca qT ST)) [11, 12, 0, 1, 2, 3, 4, 5, 6, 7, 8, 9, 10] rfl
      have hD := hD.sub (ws' := (w0 ca qV (.ref (qT 0)) (rV1) z1.2 ++ w7 ca qT ST)) [11, 12, 0, 1, 2, 3, 4, 5, 6, 7, 8, 9, 10] rfl rfl
      refine lv_istore_n (lv' := [(1, .int (z1.1)), (0, .ref (qV 0))]) hx hb dX0_doAny_42 rfl hl (by decide) rfl (fun ls hl => ?_)
      refine lv_aload_n hx hb dX0_doAny_43 rfl (lv_at hl 1 rfl) ?_
      refine lv_aload_n hx hb dX0_doAny_44 rfl (lv_at hl 1 rfl) ?_
      refine va_get (D := (dC, dI)) (ci := 0) (v := .ref (qT 0)) (C := RX0) (T := TX0) (N := 10) hx hb hts i_X0 hown hK hP 0 rfl rfl 0 (by decide) (hts _ wf_X0_15) (fun _ h9 => h9) rfl dX0_doAny_45 ?_
      refine va_get (D := (dC, dI)) (ci := 7) (v := .int (gi ST 4)) (C := RX7) (T := TX7) (N := 18) hx hb hts i_X7 hown hK hP 2 rfl rfl 4 (by decide) (hts _ wf_X0_127) (fun _ h9 => h9) rfl dX0_doAny_48 ?_
      obtain ⟨z2, hg, hf⟩ := tc_bi hf
      refine tc_iV (As := [.int (gi ST 4)]) (rest := []) (b := qV 0) (wc := w0 ca qV (.ref (qT 0)) (rV1) z1.2) (wr := w7 ca qT ST) X hP hD hS (mX0_draw hg) okX0_draw wl_X0_108 wi_X0_draw ws_X0_X0_draw_X0_draw ⟨rfl, rfl, Nat.le_of_ble_eq_true rfl, Nat.le_of_ble_eq_true rfl⟩ 0 0 rfl rfl [0, 1] [2, 3, 4, 5, 6, 7, 8, 9, 10, 11, 12] ⟨rfl, rfl, rfl, rfl, by decide⟩ rfl hl.1 (Nat.le_of_ble_eq_true rfl) dX0_doAny_51 (fun H locs hP hD hS => ?_)
      have hP := hP.sub (ws' := (w0 ca qV (.ref (qT 0)) (rV1) z2.2 ++ w7 ca qT ST)) [11, 12, 0, 1, 2, 3, 4, 5, 6, 7, 8, 9, 10] rfl
      have hD := hD.sub (ws' := (w0 ca qV (.ref (qT 0)) (rV1) z2.2 ++ w7 ca qT ST)) [11, 12, 0, 1, 2, 3, 4, 5, 6, 7, 8, 9, 10] rfl rfl
      refine lv_istore_n (lv' := [(2, .int (z2.1)), (1, .int (z1.1)), (0, .ref (qV 0))]) hx hb dX0_doAny_54 rfl hl (by decide) rfl (fun ls hl => ?_)
      refine lv_aload_n hx hb dX0_doAny_55 rfl (lv_at hl 2 rfl) ?_
      refine va_get (D := (dC, dI)) (ci := 0) (v := .ref (qT 0)) (C := RX0) (T := TX0) (N := 10) hx hb hts i_X0 hown hK hP 0 rfl rfl 0 (by decide) (hts _ wf_X0_15) (fun _ h9 => h9) rfl dX0_doAny_56 ?_
      refine lv_iload_n hx hb dX0_doAny_59 rfl (lv_at hl 1 rfl) ?_
      obtain ⟨z3, hg, hf⟩ := tc_bi hf
      refine tc_iV (As := [.int (z1.1)]) (rest := []) (b := qT 0) (wc := w7 ca qT ST) (wr := w0 ca qV (.ref (qT 0)) (rV1) z2.2) X hP hD hS (mX7_isFalling hg) okX7_isFalling wl_X0_102 wi_X7_isFalling ws_X7_X7_isFalling_X7_isFalling ⟨rfl, rfl, Nat.le_of_ble_eq_true rfl, Nat.le_of_ble_eq_true rfl⟩ 7 0 rfl rfl [2, 3, 4, 5, 6, 7, 8, 9, 10, 11, 12] [0, 1] ⟨rfl, rfl, rfl, rfl, by decide⟩ rfl hl.1 (Nat.le_of_ble_eq_true rfl) dX0_doAny_60 (fun H locs hP hD hS => ?_)
      have hP := hP.sub (ws' := (w0 ca qV (.ref (qT 0)) (rV1) z2.2 ++ w7 ca qT ST)) [0, 1, 2, 3, 4, 5, 6, 7, 8, 9, 10, 11, 12] rfl
      have hD := hD.sub (ws' := (w0 ca qV (.ref (qT 0)) (rV1) z2.2 ++ w7 ca qT ST)) [0, 1, 2, 3, 4, 5, 6, 7, 8, 9, 10, 11, 12] rfl rfl
      refine lv_if_eq (tgt := 74) hx hb dX0_doAny_63 (by decide) (fun hc => ?_) (fun hc => ?_)
      · have hf := tc_pos hc hf
        refine lv_aload_n hx hb dX0_doAny_74 rfl (lv_at hl 2 rfl) ?_
        refine lv_iload_n hx hb dX0_doAny_75 rfl (lv_at hl 1 rfl) ?_
        refine lv_iload_n hx hb dX0_doAny_76 rfl (lv_at hl 0 rfl) ?_
        obtain ⟨z4, hg, hf⟩ := tc_bi hf
        refine tc_vVs (As := [.int (z1.1), .int (z2.1)]) (rest := []) (b := qV 0) X hP hD hS (mX0_doSay hg) okX0_doSay wl_X0_69 wi_X0_doSay ws_X0_X0_doSay_X0_doSay ⟨rfl, rfl, Nat.le_of_ble_eq_true rfl, Nat.le_of_ble_eq_true rfl⟩ 0 0 rfl rfl rfl hl.1 (Nat.le_of_ble_eq_true rfl) dX0_doAny_77 (fun H locs hP hD hS => ?_)
        obtain rfl := Option.some.inj hf
        exact tc_rv X hP hD hS rfl dX0_doAny_80 rfl
      · have hf := tc_neg hc hf
        refine lv_aload_n hx hb dX0_doAny_66 rfl (lv_at hl 2 rfl) ?_
        refine lv_iload_n hx hb dX0_doAny_67 rfl (lv_at hl 1 rfl) ?_
        obtain ⟨z5, hg, hf⟩ := tc_bi hf
        refine tc_vVs (As := [.int (z1.1)]) (rest := []) (b := qV 0) X hP hD hS (mX0_doPull hg) okX0_doPull wl_X0_76 wi_X0_doPull ws_X0_X0_doPull_X0_doPull ⟨rfl, rfl, Nat.le_of_ble_eq_true rfl, Nat.le_of_ble_eq_true rfl⟩ 0 0 rfl rfl rfl hl.1 (Nat.le_of_ble_eq_true rfl) dX0_doAny_68 (fun H locs hP hD hS => ?_)
        refine lv_goto (tgt := 80) hx hb dX0_doAny_71 (by decide) ?_
        obtain rfl := Option.some.inj hf
        exact tc_rv X hP hD hS rfl dX0_doAny_80 rfl
    · have hf := tc_pos hc hf
      refine lv_aload_n hx hb dX0_doAny_20 rfl (lv_at hl 0 rfl) ?_
      refine lv_dup hx hb dX0_doAny_21 rfl ?_
      refine va_get (D := (dC, dI)) (ci := 0) (v := .int (gi SV 5)) (C := RX0) (T := TX0) (N := 10) hx hb hts i_X0 hown hK hP 0 rfl rfl 5 (by decide) (hts _ wf_X0_30) (fun _ h9 => h9) rfl dX0_doAny_22 ?_
      refine lv_iconst (v := (1 : Int32)) hx hb dX0_doAny_25 (by decide) ?_
      refine lv_iadd hx hb dX0_doAny_26 ?_
      refine va_put (D := (dC, dI)) (ci := 0) (v := .int ((gi SV 5) + (1 : Int32))) (ty := .int) (C := RX0) (T := TX0) (N := 10) hx hb hts i_X0 tyX0 tyX0_ok nmX0 hown hK hP hD hS 0 rfl rfl 5 (by decide) (hts _ wf_X0_30) (fun _ h9 => h9) rfl (tyX0_ok 5 (by decide)) rfl rfl (Nat.le_of_ble_eq_true rfl) dX0_doAny_27 (fun H locs hP hD hS => ?_)
      have hP := tc_eP (pw0_7_0_5 ca qV qT (.ref (qT 0)) (rV1) SV ST ((gi SV 5) + (1 : Int32))) hP
      have hD := tc_eD (pw0_7_0_5 ca qV qT (.ref (qT 0)) (rV1) SV ST ((gi SV 5) + (1 : Int32))) hD
      obtain rfl := Option.some.inj hf
      exact tc_rv X hP hD hS rfl dX0_doAny_30 rfl
def fX0_holdsHere  (SV : ms_T) (ST : ms_T) (SE : ms_T) (a1 : Int32) : Option (Int32) :=
  if inb a1 60 = true then
    if inb a1 60 = true then
      if (ia SE 4 a1) = (20 : Int32) then
        (fX7_standing ST).bind fun z3 =>
        if ((z3 >>> ((ia SE 2 a1) &&& 31)) &&& (1 : Int32)) = 0 then
          some ((0 : Int32))
        else
          some ((1 : Int32))
      else
        if (ia SE 4 a1) = (21 : Int32) then
          (fX7_isFalling ST (ia SE 2 a1)).bind fun z4 =>
          if z4 &&& 1 = z4 then
            some (z4)
          else none
        else
          if (ia SE 4 a1) = (60 : Int32) then
            if inb (ia SE 2 a1) 6 = true then
              if inb a1 60 = true then
                if (ia SE 3 a1) ≤ (ia ST 6 (ia SE 2 a1)) then
                  some ((0 : Int32))
                else
                  some ((1 : Int32))
              else none
            else none
          else
            if (ia SE 4 a1) = (62 : Int32) then
              if inb (ia SE 2 a1) 6 = true then
                if inb a1 60 = true then
                  if (ia ST 6 (ia SE 2 a1)) ≤ (ia SE 3 a1) then
                    some ((0 : Int32))
                  else
                    some ((1 : Int32))
                else none
              else none
            else
              if inb (ia SE 2 a1) 6 = true then
                if inb a1 60 = true then
                  if (ia ST 6 (ia SE 2 a1)) = (ia SE 3 a1) then
                    some ((1 : Int32))
                  else
                    some ((0 : Int32))
                else none
              else none
    else none
  else none
abbrev rmX0_holdsHere : Room := { frames := 2, cells := 0, slots := 0, locals := 45 }
theorem okX0_holdsHere : tc_ok yX0_holdsHere cX0_holdsHere 3 (some .boolean) 1 := ⟨wc_X0_holdsHere, wn_X0, by decide, by decide, by decide +kernel⟩
set_option maxRecDepth 20000 in
theorem mX0_holdsHere {qV : Nat → Nat} {qT : Nat → Nat} {qE : Nat → Nat}  {SV : ms_T} {ST : ms_T} {SE : ms_T} {a1 : Int32} {z : Int32}  (hf : fX0_holdsHere SV ST SE a1 = some z) : tc_MI l dC dI ca yX0_holdsHere cX0_holdsHere 3 (some .boolean) rmX0_holdsHere [.ref (qV 0), .int (a1)] (w0 ca qV (.ref (qT 0)) (.ref (qE 0)) SV ++ w7 ca qT ST ++ w1 ca qE SE) (w0 ca qV (.ref (qT 0)) (.ref (qE 0)) SV ++ w7 ca qT ST ++ w1 ca qE SE) (z) := by
  refine tc_metI (own := RX0) (by decide) rfl ?_ (Nat.le_of_ble_eq_true rfl)
  intro p e s m below meth c A X hP hD hS ls hl
  obtain ⟨hx, hb, hr, hml, hown, hts, hlk, hK, hA, hG⟩ := id X
  unfold fX0_holdsHere at hf
  have hl : lv_has ls 3 [(0, .ref (qV 0)), (1, .int (a1))] := hl
  refine lv_aload_n hx hb dX0_holdsHere_0 rfl (lv_at hl 0 rfl) ?_
  refine va_get (D := (dC, dI)) (ci := 0) (v := .ref (qE 0)) (C := RX0) (T := TX0) (N := 10) hx hb hts i_X0 hown hK hP 0 rfl rfl 1 (by decide) (hts _ wf_X0_19) (fun _ h9 => h9) rfl dX0_holdsHere_1 ?_
  refine va_get (D := (dC, dI)) (ci := 1) (v := .ref (qE 2)) (C := RX1) (T := TX1) (N := 8) hx hb hts i_X1 hown hK hP 13 rfl rfl 4 (by decide) (hts _ wf_X0_63) (fun _ h9 => h9) rfl dX0_holdsHere_4 ?_
  refine lv_iload_n hx hb dX0_holdsHere_7 rfl (lv_at hl 1 rfl) ?_
  obtain ⟨hi1, hf⟩ := tc_in hf
  refine va_iald hx hb hK hP 15 1 rfl rfl hi1 dX0_holdsHere_8 ?_
  refine lv_istore_n (lv' := [(2, .int (ia SE 2 a1)), (0, .ref (qV 0)), (1, .int (a1))]) hx hb dX0_holdsHere_9 rfl hl (by decide) rfl (fun ls hl => ?_)
  refine lv_aload_n hx hb dX0_holdsHere_10 rfl (lv_at hl 1 rfl) ?_
  refine va_get (D := (dC, dI)) (ci := 0) (v := .ref (qE 0)) (C := RX0) (T := TX0) (N := 10) hx hb hts i_X0 hown hK hP 0 rfl rfl 1 (by decide) (hts _ wf_X0_19) (fun _ h9 => h9) rfl dX0_holdsHere_11 ?_
  refine va_get (D := (dC, dI)) (ci := 1) (v := .ref (qE 4)) (C := RX1) (T := TX1) (N := 8) hx hb hts i_X1 hown hK hP 13 rfl rfl 6 (by decide) (hts _ wf_X0_130) (fun _ h9 => h9) rfl dX0_holdsHere_14 ?_
  refine lv_iload_n hx hb dX0_holdsHere_17 rfl (lv_at hl 2 rfl) ?_
  obtain ⟨hi2, hf⟩ := tc_in hf
  refine va_iald hx hb hK hP 17 1 rfl rfl hi2 dX0_holdsHere_18 ?_
  by_cases hn20 : (ia SE 4 a1) = (20 : Int32)
  · have hf := tc_pos hn20 hf
    refine lv_lookup (off := 41) (tgt := 60) hx hb dX0_holdsHere_19 (by decide) (tc_sw (P := fun y => lookupswitch.offset (#[(20, 41), (21, 61), (60, 70), (62, 97)] : Array (Int × Int)).toList 124 y.toInt = 41) hn20 (by decide)) (by decide) ?_
    refine lv_aload_n hx hb dX0_holdsHere_60 rfl (lv_at hl 1 rfl) ?_
    refine va_get (D := (dC, dI)) (ci := 0) (v := .ref (qT 0)) (C := RX0) (T := TX0) (N := 10) hx hb hts i_X0 hown hK hP 0 rfl rfl 0 (by decide) (hts _ wf_X0_15) (fun _ h9 => h9) rfl dX0_holdsHere_61 ?_
    obtain ⟨z3, hg, hf⟩ := tc_bi hf
    refine tc_iV (As := []) (rest := []) (b := qT 0) (wc := w7 ca qT ST) (wr := w0 ca qV (.ref (qT 0)) (.ref (qE 0)) SV ++ w1 ca qE SE) X hP hD hS (mX7_standing hg) okX7_standing wl_X0_133 wi_X7_standing ws_X7_X7_standing_X7_standing ⟨rfl, rfl, Nat.le_of_ble_eq_true rfl, Nat.le_of_ble_eq_true rfl⟩ 7 0 rfl rfl [2, 3, 4, 5, 6, 7, 8, 9, 10, 11, 12] [0, 1, 13, 14, 15, 16, 17, 18] ⟨rfl, rfl, rfl, rfl, by decide⟩ rfl hl.1 (Nat.le_of_ble_eq_true rfl) dX0_holdsHere_64 (fun H locs hP hD hS => ?_)
    have hP := hP.sub (ws' := (w0 ca qV (.ref (qT 0)) (.ref (qE 0)) SV ++ w7 ca qT ST ++ w1 ca qE SE)) [0, 1, 8, 9, 10, 11, 12, 13, 14, 15, 16, 17, 18, 2, 3, 4, 5, 6, 7] rfl
    have hD := hD.sub (ws' := (w0 ca qV (.ref (qT 0)) (.ref (qE 0)) SV ++ w7 ca qT ST ++ w1 ca qE SE)) [0, 1, 8, 9, 10, 11, 12, 13, 14, 15, 16, 17, 18, 2, 3, 4, 5, 6, 7] rfl rfl
    refine lv_iload_n hx hb dX0_holdsHere_67 rfl (lv_at hl 0 rfl) ?_
    refine lv_ishr hx hb dX0_holdsHere_68 ?_
    refine lv_iconst (v := (1 : Int32)) hx hb dX0_holdsHere_69 (by decide) ?_
    refine lv_iand hx hb dX0_holdsHere_70 ?_
    refine lv_if_eq (tgt := 78) hx hb dX0_holdsHere_71 (by decide) (fun hc => ?_) (fun hc => ?_)
    · have hf := tc_pos hc hf
      refine lv_iconst (v := (0 : Int32)) hx hb dX0_holdsHere_78 (by decide) ?_
      obtain rfl := Option.some.inj hf
      exact tc_rz X hP hD hS rfl dX0_holdsHere_79 (by decide) rfl rfl
    · have hf := tc_neg hc hf
      refine lv_iconst (v := (1 : Int32)) hx hb dX0_holdsHere_74 (by decide) ?_
      refine lv_goto (tgt := 79) hx hb dX0_holdsHere_75 (by decide) ?_
      obtain rfl := Option.some.inj hf
      exact tc_rz X hP hD hS rfl dX0_holdsHere_79 (by decide) rfl rfl
  · have hf := tc_neg hn20 hf
    by_cases hn21 : (ia SE 4 a1) = (21 : Int32)
    · have hf := tc_pos hn21 hf
      refine lv_lookup (off := 61) (tgt := 80) hx hb dX0_holdsHere_19 (by decide) (tc_sw (P := fun y => lookupswitch.offset (#[(20, 41), (21, 61), (60, 70), (62, 97)] : Array (Int × Int)).toList 124 y.toInt = 61) hn21 (by decide)) (by decide) ?_
      refine lv_aload_n hx hb dX0_holdsHere_80 rfl (lv_at hl 1 rfl) ?_
      refine va_get (D := (dC, dI)) (ci := 0) (v := .ref (qT 0)) (C := RX0) (T := TX0) (N := 10) hx hb hts i_X0 hown hK hP 0 rfl rfl 0 (by decide) (hts _ wf_X0_15) (fun _ h9 => h9) rfl dX0_holdsHere_81 ?_
      refine lv_iload_n hx hb dX0_holdsHere_84 rfl (lv_at hl 0 rfl) ?_
      obtain ⟨z4, hg, hf⟩ := tc_bi hf
      refine tc_iV (As := [.int (ia SE 2 a1)]) (rest := []) (b := qT 0) (wc := w7 ca qT ST) (wr := w0 ca qV (.ref (qT 0)) (.ref (qE 0)) SV ++ w1 ca qE SE) X hP hD hS (mX7_isFalling hg) okX7_isFalling wl_X0_102 wi_X7_isFalling ws_X7_X7_isFalling_X7_isFalling ⟨rfl, rfl, Nat.le_of_ble_eq_true rfl, Nat.le_of_ble_eq_true rfl⟩ 7 0 rfl rfl [2, 3, 4, 5, 6, 7, 8, 9, 10, 11, 12] [0, 1, 13, 14, 15, 16, 17, 18] ⟨rfl, rfl, rfl, rfl, by decide⟩ rfl hl.1 (Nat.le_of_ble_eq_true rfl) dX0_holdsHere_85 (fun H locs hP hD hS => ?_)
      have hP := hP.sub (ws' := (w0 ca qV (.ref (qT 0)) (.ref (qE 0)) SV ++ w7 ca qT ST ++ w1 ca qE SE)) [0, 1, 8, 9, 10, 11, 12, 13, 14, 15, 16, 17, 18, 2, 3, 4, 5, 6, 7] rfl
      have hD := hD.sub (ws' := (w0 ca qV (.ref (qT 0)) (.ref (qE 0)) SV ++ w7 ca qT ST ++ w1 ca qE SE)) [0, 1, 8, 9, 10, 11, 12, 13, 14, 15, 16, 17, 18, 2, 3, 4, 5, 6, 7] rfl rfl
      obtain ⟨hz1, hf⟩ := tc_ck hf
      obtain rfl := Option.some.inj hf
      exact tc_rz X hP hD hS rfl dX0_holdsHere_88 hz1 rfl rfl
    · have hf := tc_neg hn21 hf
      by_cases hn60 : (ia SE 4 a1) = (60 : Int32)
      · have hf := tc_pos hn60 hf
        refine lv_lookup (off := 70) (tgt := 89) hx hb dX0_holdsHere_19 (by decide) (tc_sw (P := fun y => lookupswitch.offset (#[(20, 41), (21, 61), (60, 70), (62, 97)] : Array (Int × Int)).toList 124 y.toInt = 70) hn60 (by decide)) (by decide) ?_
        refine lv_aload_n hx hb dX0_holdsHere_89 rfl (lv_at hl 1 rfl) ?_
        refine va_get (D := (dC, dI)) (ci := 0) (v := .ref (qT 0)) (C := RX0) (T := TX0) (N := 10) hx hb hts i_X0 hown hK hP 0 rfl rfl 0 (by decide) (hts _ wf_X0_15) (fun _ h9 => h9) rfl dX0_holdsHere_90 ?_
        refine va_get (D := (dC, dI)) (ci := 7) (v := .ref (qT 6)) (C := RX7) (T := TX7) (N := 18) hx hb hts i_X7 hown hK hP 2 rfl rfl 10 (by decide) (hts _ wf_X0_137) (fun _ h9 => h9) rfl dX0_holdsHere_93 ?_
        refine lv_iload_n hx hb dX0_holdsHere_96 rfl (lv_at hl 0 rfl) ?_
        obtain ⟨hi5, hf⟩ := tc_in hf
        refine va_iald hx hb hK hP 8 1 rfl rfl hi5 dX0_holdsHere_97 ?_
        refine lv_aload_n hx hb dX0_holdsHere_98 rfl (lv_at hl 1 rfl) ?_
        refine va_get (D := (dC, dI)) (ci := 0) (v := .ref (qE 0)) (C := RX0) (T := TX0) (N := 10) hx hb hts i_X0 hown hK hP 0 rfl rfl 1 (by decide) (hts _ wf_X0_19) (fun _ h9 => h9) rfl dX0_holdsHere_99 ?_
        refine va_get (D := (dC, dI)) (ci := 1) (v := .ref (qE 3)) (C := RX1) (T := TX1) (N := 8) hx hb hts i_X1 hown hK hP 13 rfl rfl 5 (by decide) (hts _ wf_X0_66) (fun _ h9 => h9) rfl dX0_holdsHere_102 ?_
        refine lv_iload_n hx hb dX0_holdsHere_105 rfl (lv_at hl 2 rfl) ?_
        obtain ⟨hi6, hf⟩ := tc_in hf
        refine va_iald hx hb hK hP 16 1 rfl rfl hi6 dX0_holdsHere_106 ?_
        refine lv_icmp_ge (tgt := 114) hx hb dX0_holdsHere_107 (by decide) (fun hc => ?_) (fun hc => ?_)
        · have hf := tc_pos hc hf
          refine lv_iconst (v := (0 : Int32)) hx hb dX0_holdsHere_114 (by decide) ?_
          obtain rfl := Option.some.inj hf
          exact tc_rz X hP hD hS rfl dX0_holdsHere_115 (by decide) rfl rfl
        · have hf := tc_neg hc hf
          refine lv_iconst (v := (1 : Int32)) hx hb dX0_holdsHere_110 (by decide) ?_
          refine lv_goto (tgt := 115) hx hb dX0_holdsHere_111 (by decide) ?_
          obtain rfl := Option.some.inj hf
          exact tc_rz X hP hD hS rfl dX0_holdsHere_115 (by decide) rfl rfl
      · have hf := tc_neg hn60 hf
        by_cases hn62 : (ia SE 4 a1) = (62 : Int32)
        · have hf := tc_pos hn62 hf
          refine lv_lookup (off := 97) (tgt := 116) hx hb dX0_holdsHere_19 (by decide) (tc_sw (P := fun y => lookupswitch.offset (#[(20, 41), (21, 61), (60, 70), (62, 97)] : Array (Int × Int)).toList 124 y.toInt = 97) hn62 (by decide)) (by decide) ?_
          refine lv_aload_n hx hb dX0_holdsHere_116 rfl (lv_at hl 1 rfl) ?_
          refine va_get (D := (dC, dI)) (ci := 0) (v := .ref (qT 0)) (C := RX0) (T := TX0) (N := 10) hx hb hts i_X0 hown hK hP 0 rfl rfl 0 (by decide) (hts _ wf_X0_15) (fun _ h9 => h9) rfl dX0_holdsHere_117 ?_
          refine va_get (D := (dC, dI)) (ci := 7) (v := .ref (qT 6)) (C := RX7) (T := TX7) (N := 18) hx hb hts i_X7 hown hK hP 2 rfl rfl 10 (by decide) (hts _ wf_X0_137) (fun _ h9 => h9) rfl dX0_holdsHere_120 ?_
          refine lv_iload_n hx hb dX0_holdsHere_123 rfl (lv_at hl 0 rfl) ?_
          obtain ⟨hi7, hf⟩ := tc_in hf
          refine va_iald hx hb hK hP 8 1 rfl rfl hi7 dX0_holdsHere_124 ?_
          refine lv_aload_n hx hb dX0_holdsHere_125 rfl (lv_at hl 1 rfl) ?_
          refine va_get (D := (dC, dI)) (ci := 0) (v := .ref (qE 0)) (C := RX0) (T := TX0) (N := 10) hx hb hts i_X0 hown hK hP 0 rfl rfl 1 (by decide) (hts _ wf_X0_19) (fun _ h9 => h9) rfl dX0_holdsHere_126 ?_
          refine va_get (D := (dC, dI)) (ci := 1) (v := .ref (qE 3)) (C := RX1) (T := TX1) (N := 8) hx hb hts i_X1 hown hK hP 13 rfl rfl 5 (by decide) (hts _ wf_X0_66) (fun _ h9 => h9) rfl dX0_holdsHere_129 ?_
          refine lv_iload_n hx hb dX0_holdsHere_132 rfl (lv_at hl 2 rfl) ?_
          obtain ⟨hi8, hf⟩ := tc_in hf
          refine va_iald hx hb hK hP 16 1 rfl rfl hi8 dX0_holdsHere_133 ?_
          refine lv_icmp_le (tgt := 141) hx hb dX0_holdsHere_134 (by decide) (fun hc => ?_) (fun hc => ?_)
          · have hf := tc_pos hc hf
            refine lv_iconst (v := (0 : Int32)) hx hb dX0_holdsHere_141 (by decide) ?_
            obtain rfl := Option.some.inj hf
            exact tc_rz X hP hD hS rfl dX0_holdsHere_142 (by decide) rfl rfl
          · have hf := tc_neg hc hf
            refine lv_iconst (v := (1 : Int32)) hx hb dX0_holdsHere_137 (by decide) ?_
            refine lv_goto (tgt := 142) hx hb dX0_holdsHere_138 (by decide) ?_
            obtain rfl := Option.some.inj hf
            exact tc_rz X hP hD hS rfl dX0_holdsHere_142 (by decide) rfl rfl
        · have hf := tc_neg hn62 hf
          have hout : lookupswitch.offset (#[(20, 41), (21, 61), (60, 70), (62, 97)] : Array (Int × Int)).toList 124 (ia SE 4 a1).toInt = 124 := by
            have e20 := tc_ne hn20
            have e21 := tc_ne hn21
            have e60 := tc_ne hn60
            have e62 := tc_ne hn62
            simp only [show ((20 : Int32)).toInt = 20 from by decide, show ((21 : Int32)).toInt = 21 from by decide, show ((60 : Int32)).toInt = 60 from by decide, show ((62 : Int32)).toInt = 62 from by decide] at e20 e21 e60 e62
            simp only [lookupswitch.offset_cons, lookupswitch.offset_nil]
            rw [if_neg (Ne.symm e20), if_neg (Ne.symm e21), if_neg (Ne.symm e60), if_neg (Ne.symm e62)]
          refine lv_lookup (off := 124) (tgt := 143) hx hb dX0_holdsHere_19 (by decide) hout (by decide) ?_
          refine lv_aload_n hx hb dX0_holdsHere_143 rfl (lv_at hl 1 rfl) ?_
          refine va_get (D := (dC, dI)) (ci := 0) (v := .ref (qT 0)) (C := RX0) (T := TX0) (N := 10) hx hb hts i_X0 hown hK hP 0 rfl rfl 0 (by decide) (hts _ wf_X0_15) (fun _ h9 => h9) rfl dX0_holdsHere_144 ?_
          refine va_get (D := (dC, dI)) (ci := 7) (v := .ref (qT 6)) (C := RX7) (T := TX7) (N := 18) hx hb hts i_X7 hown hK hP 2 rfl rfl 10 (by decide) (hts _ wf_X0_137) (fun _ h9 => h9) rfl dX0_holdsHere_147 ?_
          refine lv_iload_n hx hb dX0_holdsHere_150 rfl (lv_at hl 0 rfl) ?_
          obtain ⟨hi9, hf⟩ := tc_in hf
          refine va_iald hx hb hK hP 8 1 rfl rfl hi9 dX0_holdsHere_151 ?_
          refine lv_aload_n hx hb dX0_holdsHere_152 rfl (lv_at hl 1 rfl) ?_
          refine va_get (D := (dC, dI)) (ci := 0) (v := .ref (qE 0)) (C := RX0) (T := TX0) (N := 10) hx hb hts i_X0 hown hK hP 0 rfl rfl 1 (by decide) (hts _ wf_X0_19) (fun _ h9 => h9) rfl dX0_holdsHere_153 ?_
          refine va_get (D := (dC, dI)) (ci := 1) (v := .ref (qE 3)) (C := RX1) (T := TX1) (N := 8) hx hb hts i_X1 hown hK hP 13 rfl rfl 5 (by decide) (hts _ wf_X0_66) (fun _ h9 => h9) rfl dX0_holdsHere_156 ?_
          refine lv_iload_n hx hb dX0_holdsHere_159 rfl (lv_at hl 2 rfl) ?_
          obtain ⟨hi10, hf⟩ := tc_in hf
          refine va_iald hx hb hK hP 16 1 rfl rfl hi10 dX0_holdsHere_160 ?_
          refine lv_icmp_ne (tgt := 168) hx hb dX0_holdsHere_161 (by decide) (fun hc => ?_) (fun hc => ?_)
          · have hf := tc_neg hc hf
            refine lv_iconst (v := (0 : Int32)) hx hb dX0_holdsHere_168 (by decide) ?_
            obtain rfl := Option.some.inj hf
            exact tc_rz X hP hD hS rfl dX0_holdsHere_169 (by decide) rfl rfl
          · have hf := tc_pos hc hf
            refine lv_iconst (v := (1 : Int32)) hx hb dX0_holdsHere_164 (by decide) ?_
            refine lv_goto (tgt := 169) hx hb dX0_holdsHere_165 (by decide) ?_
            obtain rfl := Option.some.inj hf
            exact tc_rz X hP hD hS rfl dX0_holdsHere_169 (by decide) rfl rfl
theorem aw0_7_1_0_1 (ca : Nat → ClassId) (q0 q1 q2 : Nat → Nat) (r0_0 r0_1 : Value) (S0 S1 S2 : ms_T) (i v : Int32) : (w0 ca q0 r0_0 r0_1 S0 ++ w7 ca q1 S1 ++ w1 ca q2 S2 : va_W).set 1 (q0 1, .inl (ca 1, 60, .inl (upd (ra S0 1) i.toNatClampNeg v))) = w0 ca q0 r0_0 r0_1 (sa S0 1 i v) ++ w7 ca q1 S1 ++ w1 ca q2 S2 := rfl
def fX0_behindStep  (SV : ms_T) (ST : ms_T) (SE : ms_T) (a1 : Int32) : Option (Int32 × ms_T × ms_T) :=
  if inb a1 60 = true then
    if inb a1 60 = true then
      if inb a1 60 = true then
        if (ia SE 1 a1) = (13 : Int32) then
          (fX0_doSay SV ST (ia SE 2 a1) (ia SE 3 a1)).bind fun z4 =>
          some (a1 + (1 : Int32), z4.1, z4.2)
        else
          if (ia SE 1 a1) = (14 : Int32) then
            (fX0_doDrop SV ST (ia SE 2 a1) (ia SE 3 a1)).bind fun z5 =>
            some (a1 + (1 : Int32), z5.1, z5.2)
          else
            if (ia SE 1 a1) = (15 : Int32) then
              (fX0_doPull SV ST (ia SE 2 a1)).bind fun z6 =>
              some (a1 + (1 : Int32), z6.1, z6.2)
            else
              if (ia SE 1 a1) = (16 : Int32) then
                (fX0_doProp SV ST (ia SE 2 a1)).bind fun z7 =>
                some (a1 + (1 : Int32), z7.1, z7.2)
              else
                if (ia SE 1 a1) = (17 : Int32) then
                  (fX0_doCut SV ST (ia SE 2 a1)).bind fun z8 =>
                  some (a1 + (1 : Int32), z8.1, z8.2)
                else
                  if (ia SE 1 a1) = (18 : Int32) then
                    (fX0_doAny SV ST).bind fun z9 =>
                    some (a1 + (1 : Int32), z9.1, z9.2)
                  else
                    if (ia SE 1 a1) = (19 : Int32) then
                      (fX0_holdsHere SV ST SE a1).bind fun z10 =>
                      if z10 = 0 then
                        if inb a1 60 = true then
                          some ((ia SE 5 a1) + (1 : Int32), SV, ST)
                        else none
                      else
                        some (a1 + (1 : Int32), SV, ST)
                    else
                      if (ia SE 1 a1) = (20 : Int32) then
                        some (gi SE 2, SV, ST)
                      else
                        if (ia SE 1 a1) = (21 : Int32) then
                          some (gi SE 2, SV, ST)
                        else
                          if (ia SE 1 a1) = (22 : Int32) then
                            some (gi SE 2, SV, ST)
                          else
                            if (ia SE 1 a1) = (23 : Int32) then
                              if inb a1 60 = true then
                                some (a1 + (1 : Int32), sa SV 1 a1 (ia SE 3 a1), ST)
                              else none
                            else
                              some (gi SE 2, SV, ST)
      else none
    else none
  else none
abbrev rmX0_behindStep : Room := { frames := 5, cells := 0, slots := 0, locals := 112 }
theorem okX0_behindStep : tc_ok yX0_behindStep cX0_behindStep 4 (some .int) 1 := ⟨wc_X0_behindStep, wn_X0, by decide, by decide, by decide +kernel⟩
set_option maxRecDepth 20000 in
theorem mX0_behindStep {qV : Nat → Nat} {qT : Nat → Nat} {qE : Nat → Nat}  {SV : ms_T} {ST : ms_T} {SE : ms_T} {a1 : Int32} {z : Int32 × ms_T × ms_T}  (hf : fX0_behindStep SV ST SE a1 = some z) : tc_MI l dC dI ca yX0_behindStep cX0_behindStep 4 (some .int) rmX0_behindStep [.ref (qV 0), .int (a1)] (w0 ca qV (.ref (qT 0)) (.ref (qE 0)) SV ++ w7 ca qT ST ++ w1 ca qE SE) (w0 ca qV (.ref (qT 0)) (.ref (qE 0)) z.2.1 ++ w7 ca qT z.2.2 ++ w1 ca qE SE) (z.1) := by
  refine tc_metI (own := RX0) (by decide) rfl ?_ (Nat.le_of_ble_eq_true rfl)
  intro p e s m below meth c A X hP hD hS ls hl
  obtain ⟨hx, hb, hr, hml, hown, hts, hlk, hK, hA, hG⟩ := id X
  unfold fX0_behindStep at hf
  have hl : lv_has ls 4 [(0, .ref (qV 0)), (1, .int (a1))] := hl
  refine lv_aload_n hx hb dX0_behindStep_0 rfl (lv_at hl 0 rfl) ?_
  refine va_get (D := (dC, dI)) (ci := 0) (v := .ref (qE 0)) (C := RX0) (T := TX0) (N := 10) hx hb hts i_X0 hown hK hP 0 rfl rfl 1 (by decide) (hts _ wf_X0_19) (fun _ h9 => h9) rfl dX0_behindStep_1 ?_
  refine va_get (D := (dC, dI)) (ci := 1) (v := .ref (qE 2)) (C := RX1) (T := TX1) (N := 8) hx hb hts i_X1 hown hK hP 13 rfl rfl 4 (by decide) (hts _ wf_X0_63) (fun _ h9 => h9) rfl dX0_behindStep_4 ?_
  refine lv_iload_n hx hb dX0_behindStep_7 rfl (lv_at hl 1 rfl) ?_
  obtain ⟨hi1, hf⟩ := tc_in hf
  refine va_iald hx hb hK hP 15 1 rfl rfl hi1 dX0_behindStep_8 ?_
  refine lv_istore_n (lv' := [(2, .int (ia SE 2 a1)), (0, .ref (qV 0)), (1, .int (a1))]) hx hb dX0_behindStep_9 rfl hl (by decide) rfl (fun ls hl => ?_)
  refine lv_aload_n hx hb dX0_behindStep_10 rfl (lv_at hl 1 rfl) ?_
  refine va_get (D := (dC, dI)) (ci := 0) (v := .ref (qE 0)) (C := RX0) (T := TX0) (N := 10) hx hb hts i_X0 hown hK hP 0 rfl rfl 1 (by decide) (hts _ wf_X0_19) (fun _ h9 => h9) rfl dX0_behindStep_11 ?_
  refine va_get (D := (dC, dI)) (ci := 1) (v := .ref (qE 3)) (C := RX1) (T := TX1) (N := 8) hx hb hts i_X1 hown hK hP 13 rfl rfl 5 (by decide) (hts _ wf_X0_66) (fun _ h9 => h9) rfl dX0_behindStep_14 ?_
  refine lv_iload_n hx hb dX0_behindStep_17 rfl (lv_at hl 2 rfl) ?_
  obtain ⟨hi2, hf⟩ := tc_in hf
  refine va_iald hx hb hK hP 16 1 rfl rfl hi2 dX0_behindStep_18 ?_
  refine lv_istore_n (lv' := [(3, .int (ia SE 3 a1)), (2, .int (ia SE 2 a1)), (0, .ref (qV 0)), (1, .int (a1))]) hx hb dX0_behindStep_19 rfl hl (by decide) rfl (fun ls hl => ?_)
  refine lv_aload_n hx hb dX0_behindStep_20 rfl (lv_at hl 2 rfl) ?_
  refine va_get (D := (dC, dI)) (ci := 0) (v := .ref (qE 0)) (C := RX0) (T := TX0) (N := 10) hx hb hts i_X0 hown hK hP 0 rfl rfl 1 (by decide) (hts _ wf_X0_19) (fun _ h9 => h9) rfl dX0_behindStep_21 ?_
  refine va_get (D := (dC, dI)) (ci := 1) (v := .ref (qE 1)) (C := RX1) (T := TX1) (N := 8) hx hb hts i_X1 hown hK hP 13 rfl rfl 3 (by decide) (hts _ wf_X0_48) (fun _ h9 => h9) rfl dX0_behindStep_24 ?_
  refine lv_iload_n hx hb dX0_behindStep_27 rfl (lv_at hl 3 rfl) ?_
  obtain ⟨hi3, hf⟩ := tc_in hf
  refine va_iald hx hb hK hP 14 1 rfl rfl hi3 dX0_behindStep_28 ?_
  by_cases hn13 : (ia SE 1 a1) = (13 : Int32)
  · have hf := tc_pos hn13 hf
    refine lv_tableIn (off := 59) (tgt := 88) hx hb dX0_behindStep_29 (tc_sw (P := fun y => ¬ y.toInt < 13) hn13 (by decide)) (tc_sw (P := fun y => ¬ 23 < y.toInt) hn13 (by decide)) (tc_sw (P := fun y => (#[59, 68, 77, 85, 93, 101, 108, 144, 144, 144, 134] : Array Int)[(y.toInt - 13).toNat]? = some 59) hn13 (by decide)) (by decide) ?_
    refine lv_aload_n hx hb dX0_behindStep_88 rfl (lv_at hl 2 rfl) ?_
    refine lv_iload_n hx hb dX0_behindStep_89 rfl (lv_at hl 1 rfl) ?_
    refine lv_iload_n hx hb dX0_behindStep_90 rfl (lv_at hl 0 rfl) ?_
    obtain ⟨z4, hg, hf⟩ := tc_bi hf
    refine tc_vV (As := [.int (ia SE 2 a1), .int (ia SE 3 a1)]) (rest := []) (b := qV 0) (wc := w0 ca qV (.ref (qT 0)) (.ref (qE 0)) SV ++ w7 ca qT ST) (wr := w1 ca qE SE) X hP hD hS (mX0_doSay hg) okX0_doSay wl_X0_69 wi_X0_doSay ws_X0_X0_doSay_X0_doSay ⟨rfl, rfl, Nat.le_of_ble_eq_true rfl, Nat.le_of_ble_eq_true rfl⟩ 0 0 rfl rfl [0, 1, 2, 3, 4, 5, 6, 7, 8, 9, 10, 11, 12] [13, 14, 15, 16, 17, 18] ⟨rfl, rfl, rfl, rfl, by decide⟩ rfl hl.1 (Nat.le_of_ble_eq_true rfl) dX0_behindStep_91 (fun H locs hP hD hS => ?_)
    have hP := hP.sub (ws' := (w0 ca qV (.ref (qT 0)) (.ref (qE 0)) z4.1 ++ w7 ca qT z4.2 ++ w1 ca qE SE)) [6, 7, 8, 9, 10, 11, 12, 13, 14, 15, 16, 17, 18, 0, 1, 2, 3, 4, 5] rfl
    have hD := hD.sub (ws' := (w0 ca qV (.ref (qT 0)) (.ref (qE 0)) z4.1 ++ w7 ca qT z4.2 ++ w1 ca qE SE)) [6, 7, 8, 9, 10, 11, 12, 13, 14, 15, 16, 17, 18, 0, 1, 2, 3, 4, 5] rfl rfl
    refine lv_goto (tgt := 181) hx hb dX0_behindStep_94 (by decide) ?_
    refine lv_iload_n hx hb dX0_behindStep_181 rfl (lv_at hl 3 rfl) ?_
    refine lv_iconst (v := (1 : Int32)) hx hb dX0_behindStep_182 (by decide) ?_
    refine lv_iadd hx hb dX0_behindStep_183 ?_
    obtain rfl := Option.some.inj hf
    exact tc_ri X hP hD hS rfl dX0_behindStep_184 rfl rfl
  · have hf := tc_neg hn13 hf
    by_cases hn14 : (ia SE 1 a1) = (14 : Int32)
    · have hf := tc_pos hn14 hf
      refine lv_tableIn (off := 68) (tgt := 97) hx hb dX0_behindStep_29 (tc_sw (P := fun y => ¬ y.toInt < 13) hn14 (by decide)) (tc_sw (P := fun y => ¬ 23 < y.toInt) hn14 (by decide)) (tc_sw (P := fun y => (#[59, 68, 77, 85, 93, 101, 108, 144, 144, 144, 134] : Array Int)[(y.toInt - 13).toNat]? = some 68) hn14 (by decide)) (by decide) ?_
      refine lv_aload_n hx hb dX0_behindStep_97 rfl (lv_at hl 2 rfl) ?_
      refine lv_iload_n hx hb dX0_behindStep_98 rfl (lv_at hl 1 rfl) ?_
      refine lv_iload_n hx hb dX0_behindStep_99 rfl (lv_at hl 0 rfl) ?_
      obtain ⟨z5, hg, hf⟩ := tc_bi hf
      refine tc_vV (As := [.int (ia SE 2 a1), .int (ia SE 3 a1)]) (rest := []) (b := qV 0) (wc := w0 ca qV (.ref (qT 0)) (.ref (qE 0)) SV ++ w7 ca qT ST) (wr := w1 ca qE SE) X hP hD hS (mX0_doDrop hg) okX0_doDrop wl_X0_73 wi_X0_doDrop ws_X0_X0_doDrop_X0_doDrop ⟨rfl, rfl, Nat.le_of_ble_eq_true rfl, Nat.le_of_ble_eq_true rfl⟩ 0 0 rfl rfl [0, 1, 2, 3, 4, 5, 6, 7, 8, 9, 10, 11, 12] [13, 14, 15, 16, 17, 18] ⟨rfl, rfl, rfl, rfl, by decide⟩ rfl hl.1 (Nat.le_of_ble_eq_true rfl) dX0_behindStep_100 (fun H locs hP hD hS => ?_)
      have hP := hP.sub (ws' := (w0 ca qV (.ref (qT 0)) (.ref (qE 0)) z5.1 ++ w7 ca qT z5.2 ++ w1 ca qE SE)) [6, 7, 8, 9, 10, 11, 12, 13, 14, 15, 16, 17, 18, 0, 1, 2, 3, 4, 5] rfl
      have hD := hD.sub (ws' := (w0 ca qV (.ref (qT 0)) (.ref (qE 0)) z5.1 ++ w7 ca qT z5.2 ++ w1 ca qE SE)) [6, 7, 8, 9, 10, 11, 12, 13, 14, 15, 16, 17, 18, 0, 1, 2, 3, 4, 5] rfl rfl
      refine lv_goto (tgt := 181) hx hb dX0_behindStep_103 (by decide) ?_
      refine lv_iload_n hx hb dX0_behindStep_181 rfl (lv_at hl 3 rfl) ?_
      refine lv_iconst (v := (1 : Int32)) hx hb dX0_behindStep_182 (by decide) ?_
      refine lv_iadd hx hb dX0_behindStep_183 ?_
      obtain rfl := Option.some.inj hf
      exact tc_ri X hP hD hS rfl dX0_behindStep_184 rfl rfl
    · have hf := tc_neg hn14 hf
      by_cases hn15 : (ia SE 1 a1) = (15 : Int32)
      · have hf := tc_pos hn15 hf
        refine lv_tableIn (off := 77) (tgt := 106) hx hb dX0_behindStep_29 (tc_sw (P := fun y => ¬ y.toInt < 13) hn15 (by decide)) (tc_sw (P := fun y => ¬ 23 < y.toInt) hn15 (by decide)) (tc_sw (P := fun y => (#[59, 68, 77, 85, 93, 101, 108, 144, 144, 144, 134] : Array Int)[(y.toInt - 13).toNat]? = some 77) hn15 (by decide)) (by decide) ?_
        refine lv_aload_n hx hb dX0_behindStep_106 rfl (lv_at hl 2 rfl) ?_
        refine lv_iload_n hx hb dX0_behindStep_107 rfl (lv_at hl 1 rfl) ?_
        obtain ⟨z6, hg, hf⟩ := tc_bi hf
        refine tc_vV (As := [.int (ia SE 2 a1)]) (rest := []) (b := qV 0) (wc := w0 ca qV (.ref (qT 0)) (.ref (qE 0)) SV ++ w7 ca qT ST) (wr := w1 ca qE SE) X hP hD hS (mX0_doPull hg) okX0_doPull wl_X0_76 wi_X0_doPull ws_X0_X0_doPull_X0_doPull ⟨rfl, rfl, Nat.le_of_ble_eq_true rfl, Nat.le_of_ble_eq_true rfl⟩ 0 0 rfl rfl [0, 1, 2, 3, 4, 5, 6, 7, 8, 9, 10, 11, 12] [13, 14, 15, 16, 17, 18] ⟨rfl, rfl, rfl, rfl, by decide⟩ rfl hl.1 (Nat.le_of_ble_eq_true rfl) dX0_behindStep_108 (fun H locs hP hD hS => ?_)
        have hP := hP.sub (ws' := (w0 ca qV (.ref (qT 0)) (.ref (qE 0)) z6.1 ++ w7 ca qT z6.2 ++ w1 ca qE SE)) [6, 7, 8, 9, 10, 11, 12, 13, 14, 15, 16, 17, 18, 0, 1, 2, 3, 4, 5] rfl
        have hD := hD.sub (ws' := (w0 ca qV (.ref (qT 0)) (.ref (qE 0)) z6.1 ++ w7 ca qT z6.2 ++ w1 ca qE SE)) [6, 7, 8, 9, 10, 11, 12, 13, 14, 15, 16, 17, 18, 0, 1, 2, 3, 4, 5] rfl rfl
        refine lv_goto (tgt := 181) hx hb dX0_behindStep_111 (by decide) ?_
        refine lv_iload_n hx hb dX0_behindStep_181 rfl (lv_at hl 3 rfl) ?_
        refine lv_iconst (v := (1 : Int32)) hx hb dX0_behindStep_182 (by decide) ?_
        refine lv_iadd hx hb dX0_behindStep_183 ?_
        obtain rfl := Option.some.inj hf
        exact tc_ri X hP hD hS rfl dX0_behindStep_184 rfl rfl
      · have hf := tc_neg hn15 hf
        by_cases hn16 : (ia SE 1 a1) = (16 : Int32)
        · have hf := tc_pos hn16 hf
          refine lv_tableIn (off := 85) (tgt := 114) hx hb dX0_behindStep_29 (tc_sw (P := fun y => ¬ y.toInt < 13) hn16 (by decide)) (tc_sw (P := fun y => ¬ 23 < y.toInt) hn16 (by decide)) (tc_sw (P := fun y => (#[59, 68, 77, 85, 93, 101, 108, 144, 144, 144, 134] : Array Int)[(y.toInt - 13).toNat]? = some 85) hn16 (by decide)) (by decide) ?_
          refine lv_aload_n hx hb dX0_behindStep_114 rfl (lv_at hl 2 rfl) ?_
          refine lv_iload_n hx hb dX0_behindStep_115 rfl (lv_at hl 1 rfl) ?_
          obtain ⟨z7, hg, hf⟩ := tc_bi hf
          refine tc_vV (As := [.int (ia SE 2 a1)]) (rest := []) (b := qV 0) (wc := w0 ca qV (.ref (qT 0)) (.ref (qE 0)) SV ++ w7 ca qT ST) (wr := w1 ca qE SE) X hP hD hS (mX0_doProp hg) okX0_doProp wl_X0_80 wi_X0_doProp ws_X0_X0_doProp_X0_doProp ⟨rfl, rfl, Nat.le_of_ble_eq_true rfl, Nat.le_of_ble_eq_true rfl⟩ 0 0 rfl rfl [0, 1, 2, 3, 4, 5, 6, 7, 8, 9, 10, 11, 12] [13, 14, 15, 16, 17, 18] ⟨rfl, rfl, rfl, rfl, by decide⟩ rfl hl.1 (Nat.le_of_ble_eq_true rfl) dX0_behindStep_116 (fun H locs hP hD hS => ?_)
          have hP := hP.sub (ws' := (w0 ca qV (.ref (qT 0)) (.ref (qE 0)) z7.1 ++ w7 ca qT z7.2 ++ w1 ca qE SE)) [6, 7, 8, 9, 10, 11, 12, 13, 14, 15, 16, 17, 18, 0, 1, 2, 3, 4, 5] rfl
          have hD := hD.sub (ws' := (w0 ca qV (.ref (qT 0)) (.ref (qE 0)) z7.1 ++ w7 ca qT z7.2 ++ w1 ca qE SE)) [6, 7, 8, 9, 10, 11, 12, 13, 14, 15, 16, 17, 18, 0, 1, 2, 3, 4, 5] rfl rfl
          refine lv_goto (tgt := 181) hx hb dX0_behindStep_119 (by decide) ?_
          refine lv_iload_n hx hb dX0_behindStep_181 rfl (lv_at hl 3 rfl) ?_
          refine lv_iconst (v := (1 : Int32)) hx hb dX0_behindStep_182 (by decide) ?_
          refine lv_iadd hx hb dX0_behindStep_183 ?_
          obtain rfl := Option.some.inj hf
          exact tc_ri X hP hD hS rfl dX0_behindStep_184 rfl rfl
        · have hf := tc_neg hn16 hf
          by_cases hn17 : (ia SE 1 a1) = (17 : Int32)
          · have hf := tc_pos hn17 hf
            refine lv_tableIn (off := 93) (tgt := 122) hx hb dX0_behindStep_29 (tc_sw (P := fun y => ¬ y.toInt < 13) hn17 (by decide)) (tc_sw (P := fun y => ¬ 23 < y.toInt) hn17 (by decide)) (tc_sw (P := fun y => (#[59, 68, 77, 85, 93, 101, 108, 144, 144, 144, 134] : Array Int)[(y.toInt - 13).toNat]? = some 93) hn17 (by decide)) (by decide) ?_
            refine lv_aload_n hx hb dX0_behindStep_122 rfl (lv_at hl 2 rfl) ?_
            refine lv_iload_n hx hb dX0_behindStep_123 rfl (lv_at hl 1 rfl) ?_
            obtain ⟨z8, hg, hf⟩ := tc_bi hf
            refine tc_vV (As := [.int (ia SE 2 a1)]) (rest := []) (b := qV 0) (wc := w0 ca qV (.ref (qT 0)) (.ref (qE 0)) SV ++ w7 ca qT ST) (wr := w1 ca qE SE) X hP hD hS (mX0_doCut hg) okX0_doCut wl_X0_83 wi_X0_doCut ws_X0_X0_doCut_X0_doCut ⟨rfl, rfl, Nat.le_of_ble_eq_true rfl, Nat.le_of_ble_eq_true rfl⟩ 0 0 rfl rfl [0, 1, 2, 3, 4, 5, 6, 7, 8, 9, 10, 11, 12] [13, 14, 15, 16, 17, 18] ⟨rfl, rfl, rfl, rfl, by decide⟩ rfl hl.1 (Nat.le_of_ble_eq_true rfl) dX0_behindStep_124 (fun H locs hP hD hS => ?_)
            have hP := hP.sub (ws' := (w0 ca qV (.ref (qT 0)) (.ref (qE 0)) z8.1 ++ w7 ca qT z8.2 ++ w1 ca qE SE)) [6, 7, 8, 9, 10, 11, 12, 13, 14, 15, 16, 17, 18, 0, 1, 2, 3, 4, 5] rfl
            have hD := hD.sub (ws' := (w0 ca qV (.ref (qT 0)) (.ref (qE 0)) z8.1 ++ w7 ca qT z8.2 ++ w1 ca qE SE)) [6, 7, 8, 9, 10, 11, 12, 13, 14, 15, 16, 17, 18, 0, 1, 2, 3, 4, 5] rfl rfl
            refine lv_goto (tgt := 181) hx hb dX0_behindStep_127 (by decide) ?_
            refine lv_iload_n hx hb dX0_behindStep_181 rfl (lv_at hl 3 rfl) ?_
            refine lv_iconst (v := (1 : Int32)) hx hb dX0_behindStep_182 (by decide) ?_
            refine lv_iadd hx hb dX0_behindStep_183 ?_
            obtain rfl := Option.some.inj hf
            exact tc_ri X hP hD hS rfl dX0_behindStep_184 rfl rfl
          · have hf := tc_neg hn17 hf
            by_cases hn18 : (ia SE 1 a1) = (18 : Int32)
            · have hf := tc_pos hn18 hf
              refine lv_tableIn (off := 101) (tgt := 130) hx hb dX0_behindStep_29 (tc_sw (P := fun y => ¬ y.toInt < 13) hn18 (by decide)) (tc_sw (P := fun y => ¬ 23 < y.toInt) hn18 (by decide)) (tc_sw (P := fun y => (#[59, 68, 77, 85, 93, 101, 108, 144, 144, 144, 134] : Array Int)[(y.toInt - 13).toNat]? = some 101) hn18 (by decide)) (by decide) ?_
              refine lv_aload_n hx hb dX0_behindStep_130 rfl (lv_at hl 2 rfl) ?_
              obtain ⟨z9, hg, hf⟩ := tc_bi hf
              refine tc_vV (As := []) (rest := []) (b := qV 0) (wc := w0 ca qV (.ref (qT 0)) (.ref (qE 0)) SV ++ w7 ca qT ST) (wr := w1 ca qE SE) X hP hD hS (mX0_doAny hg) okX0_doAny wl_X0_86 wi_X0_doAny ws_X0_X0_doAny_X0_doAny ⟨rfl, rfl, Nat.le_of_ble_eq_true rfl, Nat.le_of_ble_eq_true rfl⟩ 0 0 rfl rfl [0, 1, 2, 3, 4, 5, 6, 7, 8, 9, 10, 11, 12] [13, 14, 15, 16, 17, 18] ⟨rfl, rfl, rfl, rfl, by decide⟩ rfl hl.1 (Nat.le_of_ble_eq_true rfl) dX0_behindStep_131 (fun H locs hP hD hS => ?_)
              have hP := hP.sub (ws' := (w0 ca qV (.ref (qT 0)) (.ref (qE 0)) z9.1 ++ w7 ca qT z9.2 ++ w1 ca qE SE)) [6, 7, 8, 9, 10, 11, 12, 13, 14, 15, 16, 17, 18, 0, 1, 2, 3, 4, 5] rfl
              have hD := hD.sub (ws' := (w0 ca qV (.ref (qT 0)) (.ref (qE 0)) z9.1 ++ w7 ca qT z9.2 ++ w1 ca qE SE)) [6, 7, 8, 9, 10, 11, 12, 13, 14, 15, 16, 17, 18, 0, 1, 2, 3, 4, 5] rfl rfl
              refine lv_goto (tgt := 181) hx hb dX0_behindStep_134 (by decide) ?_
              refine lv_iload_n hx hb dX0_behindStep_181 rfl (lv_at hl 3 rfl) ?_
              refine lv_iconst (v := (1 : Int32)) hx hb dX0_behindStep_182 (by decide) ?_
              refine lv_iadd hx hb dX0_behindStep_183 ?_
              obtain rfl := Option.some.inj hf
              exact tc_ri X hP hD hS rfl dX0_behindStep_184 rfl rfl
            · have hf := tc_neg hn18 hf
              by_cases hn19 : (ia SE 1 a1) = (19 : Int32)
              · have hf := tc_pos hn19 hf
                refine lv_tableIn (off := 108) (tgt := 137) hx hb dX0_behindStep_29 (tc_sw (P := fun y => ¬ y.toInt < 13) hn19 (by decide)) (tc_sw (P := fun y => ¬ 23 < y.toInt) hn19 (by decide)) (tc_sw (P := fun y => (#[59, 68, 77, 85, 93, 101, 108, 144, 144, 144, 134] : Array Int)[(y.toInt - 13).toNat]? = some 108) hn19 (by decide)) (by decide) ?_
                refine lv_aload_n hx hb dX0_behindStep_137 rfl (lv_at hl 2 rfl) ?_
                refine lv_iload_n hx hb dX0_behindStep_138 rfl (lv_at hl 3 rfl) ?_
                obtain ⟨z10, hg, hf⟩ := tc_bi hf
                refine tc_iVs (As := [.int (a1)]) (rest := []) (b := qV 0) X hP hD hS (mX0_holdsHere hg) okX0_holdsHere wl_X0_89 wi_X0_holdsHere ws_X0_X0_holdsHere_X0_holdsHere ⟨rfl, rfl, Nat.le_of_ble_eq_true rfl, Nat.le_of_ble_eq_true rfl⟩ 0 0 rfl rfl rfl hl.1 (Nat.le_of_ble_eq_true rfl) dX0_behindStep_139 (fun H locs hP hD hS => ?_)
                refine lv_if_eq (tgt := 151) hx hb dX0_behindStep_142 (by decide) (fun hc => ?_) (fun hc => ?_)
                · have hf := tc_pos hc hf
                  refine lv_aload_n hx hb dX0_behindStep_151 rfl (lv_at hl 2 rfl) ?_
                  refine va_get (D := (dC, dI)) (ci := 0) (v := .ref (qE 0)) (C := RX0) (T := TX0) (N := 10) hx hb hts i_X0 hown hK hP 0 rfl rfl 1 (by decide) (hts _ wf_X0_19) (fun _ h9 => h9) rfl dX0_behindStep_152 ?_
                  refine va_get (D := (dC, dI)) (ci := 1) (v := .ref (qE 5)) (C := RX1) (T := TX1) (N := 8) hx hb hts i_X1 hown hK hP 13 rfl rfl 7 (by decide) (hts _ wf_X0_60) (fun _ h9 => h9) rfl dX0_behindStep_155 ?_
                  refine lv_iload_n hx hb dX0_behindStep_158 rfl (lv_at hl 3 rfl) ?_
                  obtain ⟨hi11, hf⟩ := tc_in hf
                  refine va_iald hx hb hK hP 18 1 rfl rfl hi11 dX0_behindStep_159 ?_
                  refine lv_iconst (v := (1 : Int32)) hx hb dX0_behindStep_160 (by decide) ?_
                  refine lv_iadd hx hb dX0_behindStep_161 ?_
                  obtain rfl := Option.some.inj hf
                  exact tc_ri X hP hD hS rfl dX0_behindStep_162 rfl rfl
                · have hf := tc_neg hc hf
                  refine lv_iload_n hx hb dX0_behindStep_145 rfl (lv_at hl 3 rfl) ?_
                  refine lv_iconst (v := (1 : Int32)) hx hb dX0_behindStep_146 (by decide) ?_
                  refine lv_iadd hx hb dX0_behindStep_147 ?_
                  refine lv_goto (tgt := 162) hx hb dX0_behindStep_148 (by decide) ?_
                  obtain rfl := Option.some.inj hf
                  exact tc_ri X hP hD hS rfl dX0_behindStep_162 rfl rfl
              · have hf := tc_neg hn19 hf
                by_cases hn20 : (ia SE 1 a1) = (20 : Int32)
                · have hf := tc_pos hn20 hf
                  refine lv_tableIn (off := 144) (tgt := 173) hx hb dX0_behindStep_29 (tc_sw (P := fun y => ¬ y.toInt < 13) hn20 (by decide)) (tc_sw (P := fun y => ¬ 23 < y.toInt) hn20 (by decide)) (tc_sw (P := fun y => (#[59, 68, 77, 85, 93, 101, 108, 144, 144, 144, 134] : Array Int)[(y.toInt - 13).toNat]? = some 144) hn20 (by decide)) (by decide) ?_
                  refine lv_aload_n hx hb dX0_behindStep_173 rfl (lv_at hl 2 rfl) ?_
                  refine va_get (D := (dC, dI)) (ci := 0) (v := .ref (qE 0)) (C := RX0) (T := TX0) (N := 10) hx hb hts i_X0 hown hK hP 0 rfl rfl 1 (by decide) (hts _ wf_X0_19) (fun _ h9 => h9) rfl dX0_behindStep_174 ?_
                  refine va_get (D := (dC, dI)) (ci := 1) (v := .int (gi SE 2)) (C := RX1) (T := TX1) (N := 8) hx hb hts i_X1 hown hK hP 13 rfl rfl 2 (by decide) (hts _ wf_X0_45) (fun _ h9 => h9) rfl dX0_behindStep_177 ?_
                  obtain rfl := Option.some.inj hf
                  exact tc_ri X hP hD hS rfl dX0_behindStep_180 rfl rfl
                · have hf := tc_neg hn20 hf
                  by_cases hn21 : (ia SE 1 a1) = (21 : Int32)
                  · have hf := tc_pos hn21 hf
                    refine lv_tableIn (off := 144) (tgt := 173) hx hb dX0_behindStep_29 (tc_sw (P := fun y => ¬ y.toInt < 13) hn21 (by decide)) (tc_sw (P := fun y => ¬ 23 < y.toInt) hn21 (by decide)) (tc_sw (P := fun y => (#[59, 68, 77, 85, 93, 101, 108, 144, 144, 144, 134] : Array Int)[(y.toInt - 13).toNat]? = some 144) hn21 (by decide)) (by decide) ?_
                    refine lv_aload_n hx hb dX0_behindStep_173 rfl (lv_at hl 2 rfl) ?_
                    refine va_get (D := (dC, dI)) (ci := 0) (v := .ref (qE 0)) (C := RX0) (T := TX0) (N := 10) hx hb hts i_X0 hown hK hP 0 rfl rfl 1 (by decide) (hts _ wf_X0_19) (fun _ h9 => h9) rfl dX0_behindStep_174 ?_
                    refine va_get (D := (dC, dI)) (ci := 1) (v := .int (gi SE 2)) (C := RX1) (T := TX1) (N := 8) hx hb hts i_X1 hown hK hP 13 rfl rfl 2 (by decide) (hts _ wf_X0_45) (fun _ h9 => h9) rfl dX0_behindStep_177 ?_
                    obtain rfl := Option.some.inj hf
                    exact tc_ri X hP hD hS rfl dX0_behindStep_180 rfl rfl
                  · have hf := tc_neg hn21 hf
                    by_cases hn22 : (ia SE 1 a1) = (22 : Int32)
                    · have hf := tc_pos hn22 hf
                      refine lv_tableIn (off := 144) (tgt := 173) hx hb dX0_behindStep_29 (tc_sw (P := fun y => ¬ y.toInt < 13) hn22 (by decide)) (tc_sw (P := fun y => ¬ 23 < y.toInt) hn22 (by decide)) (tc_sw (P := fun y => (#[59, 68, 77, 85, 93, 101, 108, 144, 144, 144, 134] : Array Int)[(y.toInt - 13).toNat]? = some 144) hn22 (by decide)) (by decide) ?_
                      refine lv_aload_n hx hb dX0_behindStep_173 rfl (lv_at hl 2 rfl) ?_
                      refine va_get (D := (dC, dI)) (ci := 0) (v := .ref (qE 0)) (C := RX0) (T := TX0) (N := 10) hx hb hts i_X0 hown hK hP 0 rfl rfl 1 (by decide) (hts _ wf_X0_19) (fun _ h9 => h9) rfl dX0_behindStep_174 ?_
                      refine va_get (D := (dC, dI)) (ci := 1) (v := .int (gi SE 2)) (C := RX1) (T := TX1) (N := 8) hx hb hts i_X1 hown hK hP 13 rfl rfl 2 (by decide) (hts _ wf_X0_45) (fun _ h9 => h9) rfl dX0_behindStep_177 ?_
                      obtain rfl := Option.some.inj hf
                      exact tc_ri X hP hD hS rfl dX0_behindStep_180 rfl rfl
                    · have hf := tc_neg hn22 hf
                      by_cases hn23 : (ia SE 1 a1) = (23 : Int32)
                      · have hf := tc_pos hn23 hf
                        refine lv_tableIn (off := 134) (tgt := 163) hx hb dX0_behindStep_29 (tc_sw (P := fun y => ¬ y.toInt < 13) hn23 (by decide)) (tc_sw (P := fun y => ¬ 23 < y.toInt) hn23 (by decide)) (tc_sw (P := fun y => (#[59, 68, 77, 85, 93, 101, 108, 144, 144, 144, 134] : Array Int)[(y.toInt - 13).toNat]? = some 134) hn23 (by decide)) (by decide) ?_
                        refine lv_aload_n hx hb dX0_behindStep_163 rfl (lv_at hl 2 rfl) ?_
                        refine va_get (D := (dC, dI)) (ci := 0) (v := .ref (qV 1)) (C := RX0) (T := TX0) (N := 10) hx hb hts i_X0 hown hK hP 0 rfl rfl 3 (by decide) (hts _ wf_X0_9) (fun _ h9 => h9) rfl dX0_behindStep_164 ?_
                        refine lv_iload_n hx hb dX0_behindStep_167 rfl (lv_at hl 3 rfl) ?_
                        refine lv_iload_n hx hb dX0_behindStep_168 rfl (lv_at hl 0 rfl) ?_
                        obtain ⟨hi12, hf⟩ := tc_in hf
                        refine va_iast hx hb hK hP hD hS 1 1 rfl rfl hi12 dX0_behindStep_169 (fun H locs hP hD hS => ?_)
                        have hP := tc_eP (aw0_7_1_0_1 ca qV qT qE (.ref (qT 0)) (.ref (qE 0)) SV ST SE a1 (ia SE 3 a1)) hP
                        have hD := tc_eD (aw0_7_1_0_1 ca qV qT qE (.ref (qT 0)) (.ref (qE 0)) SV ST SE a1 (ia SE 3 a1)) hD
                        refine lv_goto (tgt := 181) hx hb dX0_behindStep_170 (by decide) ?_
                        refine lv_iload_n hx hb dX0_behindStep_181 rfl (lv_at hl 3 rfl) ?_
                        refine lv_iconst (v := (1 : Int32)) hx hb dX0_behindStep_182 (by decide) ?_
                        refine lv_iadd hx hb dX0_behindStep_183 ?_
                        obtain rfl := Option.some.inj hf
                        exact tc_ri X hP hD hS rfl dX0_behindStep_184 rfl rfl
                      · have hf := tc_neg hn23 hf
                        have hout : (ia SE 1 a1).toInt < 13 ∨ 23 < (ia SE 1 a1).toInt := by
                          have e13 := tc_ne hn13
                          have e14 := tc_ne hn14
                          have e15 := tc_ne hn15
                          have e16 := tc_ne hn16
                          have e17 := tc_ne hn17
                          have e18 := tc_ne hn18
                          have e19 := tc_ne hn19
                          have e20 := tc_ne hn20
                          have e21 := tc_ne hn21
                          have e22 := tc_ne hn22
                          have e23 := tc_ne hn23
                          simp only [show ((13 : Int32)).toInt = 13 from by decide, show ((14 : Int32)).toInt = 14 from by decide, show ((15 : Int32)).toInt = 15 from by decide, show ((16 : Int32)).toInt = 16 from by decide, show ((17 : Int32)).toInt = 17 from by decide, show ((18 : Int32)).toInt = 18 from by decide, show ((19 : Int32)).toInt = 19 from by decide, show ((20 : Int32)).toInt = 20 from by decide, show ((21 : Int32)).toInt = 21 from by decide, show ((22 : Int32)).toInt = 22 from by decide, show ((23 : Int32)).toInt = 23 from by decide] at e13 e14 e15 e16 e17 e18 e19 e20 e21 e22 e23
                          omega
                        refine lv_tableOut (tgt := 173) hx hb dX0_behindStep_29 hout (by decide) ?_
                        refine lv_aload_n hx hb dX0_behindStep_173 rfl (lv_at hl 2 rfl) ?_
                        refine va_get (D := (dC, dI)) (ci := 0) (v := .ref (qE 0)) (C := RX0) (T := TX0) (N := 10) hx hb hts i_X0 hown hK hP 0 rfl rfl 1 (by decide) (hts _ wf_X0_19) (fun _ h9 => h9) rfl dX0_behindStep_174 ?_
                        refine va_get (D := (dC, dI)) (ci := 1) (v := .int (gi SE 2)) (C := RX1) (T := TX1) (N := 8) hx hb hts i_X1 hown hK hP 13 rfl rfl 2 (by decide) (hts _ wf_X0_45) (fun _ h9 => h9) rfl dX0_behindStep_177 ?_
                        obtain rfl := Option.some.inj hf
                        exact tc_ri X hP hD hS rfl dX0_behindStep_180 rfl rfl
theorem pw0_7_1_0_0 (ca : Nat → ClassId) (q0 q1 q2 : Nat → Nat) (r0_0 r0_1 : Value) (S0 S1 S2 : ms_T) (v : Value) : (w0 ca q0 r0_0 r0_1 S0 ++ w7 ca q1 S1 ++ w1 ca q2 S2 : va_W).set 0 (q0 0, .inr (0, List.set (r0_0 :: r0_1 :: .int (gi S0 2) :: .ref (q0 1) :: .int (gi S0 4) :: .int (gi S0 5) :: .int (gi S0 6) :: .int (gi S0 7) :: .int (gi S0 8) :: .int (gi S0 9) :: []) 0 (v))) = w0 ca q0 v r0_1 S0 ++ w7 ca q1 S1 ++ w1 ca q2 S2 := rfl
theorem pw0_7_1_0_1 (ca : Nat → ClassId) (q0 q1 q2 : Nat → Nat) (r0_0 r0_1 : Value) (S0 S1 S2 : ms_T) (v : Value) : (w0 ca q0 r0_0 r0_1 S0 ++ w7 ca q1 S1 ++ w1 ca q2 S2 : va_W).set 0 (q0 0, .inr (0, List.set (r0_0 :: r0_1 :: .int (gi S0 2) :: .ref (q0 1) :: .int (gi S0 4) :: .int (gi S0 5) :: .int (gi S0 6) :: .int (gi S0 7) :: .int (gi S0 8) :: .int (gi S0 9) :: []) 1 (v))) = w0 ca q0 r0_0 v S0 ++ w7 ca q1 S1 ++ w1 ca q2 S2 := rfl
theorem pw0_7_1_0_2 (ca : Nat → ClassId) (q0 q1 q2 : Nat → Nat) (r0_0 r0_1 : Value) (S0 S1 S2 : ms_T) (v : Int32) : (w0 ca q0 r0_0 r0_1 S0 ++ w7 ca q1 S1 ++ w1 ca q2 S2 : va_W).set 0 (q0 0, .inr (0, List.set (r0_0 :: r0_1 :: .int (gi S0 2) :: .ref (q0 1) :: .int (gi S0 4) :: .int (gi S0 5) :: .int (gi S0 6) :: .int (gi S0 7) :: .int (gi S0 8) :: .int (gi S0 9) :: []) 2 (.int v))) = w0 ca q0 r0_0 r0_1 (si S0 2 v) ++ w7 ca q1 S1 ++ w1 ca q2 S2 := rfl
theorem pw0_7_1_0_4 (ca : Nat → ClassId) (q0 q1 q2 : Nat → Nat) (r0_0 r0_1 : Value) (S0 S1 S2 : ms_T) (v : Int32) : (w0 ca q0 r0_0 r0_1 S0 ++ w7 ca q1 S1 ++ w1 ca q2 S2 : va_W).set 0 (q0 0, .inr (0, List.set (r0_0 :: r0_1 :: .int (gi S0 2) :: .ref (q0 1) :: .int (gi S0 4) :: .int (gi S0 5) :: .int (gi S0 6) :: .int (gi S0 7) :: .int (gi S0 8) :: .int (gi S0 9) :: []) 4 (.int v))) = w0 ca q0 r0_0 r0_1 (si S0 4 v) ++ w7 ca q1 S1 ++ w1 ca q2 S2 := rfl
theorem pw0_7_1_0_5 (ca : Nat → ClassId) (q0 q1 q2 : Nat → Nat) (r0_0 r0_1 : Value) (S0 S1 S2 : ms_T) (v : Int32) : (w0 ca q0 r0_0 r0_1 S0 ++ w7 ca q1 S1 ++ w1 ca q2 S2 : va_W).set 0 (q0 0, .inr (0, List.set (r0_0 :: r0_1 :: .int (gi S0 2) :: .ref (q0 1) :: .int (gi S0 4) :: .int (gi S0 5) :: .int (gi S0 6) :: .int (gi S0 7) :: .int (gi S0 8) :: .int (gi S0 9) :: []) 5 (.int v))) = w0 ca q0 r0_0 r0_1 (si S0 5 v) ++ w7 ca q1 S1 ++ w1 ca q2 S2 := rfl
theorem pw0_7_1_0_6 (ca : Nat → ClassId) (q0 q1 q2 : Nat → Nat) (r0_0 r0_1 : Value) (S0 S1 S2 : ms_T) (v : Int32) : (w0 ca q0 r0_0 r0_1 S0 ++ w7 ca q1 S1 ++ w1 ca q2 S2 : va_W).set 0 (q0 0, .inr (0, List.set (r0_0 :: r0_1 :: .int (gi S0 2) :: .ref (q0 1) :: .int (gi S0 4) :: .int (gi S0 5) :: .int (gi S0 6) :: .int (gi S0 7) :: .int (gi S0 8) :: .int (gi S0 9) :: []) 6 (.int v))) = w0 ca q0 r0_0 r0_1 (si S0 6 v) ++ w7 ca q1 S1 ++ w1 ca q2 S2 := rfl
theorem pw0_7_1_0_7 (ca : Nat → ClassId) (q0 q1 q2 : Nat → Nat) (r0_0 r0_1 : Value) (S0 S1 S2 : ms_T) (v : Int32) : (w0 ca q0 r0_0 r0_1 S0 ++ w7 ca q1 S1 ++ w1 ca q2 S2 : va_W).set 0 (q0 0, .inr (0, List.set (r0_0 :: r0_1 :: .int (gi S0 2) :: .ref (q0 1) :: .int (gi S0 4) :: .int (gi S0 5) :: .int (gi S0 6) :: .int (gi S0 7) :: .int (gi S0 8) :: .int (gi S0 9) :: []) 7 (.int v))) = w0 ca q0 r0_0 r0_1 (si S0 7 v) ++ w7 ca q1 S1 ++ w1 ca q2 S2 := rfl
theorem pw0_7_1_0_8 (ca : Nat → ClassId) (q0 q1 q2 : Nat → Nat) (r0_0 r0_1 : Value) (S0 S1 S2 : ms_T) (v : Int32) : (w0 ca q0 r0_0 r0_1 S0 ++ w7 ca q1 S1 ++ w1 ca q2 S2 : va_W).set 0 (q0 0, .inr (0, List.set (r0_0 :: r0_1 :: .int (gi S0 2) :: .ref (q0 1) :: .int (gi S0 4) :: .int (gi S0 5) :: .int (gi S0 6) :: .int (gi S0 7) :: .int (gi S0 8) :: .int (gi S0 9) :: []) 8 (.int v))) = w0 ca q0 r0_0 r0_1 (si S0 8 v) ++ w7 ca q1 S1 ++ w1 ca q2 S2 := rfl
theorem pw0_7_1_0_9 (ca : Nat → ClassId) (q0 q1 q2 : Nat → Nat) (r0_0 r0_1 : Value) (S0 S1 S2 : ms_T) (v : Int32) : (w0 ca q0 r0_0 r0_1 S0 ++ w7 ca q1 S1 ++ w1 ca q2 S2 : va_W).set 0 (q0 0, .inr (0, List.set (r0_0 :: r0_1 :: .int (gi S0 2) :: .ref (q0 1) :: .int (gi S0 4) :: .int (gi S0 5) :: .int (gi S0 6) :: .int (gi S0 7) :: .int (gi S0 8) :: .int (gi S0 9) :: []) 9 (.int v))) = w0 ca q0 r0_0 r0_1 (si S0 9 v) ++ w7 ca q1 S1 ++ w1 ca q2 S2 := rfl
def fX0_run_51  (SE : ms_T)  : Nat → ms_T → ms_T → Int32 → Int32 → Option (ms_T × ms_T)
  | 0, _, _, _, _ => none
  | n + 1, SV, ST, v4, v5 =>
    if (10000 : Int32) ≤ v5 then
      some (SV, ST)
    else
      if (gi SE 2) ≤ v4 then
        some (SV, ST)
      else
        if inb v4 60 = true then
          if (ia SE 1 v4) = (24 : Int32) then
            (fX0_behindEnd SV SE v4).bind fun z3 =>
            fX0_run_51 SE n z3.2 ST z3.1 (v5 + (1 : Int32))
          else
            if (gi SV 4) = (300 : Int32) then
              some (si SV 9 (1 : Int32), ST)
            else
              (fX0_behindStep (si SV 4 ((gi SV 4) + (1 : Int32))) ST SE v4).bind fun z2 =>
              fX0_run_51 SE n z2.2.1 z2.2.2 z2.1 (v5 + (1 : Int32))
        else none
def fX0_run  (SV : ms_T) (ST : ms_T) (SE : ms_T) (a3 : Int32) : Option (ms_T × ms_T) :=
  fX0_run_51 SE FU (si (si (si (si (si (si (si SV 2 a3) 4 (0 : Int32)) 5 (0 : Int32)) 6 (0 : Int32)) 7 (0 : Int32)) 8 (0 : Int32)) 9 (0 : Int32)) ST (0 : Int32) (0 : Int32)
abbrev rmX0_run : Room := { frames := 6, cells := 0, slots := 0, locals := 135 }
theorem okX0_run : tc_ok yX0_run cX0_run 6 none 3 := ⟨wc_X0_run, wn_X0, by decide, by decide, by decide +kernel⟩
set_option maxRecDepth 20000 in
theorem tX0_run_51 {qV : Nat → Nat} {qT : Nat → Nat} {qE : Nat → Nat}  (X : tc_X dC dI ca A RX0 cX0_run 6 none p s m args meth c) (z : ms_T × ms_T)  (SE : ms_T)   : ∀ n : Nat, ∀ (SV : ms_T) (ST : ms_T) (v4 : Int32) (v5 : Int32), fX0_run_51 SE n SV ST v4 v5 = some z → ∀ (H : Heap) (locs : List Loc) (ls : Array Slot), va_P (dC, dI) classes (w0 ca qV (.ref (qT 0)) (.ref (qE 0)) SV ++ w7 ca qT ST ++ w1 ca qE SE) H → va_D A (w0 ca qV (.ref (qT 0)) (.ref (qE 0)) SV ++ w7 ca qT ST ++ w1 ca qE SE) → va_S A s.heap H locs → lv_has ls 6 [(0, .ref (qV 0)), (4, .int (v4)), (5, .int (v5))] → W p l e rmX0_run s m args below meth c H locs 0 0 (MQ below (tc_QV dC dI ca A (w0 ca qV (.ref (qT 0)) (.ref (qE 0)) z.1 ++ w7 ca qT z.2 ++ w1 ca qE SE)) args s 0 0 A) (F0 m 51 ls []) := by
  obtain ⟨hx, hb, hr, hml, hown, hts, hlk, hK, hA, hG⟩ := id X
  intro n
  induction n with
  | zero => intro SV ST v4 v5 hf; exact absurd (show none = some z from hf) (fun h => by cases h)
  | succ n ih =>
    intro SV ST v4 v5 hf H locs ls hP hD hS hl
    rw [fX0_run_51] at hf
    refine lv_iload hx hb dX0_run_51 (lv_at hl 2 rfl) ?_
    refine lv_sipush (v := (10000 : Int32)) hx hb dX0_run_53 (by decide) ?_
    refine lv_icmp_ge (tgt := 137) hx hb dX0_run_56 (by decide) (fun hc => ?_) (fun hc => ?_)
    · have hf := tc_pos hc hf
      obtain rfl := Option.some.inj hf
      exact tc_rv X hP hD hS rfl dX0_run_137 rfl
    · have hf := tc_neg hc hf
      refine lv_iload hx hb dX0_run_59 (lv_at hl 1 rfl) ?_
      refine lv_aload_n hx hb dX0_run_61 rfl (lv_at hl 0 rfl) ?_
      refine va_get (D := (dC, dI)) (ci := 0) (v := .ref (qE 0)) (C := RX0) (T := TX0) (N := 10) hx hb hts i_X0 hown hK hP 0 rfl rfl 1 (by decide) (hts _ wf_X0_19) (fun _ h9 => h9) rfl dX0_run_62 ?_
      refine va_get (D := (dC, dI)) (ci := 1) (v := .int (gi SE 2)) (C := RX1) (T := TX1) (N := 8) hx hb hts i_X1 hown hK hP 13 rfl rfl 2 (by decide) (hts _ wf_X0_45) (fun _ h9 => h9) rfl dX0_run_65 ?_
      refine lv_icmp_ge (tgt := 137) hx hb dX0_run_68 (by decide) (fun hc => ?_) (fun hc => ?_)
      · have hf := tc_pos hc hf
        obtain rfl := Option.some.inj hf
        exact tc_rv X hP hD hS rfl dX0_run_137 rfl
      · have hf := tc_neg hc hf
        refine lv_aload_n hx hb dX0_run_71 rfl (lv_at hl 0 rfl) ?_
        refine va_get (D := (dC, dI)) (ci := 0) (v := .ref (qE 0)) (C := RX0) (T := TX0) (N := 10) hx hb hts i_X0 hown hK hP 0 rfl rfl 1 (by decide) (hts _ wf_X0_19) (fun _ h9 => h9) rfl dX0_run_72 ?_
        refine va_get (D := (dC, dI)) (ci := 1) (v := .ref (qE 1)) (C := RX1) (T := TX1) (N := 8) hx hb hts i_X1 hown hK hP 13 rfl rfl 3 (by decide) (hts _ wf_X0_48) (fun _ h9 => h9) rfl dX0_run_75 ?_
        refine lv_iload hx hb dX0_run_78 (lv_at hl 1 rfl) ?_
        obtain ⟨hi1, hf⟩ := tc_in hf
        refine va_iald hx hb hK hP 14 1 rfl rfl hi1 dX0_run_80 ?_
        refine lv_bipush (v := (24 : Int32)) hx hb dX0_run_81 (by decide) ?_
        refine lv_icmp_ne (tgt := 97) hx hb dX0_run_83 (by decide) (fun hc => ?_) (fun hc => ?_)
        · have hf := tc_neg hc hf
          refine lv_aload_n hx hb dX0_run_97 rfl (lv_at hl 0 rfl) ?_
          refine va_get (D := (dC, dI)) (ci := 0) (v := .int (gi SV 4)) (C := RX0) (T := TX0) (N := 10) hx hb hts i_X0 hown hK hP 0 rfl rfl 4 (by decide) (hts _ wf_X0_27) (fun _ h9 => h9) rfl dX0_run_98 ?_
          refine lv_sipush (v := (300 : Int32)) hx hb dX0_run_101 (by decide) ?_
          refine lv_icmp_ne (tgt := 113) hx hb dX0_run_104 (by decide) (fun hc => ?_) (fun hc => ?_)
          · have hf := tc_neg hc hf
            refine lv_aload_n hx hb dX0_run_113 rfl (lv_at hl 0 rfl) ?_
            refine lv_dup hx hb dX0_run_114 rfl ?_
            refine va_get (D := (dC, dI)) (ci := 0) (v := .int (gi SV 4)) (C := RX0) (T := TX0) (N := 10) hx hb hts i_X0 hown hK hP 0 rfl rfl 4 (by decide) (hts _ wf_X0_27) (fun _ h9 => h9) rfl dX0_run_115 ?_
            refine lv_iconst (v := (1 : Int32)) hx hb dX0_run_118 (by decide) ?_
            refine lv_iadd hx hb dX0_run_119 ?_
            refine va_put (D := (dC, dI)) (ci := 0) (v := .int ((gi SV 4) + (1 : Int32))) (ty := .int) (C := RX0) (T := TX0) (N := 10) hx hb hts i_X0 tyX0 tyX0_ok nmX0 hown hK hP hD hS 0 rfl rfl 4 (by decide) (hts _ wf_X0_27) (fun _ h9 => h9) rfl (tyX0_ok 4 (by decide)) rfl rfl (Nat.le_of_ble_eq_true rfl) dX0_run_120 (fun H locs hP hD hS => ?_)
            have hP := tc_eP (pw0_7_1_0_4 ca qV qT qE (.ref (qT 0)) (.ref (qE 0)) SV ST SE ((gi SV 4) + (1 : Int32))) hP
            have hD := tc_eD (pw0_7_1_0_4 ca qV qT qE (.ref (qT 0)) (.ref (qE 0)) SV ST SE ((gi SV 4) + (1 : Int32))) hD
            refine lv_aload_n hx hb dX0_run_123 rfl (lv_at hl 0 rfl) ?_
            refine lv_iload hx hb dX0_run_124 (lv_at hl 1 rfl) ?_
            obtain ⟨z2, hg, hf⟩ := tc_bi hf
            refine tc_iVs (As := [.int (v4)]) (rest := []) (b := qV 0) X hP hD hS (mX0_behindStep hg) okX0_behindStep wl_X0_57 wi_X0_behindStep ws_X0_X0_behindStep_X0_behindStep ⟨rfl, rfl, Nat.le_of_ble_eq_true rfl, Nat.le_of_ble_eq_true rfl⟩ 0 0 rfl rfl rfl hl.1 (Nat.le_of_ble_eq_true rfl) dX0_run_126 (fun H locs hP hD hS => ?_)
            refine lv_istore (lv' := [(4, .int (z2.1)), (0, .ref (qV 0)), (5, .int (v5))]) hx hb dX0_run_129 hl (by decide) rfl (fun ls hl => ?_)
            refine lv_iinc (v := v5 + (1 : Int32)) (lv' := [(5, .int (v5 + (1 : Int32))), (4, .int (z2.1)), (0, .ref (qV 0))]) hx hb dX0_run_131 hl (k := 2) rfl rfl (by decide) rfl (fun ls hl => ?_)
            refine lv_goto (tgt := 51) hx hb dX0_run_134 (by decide) ?_
            exact ih z2.2.1 z2.2.2 z2.1 (v5 + (1 : Int32)) hf _ _ _ hP hD hS (lv_sub hl [2, 1, 0] rfl)
          · have hf := tc_pos hc hf
            refine lv_aload_n hx hb dX0_run_107 rfl (lv_at hl 0 rfl) ?_
            refine lv_iconst (v := (1 : Int32)) hx hb dX0_run_108 (by decide) ?_
            refine va_put (D := (dC, dI)) (ci := 0) (v := .int ((1 : Int32))) (ty := .int) (C := RX0) (T := TX0) (N := 10) hx hb hts i_X0 tyX0 tyX0_ok nmX0 hown hK hP hD hS 0 rfl rfl 9 (by decide) (hts _ wf_X0_42) (fun _ h9 => h9) rfl (tyX0_ok 9 (by decide)) rfl rfl (Nat.le_of_ble_eq_true rfl) dX0_run_109 (fun H locs hP hD hS => ?_)
            have hP := tc_eP (pw0_7_1_0_9 ca qV qT qE (.ref (qT 0)) (.ref (qE 0)) SV ST SE (1 : Int32)) hP
            have hD := tc_eD (pw0_7_1_0_9 ca qV qT qE (.ref (qT 0)) (.ref (qE 0)) SV ST SE (1 : Int32)) hD
            obtain rfl := Option.some.inj hf
            exact tc_rv X hP hD hS rfl dX0_run_112 rfl
        · have hf := tc_pos hc hf
          refine lv_aload_n hx hb dX0_run_86 rfl (lv_at hl 0 rfl) ?_
          refine lv_iload hx hb dX0_run_87 (lv_at hl 1 rfl) ?_
          obtain ⟨z3, hg, hf⟩ := tc_bi hf
          refine tc_iV (As := [.int (v4)]) (rest := []) (b := qV 0) (wc := w0 ca qV (.ref (qT 0)) (.ref (qE 0)) SV ++ w1 ca qE SE) (wr := w7 ca qT ST) X hP hD hS (mX0_behindEnd hg) okX0_behindEnd wl_X0_53 wi_X0_behindEnd ws_X0_X0_behindEnd_X0_behindEnd ⟨rfl, rfl, Nat.le_of_ble_eq_true rfl, Nat.le_of_ble_eq_true rfl⟩ 0 0 rfl rfl [0, 1, 13, 14, 15, 16, 17, 18] [2, 3, 4, 5, 6, 7, 8, 9, 10, 11, 12] ⟨rfl, rfl, rfl, rfl, by decide⟩ rfl hl.1 (Nat.le_of_ble_eq_true rfl) dX0_run_89 (fun H locs hP hD hS => ?_)
          have hP := hP.sub (ws' := (w0 ca qV (.ref (qT 0)) (.ref (qE 0)) z3.2 ++ w7 ca qT ST ++ w1 ca qE SE)) [11, 12, 0, 1, 2, 3, 4, 5, 6, 7, 8, 9, 10, 13, 14, 15, 16, 17, 18] rfl
          have hD := hD.sub (ws' := (w0 ca qV (.ref (qT 0)) (.ref (qE 0)) z3.2 ++ w7 ca qT ST ++ w1 ca qE SE)) [11, 12, 0, 1, 2, 3, 4, 5, 6, 7, 8, 9, 10, 13, 14, 15, 16, 17, 18] rfl rfl
          refine lv_istore (lv' := [(4, .int (z3.1)), (0, .ref (qV 0)), (5, .int (v5))]) hx hb dX0_run_92 hl (by decide) rfl (fun ls hl => ?_)
          refine lv_goto (tgt := 131) hx hb dX0_run_94 (by decide) ?_
          refine lv_iinc (v := v5 + (1 : Int32)) (lv' := [(5, .int (v5 + (1 : Int32))), (4, .int (z3.1)), (0, .ref (qV 0))]) hx hb dX0_run_131 hl (k := 2) rfl rfl (by decide) rfl (fun ls hl => ?_)
          refine lv_goto (tgt := 51) hx hb dX0_run_134 (by decide) ?_
          exact ih z3.2 ST z3.1 (v5 + (1 : Int32)) hf _ _ _ hP hD hS (lv_sub hl [2, 1, 0] rfl)
set_option maxRecDepth 20000 in
theorem mX0_run {qV : Nat → Nat} {qT : Nat → Nat} {qE : Nat → Nat} {rV0 : Value} {rV1 : Value} {SV : ms_T} {ST : ms_T} {SE : ms_T} {a3 : Int32} {z : ms_T × ms_T}  (hf : fX0_run SV ST SE a3 = some z) : tc_MV l dC dI ca yX0_run cX0_run 6 none rmX0_run [.ref (qV 0), .ref (qT 0), .ref (qE 0), .int (a3)] (w0 ca qV (rV0) (rV1) SV ++ w7 ca qT ST ++ w1 ca qE SE) (w0 ca qV (.ref (qT 0)) (.ref (qE 0)) z.1 ++ w7 ca qT z.2 ++ w1 ca qE SE) := by
  refine tc_metV (own := RX0) (by decide) rfl ?_ (Nat.le_of_ble_eq_true rfl)
  intro p e s m below meth c A X hP hD hS ls hl
  obtain ⟨hx, hb, hr, hml, hown, hts, hlk, hK, hA, hG⟩ := id X
  unfold fX0_run at hf
  have hl : lv_has ls 6 [(0, .ref (qV 0)), (1, .ref (qT 0)), (2, .ref (qE 0)), (3, .int (a3))] := hl
  refine lv_aload_n hx hb dX0_run_0 rfl (lv_at hl 0 rfl) ?_
  refine lv_aload_n hx hb dX0_run_1 rfl (lv_at hl 1 rfl) ?_
  refine va_put (D := (dC, dI)) (ci := 0) (v := .ref (qT 0)) (ty := .object "TalkChutes$Table") (C := RX0) (T := TX0) (N := 10) hx hb hts i_X0 tyX0 tyX0_ok nmX0 hown hK hP hD hS 0 rfl rfl 0 (by decide) (hts _ wf_X0_15) (fun _ h9 => h9) rfl (tyX0_ok 0 (by decide)) rfl rfl (Nat.le_of_ble_eq_true rfl) dX0_run_2 (fun H locs hP hD hS => ?_)
  have hP := tc_eP (pw0_7_1_0_0 ca qV qT qE (rV0) (rV1) SV ST SE (.ref (qT 0))) hP
  have hD := tc_eD (pw0_7_1_0_0 ca qV qT qE (rV0) (rV1) SV ST SE (.ref (qT 0))) hD
  refine lv_aload_n hx hb dX0_run_5 rfl (lv_at hl 0 rfl) ?_
  refine lv_aload_n hx hb dX0_run_6 rfl (lv_at hl 2 rfl) ?_
  refine va_put (D := (dC, dI)) (ci := 0) (v := .ref (qE 0)) (ty := .object "TalkChutes$Evenings") (C := RX0) (T := TX0) (N := 10) hx hb hts i_X0 tyX0 tyX0_ok nmX0 hown hK hP hD hS 0 rfl rfl 1 (by decide) (hts _ wf_X0_19) (fun _ h9 => h9) rfl (tyX0_ok 1 (by decide)) rfl rfl (Nat.le_of_ble_eq_true rfl) dX0_run_7 (fun H locs hP hD hS => ?_)
  have hP := tc_eP (pw0_7_1_0_1 ca qV qT qE (.ref (qT 0)) (rV1) SV ST SE (.ref (qE 0))) hP
  have hD := tc_eD (pw0_7_1_0_1 ca qV qT qE (.ref (qT 0)) (rV1) SV ST SE (.ref (qE 0))) hD
  refine lv_aload_n hx hb dX0_run_10 rfl (lv_at hl 0 rfl) ?_
  refine lv_iload_n hx hb dX0_run_11 rfl (lv_at hl 3 rfl) ?_
  refine va_put (D := (dC, dI)) (ci := 0) (v := .int (a3)) (ty := .int) (C := RX0) (T := TX0) (N := 10) hx hb hts i_X0 tyX0 tyX0_ok nmX0 hown hK hP hD hS 0 rfl rfl 2 (by decide) (hts _ wf_X0_23) (fun _ h9 => h9) rfl (tyX0_ok 2 (by decide)) rfl rfl (Nat.le_of_ble_eq_true rfl) dX0_run_12 (fun H locs hP hD hS => ?_)
  have hP := tc_eP (pw0_7_1_0_2 ca qV qT qE (.ref (qT 0)) (.ref (qE 0)) SV ST SE a3) hP
  have hD := tc_eD (pw0_7_1_0_2 ca qV qT qE (.ref (qT 0)) (.ref (qE 0)) SV ST SE a3) hD
  refine lv_aload_n hx hb dX0_run_15 rfl (lv_at hl 0 rfl) ?_
  refine lv_iconst (v := (0 : Int32)) hx hb dX0_run_16 (by decide) ?_
  refine va_put (D := (dC, dI)) (ci := 0) (v := .int ((0 : Int32))) (ty := .int) (C := RX0) (T := TX0) (N := 10) hx hb hts i_X0 tyX0 tyX0_ok nmX0 hown hK hP hD hS 0 rfl rfl 4 (by decide) (hts _ wf_X0_27) (fun _ h9 => h9) rfl (tyX0_ok 4 (by decide)) rfl rfl (Nat.le_of_ble_eq_true rfl) dX0_run_17 (fun H locs hP hD hS => ?_)
  have hP := tc_eP (pw0_7_1_0_4 ca qV qT qE (.ref (qT 0)) (.ref (qE 0)) (si SV 2 a3) ST SE (0 : Int32)) hP
  have hD := tc_eD (pw0_7_1_0_4 ca qV qT qE (.ref (qT 0)) (.ref (qE 0)) (si SV 2 a3) ST SE (0 : Int32)) hD
  refine lv_aload_n hx hb dX0_run_20 rfl (lv_at hl 0 rfl) ?_
  refine lv_iconst (v := (0 : Int32)) hx hb dX0_run_21 (by decide) ?_
  refine va_put (D := (dC, dI)) (ci := 0) (v := .int ((0 : Int32))) (ty := .int) (C := RX0) (T := TX0) (N := 10) hx hb hts i_X0 tyX0 tyX0_ok nmX0 hown hK hP hD hS 0 rfl rfl 5 (by decide) (hts _ wf_X0_30) (fun _ h9 => h9) rfl (tyX0_ok 5 (by decide)) rfl rfl (Nat.le_of_ble_eq_true rfl) dX0_run_22 (fun H locs hP hD hS => ?_)
  have hP := tc_eP (pw0_7_1_0_5 ca qV qT qE (.ref (qT 0)) (.ref (qE 0)) (si (si SV 2 a3) 4 (0 : Int32)) ST SE (0 : Int32)) hP
  have hD := tc_eD (pw0_7_1_0_5 ca qV qT qE (.ref (qT 0)) (.ref (qE 0)) (si (si SV 2 a3) 4 (0 : Int32)) ST SE (0 : Int32)) hD
  refine lv_aload_n hx hb dX0_run_25 rfl (lv_at hl 0 rfl) ?_
  refine lv_iconst (v := (0 : Int32)) hx hb dX0_run_26 (by decide) ?_
  refine va_put (D := (dC, dI)) (ci := 0) (v := .int ((0 : Int32))) (ty := .int) (C := RX0) (T := TX0) (N := 10) hx hb hts i_X0 tyX0 tyX0_ok nmX0 hown hK hP hD hS 0 rfl rfl 6 (by decide) (hts _ wf_X0_33) (fun _ h9 => h9) rfl (tyX0_ok 6 (by decide)) rfl rfl (Nat.le_of_ble_eq_true rfl) dX0_run_27 (fun H locs hP hD hS => ?_)
  have hP := tc_eP (pw0_7_1_0_6 ca qV qT qE (.ref (qT 0)) (.ref (qE 0)) (si (si (si SV 2 a3) 4 (0 : Int32)) 5 (0 : Int32)) ST SE (0 : Int32)) hP
  have hD := tc_eD (pw0_7_1_0_6 ca qV qT qE (.ref (qT 0)) (.ref (qE 0)) (si (si (si SV 2 a3) 4 (0 : Int32)) 5 (0 : Int32)) ST SE (0 : Int32)) hD
  refine lv_aload_n hx hb dX0_run_30 rfl (lv_at hl 0 rfl) ?_
  refine lv_iconst (v := (0 : Int32)) hx hb dX0_run_31 (by decide) ?_
  refine va_put (D := (dC, dI)) (ci := 0) (v := .int ((0 : Int32))) (ty := .int) (C := RX0) (T := TX0) (N := 10) hx hb hts i_X0 tyX0 tyX0_ok nmX0 hown hK hP hD hS 0 rfl rfl 7 (by decide) (hts _ wf_X0_36) (fun _ h9 => h9) rfl (tyX0_ok 7 (by decide)) rfl rfl (Nat.le_of_ble_eq_true rfl) dX0_run_32 (fun H locs hP hD hS => ?_)
  have hP := tc_eP (pw0_7_1_0_7 ca qV qT qE (.ref (qT 0)) (.ref (qE 0)) (si (si (si (si SV 2 a3) 4 (0 : Int32)) 5 (0 : Int32)) 6 (0 : Int32)) ST SE (0 : Int32)) hP
  have hD := tc_eD (pw0_7_1_0_7 ca qV qT qE (.ref (qT 0)) (.ref (qE 0)) (si (si (si (si SV 2 a3) 4 (0 : Int32)) 5 (0 : Int32)) 6 (0 : Int32)) ST SE (0 : Int32)) hD
  refine lv_aload_n hx hb dX0_run_35 rfl (lv_at hl 0 rfl) ?_
  refine lv_iconst (v := (0 : Int32)) hx hb dX0_run_36 (by decide) ?_
  refine va_put (D := (dC, dI)) (ci := 0) (v := .int ((0 : Int32))) (ty := .int) (C := RX0) (T := TX0) (N := 10) hx hb hts i_X0 tyX0 tyX0_ok nmX0 hown hK hP hD hS 0 rfl rfl 8 (by decide) (hts _ wf_X0_39) (fun _ h9 => h9) rfl (tyX0_ok 8 (by decide)) rfl rfl (Nat.le_of_ble_eq_true rfl) dX0_run_37 (fun H locs hP hD hS => ?_)
  have hP := tc_eP (pw0_7_1_0_8 ca qV qT qE (.ref (qT 0)) (.ref (qE 0)) (si (si (si (si (si SV 2 a3) 4 (0 : Int32)) 5 (0 : Int32)) 6 (0 : Int32)) 7 (0 : Int32)) ST SE (0 : Int32)) hP
  have hD := tc_eD (pw0_7_1_0_8 ca qV qT qE (.ref (qT 0)) (.ref (qE 0)) (si (si (si (si (si SV 2 a3) 4 (0 : Int32)) 5 (0 : Int32)) 6 (0 : Int32)) 7 (0 : Int32)) ST SE (0 : Int32)) hD
  refine lv_aload_n hx hb dX0_run_40 rfl (lv_at hl 0 rfl) ?_
  refine lv_iconst (v := (0 : Int32)) hx hb dX0_run_41 (by decide) ?_
  refine va_put (D := (dC, dI)) (ci := 0) (v := .int ((0 : Int32))) (ty := .int) (C := RX0) (T := TX0) (N := 10) hx hb hts i_X0 tyX0 tyX0_ok nmX0 hown hK hP hD hS 0 rfl rfl 9 (by decide) (hts _ wf_X0_42) (fun _ h9 => h9) rfl (tyX0_ok 9 (by decide)) rfl rfl (Nat.le_of_ble_eq_true rfl) dX0_run_42 (fun H locs hP hD hS => ?_)
  have hP := tc_eP (pw0_7_1_0_9 ca qV qT qE (.ref (qT 0)) (.ref (qE 0)) (si (si (si (si (si (si SV 2 a3) 4 (0 : Int32)) 5 (0 : Int32)) 6 (0 : Int32)) 7 (0 : Int32)) 8 (0 : Int32)) ST SE (0 : Int32)) hP
  have hD := tc_eD (pw0_7_1_0_9 ca qV qT qE (.ref (qT 0)) (.ref (qE 0)) (si (si (si (si (si (si SV 2 a3) 4 (0 : Int32)) 5 (0 : Int32)) 6 (0 : Int32)) 7 (0 : Int32)) 8 (0 : Int32)) ST SE (0 : Int32)) hD
  refine lv_iconst (v := (0 : Int32)) hx hb dX0_run_45 (by decide) ?_
  refine lv_istore (lv' := [(4, .int ((0 : Int32))), (0, .ref (qV 0)), (1, .ref (qT 0)), (2, .ref (qE 0)), (3, .int (a3))]) hx hb dX0_run_46 hl (by decide) rfl (fun ls hl => ?_)
  refine lv_iconst (v := (0 : Int32)) hx hb dX0_run_48 (by decide) ?_
  refine lv_istore (lv' := [(5, .int ((0 : Int32))), (4, .int ((0 : Int32))), (0, .ref (qV 0)), (1, .ref (qT 0)), (2, .ref (qE 0)), (3, .int (a3))]) hx hb dX0_run_49 hl (by decide) rfl (fun ls hl => ?_)
  exact tX0_run_51 X z SE FU (si (si (si (si (si (si (si SV 2 a3) 4 (0 : Int32)) 5 (0 : Int32)) 6 (0 : Int32)) 7 (0 : Int32)) 8 (0 : Int32)) 9 (0 : Int32)) ST (0 : Int32) (0 : Int32) hf _ _ _ hP hD hS (lv_sub hl [2, 1, 0] rfl)
theorem pw1_0_0 (ca : Nat → ClassId) (q0 : Nat → Nat) (S0 : ms_T) (v : Int32) : (w1 ca q0 S0 : va_W).set 0 (q0 0, .inr (1, List.set (.int (gi S0 0) :: .int (gi S0 1) :: .int (gi S0 2) :: .ref (q0 1) :: .ref (q0 2) :: .ref (q0 3) :: .ref (q0 4) :: .ref (q0 5) :: []) 0 (.int v))) = w1 ca q0 (si S0 0 v) := rfl
theorem pw1_0_1 (ca : Nat → ClassId) (q0 : Nat → Nat) (S0 : ms_T) (v : Int32) : (w1 ca q0 S0 : va_W).set 0 (q0 0, .inr (1, List.set (.int (gi S0 0) :: .int (gi S0 1) :: .int (gi S0 2) :: .ref (q0 1) :: .ref (q0 2) :: .ref (q0 3) :: .ref (q0 4) :: .ref (q0 5) :: []) 1 (.int v))) = w1 ca q0 (si S0 1 v) := rfl
theorem pw1_0_2 (ca : Nat → ClassId) (q0 : Nat → Nat) (S0 : ms_T) (v : Int32) : (w1 ca q0 S0 : va_W).set 0 (q0 0, .inr (1, List.set (.int (gi S0 0) :: .int (gi S0 1) :: .int (gi S0 2) :: .ref (q0 1) :: .ref (q0 2) :: .ref (q0 3) :: .ref (q0 4) :: .ref (q0 5) :: []) 2 (.int v))) = w1 ca q0 (si S0 2 v) := rfl
def fX1_clear  (S : ms_T)  : Option (ms_T) :=
  some (si (si (si S 0 (0 : Int32)) 1 (0 : Int32)) 2 (0 : Int32))
abbrev rmX1_clear : Room := { frames := 0, cells := 0, slots := 0, locals := 0 }
theorem okX1_clear : tc_ok yX1_clear cX1_clear 1 none 0 := ⟨wc_X1_clear, wn_X1, by decide, by decide, by decide +kernel⟩
set_option maxRecDepth 20000 in
theorem mX1_clear {q : Nat → Nat}  {S : ms_T}  {z : ms_T}  (hf : fX1_clear S = some z) : tc_MV l dC dI ca yX1_clear cX1_clear 1 none rmX1_clear [.ref (q 0)] (w1 ca q S) (w1 ca q z) := by
  refine tc_metV (own := RX1) (by decide) rfl ?_ (Nat.le_of_ble_eq_true rfl)
  intro p e s m below meth c A X hP hD hS ls hl
  obtain ⟨hx, hb, hr, hml, hown, hts, hlk, hK, hA, hG⟩ := id X
  unfold fX1_clear at hf
  have hl : lv_has ls 1 [(0, .ref (q 0))] := hl
  refine lv_aload_n hx hb dX1_clear_0 rfl (lv_at hl 0 rfl) ?_
  refine lv_iconst (v := (0 : Int32)) hx hb dX1_clear_1 (by decide) ?_
  refine va_put (D := (dC, dI)) (ci := 1) (v := .int ((0 : Int32))) (ty := .boolean) (C := RX1) (T := TX1) (N := 8) hx hb hts i_X1 tyX1 tyX1_ok nmX1 hown hK hP hD hS 0 rfl rfl 0 (by decide) (hts _ wf_X1_25) (fun _ h9 => h9) rfl (tyX1_ok 0 (by decide)) (tc_nb (by decide)) (tc_fb (by decide)) (Nat.le_of_ble_eq_true rfl) dX1_clear_2 (fun H locs hP hD hS => ?_)
  have hP := tc_eP (pw1_0_0 ca q S (0 : Int32)) hP
  have hD := tc_eD (pw1_0_0 ca q S (0 : Int32)) hD
  refine lv_aload_n hx hb dX1_clear_5 rfl (lv_at hl 0 rfl) ?_
  refine lv_iconst (v := (0 : Int32)) hx hb dX1_clear_6 (by decide) ?_
  refine va_put (D := (dC, dI)) (ci := 1) (v := .int ((0 : Int32))) (ty := .int) (C := RX1) (T := TX1) (N := 8) hx hb hts i_X1 tyX1 tyX1_ok nmX1 hown hK hP hD hS 0 rfl rfl 1 (by decide) (hts _ wf_X1_29) (fun _ h9 => h9) rfl (tyX1_ok 1 (by decide)) rfl rfl (Nat.le_of_ble_eq_true rfl) dX1_clear_7 (fun H locs hP hD hS => ?_)
  have hP := tc_eP (pw1_0_1 ca q (si S 0 (0 : Int32)) (0 : Int32)) hP
  have hD := tc_eD (pw1_0_1 ca q (si S 0 (0 : Int32)) (0 : Int32)) hD
  refine lv_aload_n hx hb dX1_clear_10 rfl (lv_at hl 0 rfl) ?_
  refine lv_iconst (v := (0 : Int32)) hx hb dX1_clear_11 (by decide) ?_
  refine va_put (D := (dC, dI)) (ci := 1) (v := .int ((0 : Int32))) (ty := .int) (C := RX1) (T := TX1) (N := 8) hx hb hts i_X1 tyX1 tyX1_ok nmX1 hown hK hP hD hS 0 rfl rfl 2 (by decide) (hts _ wf_X1_33) (fun _ h9 => h9) rfl (tyX1_ok 2 (by decide)) rfl rfl (Nat.le_of_ble_eq_true rfl) dX1_clear_12 (fun H locs hP hD hS => ?_)
  have hP := tc_eP (pw1_0_2 ca q (si (si S 0 (0 : Int32)) 1 (0 : Int32)) (0 : Int32)) hP
  have hD := tc_eD (pw1_0_2 ca q (si (si S 0 (0 : Int32)) 1 (0 : Int32)) (0 : Int32)) hD
  obtain rfl := Option.some.inj hf
  exact tc_rv X hP hD hS rfl dX1_clear_15 rfl
theorem pwm7_0_0 (ca : Nat → ClassId) (q0 q1 : Nat → Nat) (S0 S1 : ms_T) (v : Int32) : (w1 ca q0 S0 ++ w1 ca q1 S1 : va_W).set 0 (q0 0, .inr (1, List.set (.int (gi S0 0) :: .int (gi S0 1) :: .int (gi S0 2) :: .ref (q0 1) :: .ref (q0 2) :: .ref (q0 3) :: .ref (q0 4) :: .ref (q0 5) :: []) 0 (.int v))) = w1 ca q0 (si S0 0 v) ++ w1 ca q1 S1 := rfl
theorem pwm7_0_1 (ca : Nat → ClassId) (q0 q1 : Nat → Nat) (S0 S1 : ms_T) (v : Int32) : (w1 ca q0 S0 ++ w1 ca q1 S1 : va_W).set 0 (q0 0, .inr (1, List.set (.int (gi S0 0) :: .int (gi S0 1) :: .int (gi S0 2) :: .ref (q0 1) :: .ref (q0 2) :: .ref (q0 3) :: .ref (q0 4) :: .ref (q0 5) :: []) 1 (.int v))) = w1 ca q0 (si S0 1 v) ++ w1 ca q1 S1 := rfl
theorem pwm7_0_2 (ca : Nat → ClassId) (q0 q1 : Nat → Nat) (S0 S1 : ms_T) (v : Int32) : (w1 ca q0 S0 ++ w1 ca q1 S1 : va_W).set 0 (q0 0, .inr (1, List.set (.int (gi S0 0) :: .int (gi S0 1) :: .int (gi S0 2) :: .ref (q0 1) :: .ref (q0 2) :: .ref (q0 3) :: .ref (q0 4) :: .ref (q0 5) :: []) 2 (.int v))) = w1 ca q0 (si S0 2 v) ++ w1 ca q1 S1 := rfl
theorem cwm7_0_1 (ca : Nat → ClassId) (q0 q1 : Nat → Nat) (S0 S1 : ms_T) (f : Nat → Int32) : (w1 ca q0 S0 ++ w1 ca q1 S1 : va_W).set 1 (q0 1, .inl (ca 1, 60, .inl f)) = w1 ca q0 (sr S0 1 f) ++ w1 ca q1 S1 := rfl
theorem cwm7_0_2 (ca : Nat → ClassId) (q0 q1 : Nat → Nat) (S0 S1 : ms_T) (f : Nat → Int32) : (w1 ca q0 S0 ++ w1 ca q1 S1 : va_W).set 2 (q0 2, .inl (ca 1, 60, .inl f)) = w1 ca q0 (sr S0 2 f) ++ w1 ca q1 S1 := rfl
theorem cwm7_0_3 (ca : Nat → ClassId) (q0 q1 : Nat → Nat) (S0 S1 : ms_T) (f : Nat → Int32) : (w1 ca q0 S0 ++ w1 ca q1 S1 : va_W).set 3 (q0 3, .inl (ca 1, 60, .inl f)) = w1 ca q0 (sr S0 3 f) ++ w1 ca q1 S1 := rfl
theorem cwm7_0_4 (ca : Nat → ClassId) (q0 q1 : Nat → Nat) (S0 S1 : ms_T) (f : Nat → Int32) : (w1 ca q0 S0 ++ w1 ca q1 S1 : va_W).set 4 (q0 4, .inl (ca 1, 60, .inl f)) = w1 ca q0 (sr S0 4 f) ++ w1 ca q1 S1 := rfl
theorem cwm7_0_5 (ca : Nat → ClassId) (q0 q1 : Nat → Nat) (S0 S1 : ms_T) (f : Nat → Int32) : (w1 ca q0 S0 ++ w1 ca q1 S1 : va_W).set 5 (q0 5, .inl (ca 1, 60, .inl f)) = w1 ca q0 (sr S0 5 f) ++ w1 ca q1 S1 := rfl
def fX1_copyFrom  (SE : ms_T) (SF : ms_T)  : Option (ms_T) :=
  if (gi SF 0) &&& 1 = (gi SF 0) then
    if cpb (0 : Int32) (0 : Int32) (gi SF 2) 60 60 = true then
      if cpb (0 : Int32) (0 : Int32) (gi SF 2) 60 60 = true then
        if cpb (0 : Int32) (0 : Int32) (gi SF 2) 60 60 = true then
          if cpb (0 : Int32) (0 : Int32) (gi SF 2) 60 60 = true then
            if cpb (0 : Int32) (0 : Int32) (gi SF 2) 60 60 = true then
              some (sr (sr (sr (sr (sr (si (si (si SE 0 (gi SF 0)) 1 (gi SF 1)) 2 (gi SF 2)) 1 (cpi (ra SF 1) (ra (si (si (si SE 0 (gi SF 0)) 1 (gi SF 1)) 2 (gi SF 2)) 1) (0 : Int32) (0 : Int32) (gi SF 2))) 2 (cpi (ra SF 2) (ra (sr (si (si (si SE 0 (gi SF 0)) 1 (gi SF 1)) 2 (gi SF 2)) 1 (cpi (ra SF 1) (ra (si (si (si SE 0 (gi SF 0)) 1 (gi SF 1)) 2 (gi SF 2)) 1) (0 : Int32) (0 : Int32) (gi SF 2))) 2) (0 : Int32) (0 : Int32) (gi SF 2))) 3 (cpi (ra SF 3) (ra (sr (sr (si (si (si SE 0 (gi SF 0)) 1 (gi SF 1)) 2 (gi SF 2)) 1 (cpi (ra SF 1) (ra (si (si (si SE 0 (gi SF 0)) 1 (gi SF 1)) 2 (gi SF 2)) 1) (0 : Int32) (0 : Int32) (gi SF 2))) 2 (cpi (ra SF 2) (ra (sr (si (si (si SE 0 (gi SF 0)) 1 (gi SF 1)) 2 (gi SF 2)) 1 (cpi (ra SF 1) (ra (si (si (si SE 0 (gi SF 0)) 1 (gi SF 1)) 2 (gi SF 2)) 1) (0 : Int32) (0 : Int32) (gi SF 2))) 2) (0 : Int32) (0 : Int32) (gi SF 2))) 3) (0 : Int32) (0 : Int32) (gi SF 2))) 4 (cpi (ra SF 4) (ra (sr (sr (sr (si (si (si SE 0 (gi SF 0)) 1 (gi SF 1)) 2 (gi SF 2)) 1 (cpi (ra SF 1) (ra (si (si (si SE 0 (gi SF 0)) 1 (gi SF 1)) 2 (gi SF 2)) 1) (0 : Int32) (0 : Int32) (gi SF 2))) 2 (cpi (ra SF 2) (ra (sr (si (si (si SE 0 (gi SF 0)) 1 (gi SF 1)) 2 (gi SF 2)) 1 (cpi (ra SF 1) (ra (si (si (si SE 0 (gi SF 0)) 1 (gi SF 1)) 2 (gi SF 2)) 1) (0 : Int32) (0 : Int32) (gi SF 2))) 2) (0 : Int32) (0 : Int32) (gi SF 2))) 3 (cpi (ra SF 3) (ra (sr (sr (si (si (si SE 0 (gi SF 0)) 1 (gi SF 1)) 2 (gi SF 2)) 1 (cpi (ra SF 1) (ra (si (si (si SE 0 (gi SF 0)) 1 (gi SF 1)) 2 (gi SF 2)) 1) (0 : Int32) (0 : Int32) (gi SF 2))) 2 (cpi (ra SF 2) (ra (sr (si (si (si SE 0 (gi SF 0)) 1 (gi SF 1)) 2 (gi SF 2)) 1 (cpi (ra SF 1) (ra (si (si (si SE 0 (gi SF 0)) 1 (gi SF 1)) 2 (gi SF 2)) 1) (0 : Int32) (0 : Int32) (gi SF 2))) 2) (0 : Int32) (0 : Int32) (gi SF 2))) 3) (0 : Int32) (0 : Int32) (gi SF 2))) 4) (0 : Int32) (0 : Int32) (gi SF 2))) 5 (cpi (ra SF 5) (ra (sr (sr (sr (sr (si (si (si SE 0 (gi SF 0)) 1 (gi SF 1)) 2 (gi SF 2)) 1 (cpi (ra SF 1) (ra (si (si (si SE 0 (gi SF 0)) 1 (gi SF 1)) 2 (gi SF 2)) 1) (0 : Int32) (0 : Int32) (gi SF 2))) 2 (cpi (ra SF 2) (ra (sr (si (si (si SE 0 (gi SF 0)) 1 (gi SF 1)) 2 (gi SF 2)) 1 (cpi (ra SF 1) (ra (si (si (si SE 0 (gi SF 0)) 1 (gi SF 1)) 2 (gi SF 2)) 1) (0 : Int32) (0 : Int32) (gi SF 2))) 2) (0 : Int32) (0 : Int32) (gi SF 2))) 3 (cpi (ra SF 3) (ra (sr (sr (si (si (si SE 0 (gi SF 0)) 1 (gi SF 1)) 2 (gi SF 2)) 1 (cpi (ra SF 1) (ra (si (si (si SE 0 (gi SF 0)) 1 (gi SF 1)) 2 (gi SF 2)) 1) (0 : Int32) (0 : Int32) (gi SF 2))) 2 (cpi (ra SF 2) (ra (sr (si (si (si SE 0 (gi SF 0)) 1 (gi SF 1)) 2 (gi SF 2)) 1 (cpi (ra SF 1) (ra (si (si (si SE 0 (gi SF 0)) 1 (gi SF 1)) 2 (gi SF 2)) 1) (0 : Int32) (0 : Int32) (gi SF 2))) 2) (0 : Int32) (0 : Int32) (gi SF 2))) 3) (0 : Int32) (0 : Int32) (gi SF 2))) 4 (cpi (ra SF 4) (ra (sr (sr (sr (si (si (si SE 0 (gi SF 0)) 1 (gi SF 1)) 2 (gi SF 2)) 1 (cpi (ra SF 1) (ra (si (si (si SE 0 (gi SF 0)) 1 (gi SF 1)) 2 (gi SF 2)) 1) (0 : Int32) (0 : Int32) (gi SF 2))) 2 (cpi (ra SF 2) (ra (sr (si (si (si SE 0 (gi SF 0)) 1 (gi SF 1)) 2 (gi SF 2)) 1 (cpi (ra SF 1) (ra (si (si (si SE 0 (gi SF 0)) 1 (gi SF 1)) 2 (gi SF 2)) 1) (0 : Int32) (0 : Int32) (gi SF 2))) 2) (0 : Int32) (0 : Int32) (gi SF 2))) 3 (cpi (ra SF 3) (ra (sr (sr (si (si (si SE 0 (gi SF 0)) 1 (gi SF 1)) 2 (gi SF 2)) 1 (cpi (ra SF 1) (ra (si (si (si SE 0 (gi SF 0)) 1 (gi SF 1)) 2 (gi SF 2)) 1) (0 : Int32) (0 : Int32) (gi SF 2))) 2 (cpi (ra SF 2) (ra (sr (si (si (si SE 0 (gi SF 0)) 1 (gi SF 1)) 2 (gi SF 2)) 1 (cpi (ra SF 1) (ra (si (si (si SE 0 (gi SF 0)) 1 (gi SF 1)) 2 (gi SF 2)) 1) (0 : Int32) (0 : Int32) (gi SF 2))) 2) (0 : Int32) (0 : Int32) (gi SF 2))) 3) (0 : Int32) (0 : Int32) (gi SF 2))) 4) (0 : Int32) (0 : Int32) (gi SF 2))) 5) (0 : Int32) (0 : Int32) (gi SF 2)))
            else none
          else none
        else none
      else none
    else none
  else none
abbrev rmX1_copyFrom : Room := { frames := 8, cells := 0, slots := 0, locals := 400 }
theorem okX1_copyFrom : tc_ok yX1_copyFrom cX1_copyFrom 2 none 1 := ⟨wc_X1_copyFrom, wn_X1, by decide, by decide, by decide +kernel⟩
set_option maxRecDepth 20000 in
theorem mX1_copyFrom {qE : Nat → Nat} {qF : Nat → Nat}  {SE : ms_T} {SF : ms_T}  {z : ms_T}  (hf : fX1_copyFrom SE SF = some z) : tc_MV l dC dI ca yX1_copyFrom cX1_copyFrom 2 none rmX1_copyFrom [.ref (qE 0), .ref (qF 0)] (w1 ca qE SE ++ w1 ca qF SF) (w1 ca qE z ++ w1 ca qF SF) := by
  refine tc_metV (own := RX1) (by decide) rfl ?_ (Nat.le_of_ble_eq_true rfl)
  intro p e s m below meth c A X hP hD hS ls hl
  obtain ⟨hx, hb, hr, hml, hown, hts, hlk, hK, hA, hG⟩ := id X
  unfold fX1_copyFrom at hf
  have hl : lv_has ls 2 [(0, .ref (qE 0)), (1, .ref (qF 0))] := hl
  refine lv_aload_n hx hb dX1_copyFrom_0 rfl (lv_at hl 0 rfl) ?_
  refine lv_aload_n hx hb dX1_copyFrom_1 rfl (lv_at hl 1 rfl) ?_
  refine va_get (D := (dC, dI)) (ci := 1) (v := .int (gi SF 0)) (C := RX1) (T := TX1) (N := 8) hx hb hts i_X1 hown hK hP 6 rfl rfl 0 (by decide) (hts _ wf_X1_25) (fun _ h9 => h9) rfl dX1_copyFrom_2 ?_
  obtain ⟨hz1, hf⟩ := tc_ck hf
  refine va_put (D := (dC, dI)) (ci := 1) (v := .int (gi SF 0)) (ty := .boolean) (C := RX1) (T := TX1) (N := 8) hx hb hts i_X1 tyX1 tyX1_ok nmX1 hown hK hP hD hS 0 rfl rfl 0 (by decide) (hts _ wf_X1_25) (fun _ h9 => h9) rfl (tyX1_ok 0 (by decide)) (tc_nb hz1) (tc_fb hz1) (Nat.le_of_ble_eq_true rfl) dX1_copyFrom_5 (fun H locs hP hD hS => ?_)
  have hP := tc_eP (pwm7_0_0 ca qE qF SE SF (gi SF 0)) hP
  have hD := tc_eD (pwm7_0_0 ca qE qF SE SF (gi SF 0)) hD
  refine lv_aload_n hx hb dX1_copyFrom_8 rfl (lv_at hl 0 rfl) ?_
  refine lv_aload_n hx hb dX1_copyFrom_9 rfl (lv_at hl 1 rfl) ?_
  refine va_get (D := (dC, dI)) (ci := 1) (v := .int (gi SF 1)) (C := RX1) (T := TX1) (N := 8) hx hb hts i_X1 hown hK hP 6 rfl rfl 1 (by decide) (hts _ wf_X1_29) (fun _ h9 => h9) rfl dX1_copyFrom_10 ?_
  refine va_put (D := (dC, dI)) (ci := 1) (v := .int (gi SF 1)) (ty := .int) (C := RX1) (T := TX1) (N := 8) hx hb hts i_X1 tyX1 tyX1_ok nmX1 hown hK hP hD hS 0 rfl rfl 1 (by decide) (hts _ wf_X1_29) (fun _ h9 => h9) rfl (tyX1_ok 1 (by decide)) rfl rfl (Nat.le_of_ble_eq_true rfl) dX1_copyFrom_13 (fun H locs hP hD hS => ?_)
  have hP := tc_eP (pwm7_0_1 ca qE qF (si SE 0 (gi SF 0)) SF (gi SF 1)) hP
  have hD := tc_eD (pwm7_0_1 ca qE qF (si SE 0 (gi SF 0)) SF (gi SF 1)) hD
  refine lv_aload_n hx hb dX1_copyFrom_16 rfl (lv_at hl 0 rfl) ?_
  refine lv_aload_n hx hb dX1_copyFrom_17 rfl (lv_at hl 1 rfl) ?_
  refine va_get (D := (dC, dI)) (ci := 1) (v := .int (gi SF 2)) (C := RX1) (T := TX1) (N := 8) hx hb hts i_X1 hown hK hP 6 rfl rfl 2 (by decide) (hts _ wf_X1_33) (fun _ h9 => h9) rfl dX1_copyFrom_18 ?_
  refine va_put (D := (dC, dI)) (ci := 1) (v := .int (gi SF 2)) (ty := .int) (C := RX1) (T := TX1) (N := 8) hx hb hts i_X1 tyX1 tyX1_ok nmX1 hown hK hP hD hS 0 rfl rfl 2 (by decide) (hts _ wf_X1_33) (fun _ h9 => h9) rfl (tyX1_ok 2 (by decide)) rfl rfl (Nat.le_of_ble_eq_true rfl) dX1_copyFrom_21 (fun H locs hP hD hS => ?_)
  have hP := tc_eP (pwm7_0_2 ca qE qF (si (si SE 0 (gi SF 0)) 1 (gi SF 1)) SF (gi SF 2)) hP
  have hD := tc_eD (pwm7_0_2 ca qE qF (si (si SE 0 (gi SF 0)) 1 (gi SF 1)) SF (gi SF 2)) hD
  refine lv_aload_n hx hb dX1_copyFrom_24 rfl (lv_at hl 1 rfl) ?_
  refine va_get (D := (dC, dI)) (ci := 1) (v := .ref (qF 1)) (C := RX1) (T := TX1) (N := 8) hx hb hts i_X1 hown hK hP 6 rfl rfl 3 (by decide) (hts _ wf_X1_9) (fun _ h9 => h9) rfl dX1_copyFrom_25 ?_
  refine lv_iconst (v := (0 : Int32)) hx hb dX1_copyFrom_28 (by decide) ?_
  refine lv_aload_n hx hb dX1_copyFrom_29 rfl (lv_at hl 0 rfl) ?_
  refine va_get (D := (dC, dI)) (ci := 1) (v := .ref (qE 1)) (C := RX1) (T := TX1) (N := 8) hx hb hts i_X1 hown hK hP 0 rfl rfl 3 (by decide) (hts _ wf_X1_9) (fun _ h9 => h9) rfl dX1_copyFrom_30 ?_
  refine lv_iconst (v := (0 : Int32)) hx hb dX1_copyFrom_33 (by decide) ?_
  refine lv_aload_n hx hb dX1_copyFrom_34 rfl (lv_at hl 1 rfl) ?_
  refine va_get (D := (dC, dI)) (ci := 1) (v := .int (gi SF 2)) (C := RX1) (T := TX1) (N := 8) hx hb hts i_X1 hown hK hP 6 rfl rfl 2 (by decide) (hts _ wf_X1_33) (fun _ h9 => h9) rfl dX1_copyFrom_35 ?_
  obtain ⟨hc1, hf⟩ := tc_ck hf
  refine tc_cpi (rest := []) X hl.1 wl_X1_36 hP hD hS 7 1 1 1 rfl rfl rfl rfl hc1 (Nat.le_of_ble_eq_true rfl) (Nat.le_of_ble_eq_true rfl) dX1_copyFrom_38 (fun H locs hP hD hS => ?_)
  have hP := tc_eP (cwm7_0_1 ca qE qF (si (si (si SE 0 (gi SF 0)) 1 (gi SF 1)) 2 (gi SF 2)) SF (cpi (ra SF 1) (ra (si (si (si SE 0 (gi SF 0)) 1 (gi SF 1)) 2 (gi SF 2)) 1) (0 : Int32) (0 : Int32) (gi SF 2))) hP
  have hD := tc_eD (cwm7_0_1 ca qE qF (si (si (si SE 0 (gi SF 0)) 1 (gi SF 1)) 2 (gi SF 2)) SF (cpi (ra SF 1) (ra (si (si (si SE 0 (gi SF 0)) 1 (gi SF 1)) 2 (gi SF 2)) 1) (0 : Int32) (0 : Int32) (gi SF 2))) hD
  refine lv_aload_n hx hb dX1_copyFrom_41 rfl (lv_at hl 1 rfl) ?_
  refine va_get (D := (dC, dI)) (ci := 1) (v := .ref (qF 2)) (C := RX1) (T := TX1) (N := 8) hx hb hts i_X1 hown hK hP 6 rfl rfl 4 (by decide) (hts _ wf_X1_13) (fun _ h9 => h9) rfl dX1_copyFrom_42 ?_
  refine lv_iconst (v := (0 : Int32)) hx hb dX1_copyFrom_45 (by decide) ?_
  refine lv_aload_n hx hb dX1_copyFrom_46 rfl (lv_at hl 0 rfl) ?_
  refine va_get (D := (dC, dI)) (ci := 1) (v := .ref (qE 2)) (C := RX1) (T := TX1) (N := 8) hx hb hts i_X1 hown hK hP 0 rfl rfl 4 (by decide) (hts _ wf_X1_13) (fun _ h9 => h9) rfl dX1_copyFrom_47 ?_
  refine lv_iconst (v := (0 : Int32)) hx hb dX1_copyFrom_50 (by decide) ?_
  refine lv_aload_n hx hb dX1_copyFrom_51 rfl (lv_at hl 1 rfl) ?_
  refine va_get (D := (dC, dI)) (ci := 1) (v := .int (gi SF 2)) (C := RX1) (T := TX1) (N := 8) hx hb hts i_X1 hown hK hP 6 rfl rfl 2 (by decide) (hts _ wf_X1_33) (fun _ h9 => h9) rfl dX1_copyFrom_52 ?_
  obtain ⟨hc2, hf⟩ := tc_ck hf
  refine tc_cpi (rest := []) X hl.1 wl_X1_36 hP hD hS 8 2 1 1 rfl rfl rfl rfl hc2 (Nat.le_of_ble_eq_true rfl) (Nat.le_of_ble_eq_true rfl) dX1_copyFrom_55 (fun H locs hP hD hS => ?_)
  have hP := tc_eP (cwm7_0_2 ca qE qF (sr (si (si (si SE 0 (gi SF 0)) 1 (gi SF 1)) 2 (gi SF 2)) 1 (cpi (ra SF 1) (ra (si (si (si SE 0 (gi SF 0)) 1 (gi SF 1)) 2 (gi SF 2)) 1) (0 : Int32) (0 : Int32) (gi SF 2))) SF (cpi (ra SF 2) (ra (sr (si (si (si SE 0 (gi SF 0)) 1 (gi SF 1)) 2 (gi SF 2)) 1 (cpi (ra SF 1) (ra (si (si (si SE 0 (gi SF 0)) 1 (gi SF 1)) 2 (gi SF 2)) 1) (0 : Int32) (0 : Int32) (gi SF 2))) 2) (0 : Int32) (0 : Int32) (gi SF 2))) hP
  have hD := tc_eD (cwm7_0_2 ca qE qF (sr (si (si (si SE 0 (gi SF 0)) 1 (gi SF 1)) 2 (gi SF 2)) 1 (cpi (ra SF 1) (ra (si (si (si SE 0 (gi SF 0)) 1 (gi SF 1)) 2 (gi SF 2)) 1) (0 : Int32) (0 : Int32) (gi SF 2))) SF (cpi (ra SF 2) (ra (sr (si (si (si SE 0 (gi SF 0)) 1 (gi SF 1)) 2 (gi SF 2)) 1 (cpi (ra SF 1) (ra (si (si (si SE 0 (gi SF 0)) 1 (gi SF 1)) 2 (gi SF 2)) 1) (0 : Int32) (0 : Int32) (gi SF 2))) 2) (0 : Int32) (0 : Int32) (gi SF 2))) hD
  refine lv_aload_n hx hb dX1_copyFrom_58 rfl (lv_at hl 1 rfl) ?_
  refine va_get (D := (dC, dI)) (ci := 1) (v := .ref (qF 3)) (C := RX1) (T := TX1) (N := 8) hx hb hts i_X1 hown hK hP 6 rfl rfl 5 (by decide) (hts _ wf_X1_16) (fun _ h9 => h9) rfl dX1_copyFrom_59 ?_
  refine lv_iconst (v := (0 : Int32)) hx hb dX1_copyFrom_62 (by decide) ?_
  refine lv_aload_n hx hb dX1_copyFrom_63 rfl (lv_at hl 0 rfl) ?_
  refine va_get (D := (dC, dI)) (ci := 1) (v := .ref (qE 3)) (C := RX1) (T := TX1) (N := 8) hx hb hts i_X1 hown hK hP 0 rfl rfl 5 (by decide) (hts _ wf_X1_16) (fun _ h9 => h9) rfl dX1_copyFrom_64 ?_
  refine lv_iconst (v := (0 : Int32)) hx hb dX1_copyFrom_67 (by decide) ?_
  refine lv_aload_n hx hb dX1_copyFrom_68 rfl (lv_at hl 1 rfl) ?_
  refine va_get (D := (dC, dI)) (ci := 1) (v := .int (gi SF 2)) (C := RX1) (T := TX1) (N := 8) hx hb hts i_X1 hown hK hP 6 rfl rfl 2 (by decide) (hts _ wf_X1_33) (fun _ h9 => h9) rfl dX1_copyFrom_69 ?_
  obtain ⟨hc3, hf⟩ := tc_ck hf
  refine tc_cpi (rest := []) X hl.1 wl_X1_36 hP hD hS 9 3 1 1 rfl rfl rfl rfl hc3 (Nat.le_of_ble_eq_true rfl) (Nat.le_of_ble_eq_true rfl) dX1_copyFrom_72 (fun H locs hP hD hS => ?_)
  have hP := tc_eP (cwm7_0_3 ca qE qF (sr (sr (si (si (si SE 0 (gi SF 0)) 1 (gi SF 1)) 2 (gi SF 2)) 1 (cpi (ra SF 1) (ra (si (si (si SE 0 (gi SF 0)) 1 (gi SF 1)) 2 (gi SF 2)) 1) (0 : Int32) (0 : Int32) (gi SF 2))) 2 (cpi (ra SF 2) (ra (sr (si (si (si SE 0 (gi SF 0)) 1 (gi SF 1)) 2 (gi SF 2)) 1 (cpi (ra SF 1) (ra (si (si (si SE 0 (gi SF 0)) 1 (gi SF 1)) 2 (gi SF 2)) 1) (0 : Int32) (0 : Int32) (gi SF 2))) 2) (0 : Int32) (0 : Int32) (gi SF 2))) SF (cpi (ra SF 3) (ra (sr (sr (si (si (si SE 0 (gi SF 0)) 1 (gi SF 1)) 2 (gi SF 2)) 1 (cpi (ra SF 1) (ra (si (si (si SE 0 (gi SF 0)) 1 (gi SF 1)) 2 (gi SF 2)) 1) (0 : Int32) (0 : Int32) (gi SF 2))) 2 (cpi (ra SF 2) (ra (sr (si (si (si SE 0 (gi SF 0)) 1 (gi SF 1)) 2 (gi SF 2)) 1 (cpi (ra SF 1) (ra (si (si (si SE 0 (gi SF 0)) 1 (gi SF 1)) 2 (gi SF 2)) 1) (0 : Int32) (0 : Int32) (gi SF 2))) 2) (0 : Int32) (0 : Int32) (gi SF 2))) 3) (0 : Int32) (0 : Int32) (gi SF 2))) hP
  have hD := tc_eD (cwm7_0_3 ca qE qF (sr (sr (si (si (si SE 0 (gi SF 0)) 1 (gi SF 1)) 2 (gi SF 2)) 1 (cpi (ra SF 1) (ra (si (si (si SE 0 (gi SF 0)) 1 (gi SF 1)) 2 (gi SF 2)) 1) (0 : Int32) (0 : Int32) (gi SF 2))) 2 (cpi (ra SF 2) (ra (sr (si (si (si SE 0 (gi SF 0)) 1 (gi SF 1)) 2 (gi SF 2)) 1 (cpi (ra SF 1) (ra (si (si (si SE 0 (gi SF 0)) 1 (gi SF 1)) 2 (gi SF 2)) 1) (0 : Int32) (0 : Int32) (gi SF 2))) 2) (0 : Int32) (0 : Int32) (gi SF 2))) SF (cpi (ra SF 3) (ra (sr (sr (si (si (si SE 0 (gi SF 0)) 1 (gi SF 1)) 2 (gi SF 2)) 1 (cpi (ra SF 1) (ra (si (si (si SE 0 (gi SF 0)) 1 (gi SF 1)) 2 (gi SF 2)) 1) (0 : Int32) (0 : Int32) (gi SF 2))) 2 (cpi (ra SF 2) (ra (sr (si (si (si SE 0 (gi SF 0)) 1 (gi SF 1)) 2 (gi SF 2)) 1 (cpi (ra SF 1) (ra (si (si (si SE 0 (gi SF 0)) 1 (gi SF 1)) 2 (gi SF 2)) 1) (0 : Int32) (0 : Int32) (gi SF 2))) 2) (0 : Int32) (0 : Int32) (gi SF 2))) 3) (0 : Int32) (0 : Int32) (gi SF 2))) hD
  refine lv_aload_n hx hb dX1_copyFrom_75 rfl (lv_at hl 1 rfl) ?_
  refine va_get (D := (dC, dI)) (ci := 1) (v := .ref (qF 4)) (C := RX1) (T := TX1) (N := 8) hx hb hts i_X1 hown hK hP 6 rfl rfl 6 (by decide) (hts _ wf_X1_19) (fun _ h9 => h9) rfl dX1_copyFrom_76 ?_
  refine lv_iconst (v := (0 : Int32)) hx hb dX1_copyFrom_79 (by decide) ?_
  refine lv_aload_n hx hb dX1_copyFrom_80 rfl (lv_at hl 0 rfl) ?_
  refine va_get (D := (dC, dI)) (ci := 1) (v := .ref (qE 4)) (C := RX1) (T := TX1) (N := 8) hx hb hts i_X1 hown hK hP 0 rfl rfl 6 (by decide) (hts _ wf_X1_19) (fun _ h9 => h9) rfl dX1_copyFrom_81 ?_
  refine lv_iconst (v := (0 : Int32)) hx hb dX1_copyFrom_84 (by decide) ?_
  refine lv_aload_n hx hb dX1_copyFrom_85 rfl (lv_at hl 1 rfl) ?_
  refine va_get (D := (dC, dI)) (ci := 1) (v := .int (gi SF 2)) (C := RX1) (T := TX1) (N := 8) hx hb hts i_X1 hown hK hP 6 rfl rfl 2 (by decide) (hts _ wf_X1_33) (fun _ h9 => h9) rfl dX1_copyFrom_86 ?_
  obtain ⟨hc4, hf⟩ := tc_ck hf
  refine tc_cpi (rest := []) X hl.1 wl_X1_36 hP hD hS 10 4 1 1 rfl rfl rfl rfl hc4 (Nat.le_of_ble_eq_true rfl) (Nat.le_of_ble_eq_true rfl) dX1_copyFrom_89 (fun H locs hP hD hS => ?_)
  have hP := tc_eP (cwm7_0_4 ca qE qF (sr (sr (sr (si (si (si SE 0 (gi SF 0)) 1 (gi SF 1)) 2 (gi SF 2)) 1 (cpi (ra SF 1) (ra (si (si (si SE 0 (gi SF 0)) 1 (gi SF 1)) 2 (gi SF 2)) 1) (0 : Int32) (0 : Int32) (gi SF 2))) 2 (cpi (ra SF 2) (ra (sr (si (si (si SE 0 (gi SF 0)) 1 (gi SF 1)) 2 (gi SF 2)) 1 (cpi (ra SF 1) (ra (si (si (si SE 0 (gi SF 0)) 1 (gi SF 1)) 2 (gi SF 2)) 1) (0 : Int32) (0 : Int32) (gi SF 2))) 2) (0 : Int32) (0 : Int32) (gi SF 2))) 3 (cpi (ra SF 3) (ra (sr (sr (si (si (si SE 0 (gi SF 0)) 1 (gi SF 1)) 2 (gi SF 2)) 1 (cpi (ra SF 1) (ra (si (si (si SE 0 (gi SF 0)) 1 (gi SF 1)) 2 (gi SF 2)) 1) (0 : Int32) (0 : Int32) (gi SF 2))) 2 (cpi (ra SF 2) (ra (sr (si (si (si SE 0 (gi SF 0)) 1 (gi SF 1)) 2 (gi SF 2)) 1 (cpi (ra SF 1) (ra (si (si (si SE 0 (gi SF 0)) 1 (gi SF 1)) 2 (gi SF 2)) 1) (0 : Int32) (0 : Int32) (gi SF 2))) 2) (0 : Int32) (0 : Int32) (gi SF 2))) 3) (0 : Int32) (0 : Int32) (gi SF 2))) SF (cpi (ra SF 4) (ra (sr (sr (sr (si (si (si SE 0 (gi SF 0)) 1 (gi SF 1)) 2 (gi SF 2)) 1 (cpi (ra SF 1) (ra (si (si (si SE 0 (gi SF 0)) 1 (gi SF 1)) 2 (gi SF 2)) 1) (0 : Int32) (0 : Int32) (gi SF 2))) 2 (cpi (ra SF 2) (ra (sr (si (si (si SE 0 (gi SF 0)) 1 (gi SF 1)) 2 (gi SF 2)) 1 (cpi (ra SF 1) (ra (si (si (si SE 0 (gi SF 0)) 1 (gi SF 1)) 2 (gi SF 2)) 1) (0 : Int32) (0 : Int32) (gi SF 2))) 2) (0 : Int32) (0 : Int32) (gi SF 2))) 3 (cpi (ra SF 3) (ra (sr (sr (si (si (si SE 0 (gi SF 0)) 1 (gi SF 1)) 2 (gi SF 2)) 1 (cpi (ra SF 1) (ra (si (si (si SE 0 (gi SF 0)) 1 (gi SF 1)) 2 (gi SF 2)) 1) (0 : Int32) (0 : Int32) (gi SF 2))) 2 (cpi (ra SF 2) (ra (sr (si (si (si SE 0 (gi SF 0)) 1 (gi SF 1)) 2 (gi SF 2)) 1 (cpi (ra SF 1) (ra (si (si (si SE 0 (gi SF 0)) 1 (gi SF 1)) 2 (gi SF 2)) 1) (0 : Int32) (0 : Int32) (gi SF 2))) 2) (0 : Int32) (0 : Int32) (gi SF 2))) 3) (0 : Int32) (0 : Int32) (gi SF 2))) 4) (0 : Int32) (0 : Int32) (gi SF 2))) hP
  have hD := tc_eD (cwm7_0_4 ca qE qF (sr (sr (sr (si (si (si SE 0 (gi SF 0)) 1 (gi SF 1)) 2 (gi SF 2)) 1 (cpi (ra SF 1) (ra (si (si (si SE 0 (gi SF 0)) 1 (gi SF 1)) 2 (gi SF 2)) 1) (0 : Int32) (0 : Int32) (gi SF 2))) 2 (cpi (ra SF 2) (ra (sr (si (si (si SE 0 (gi SF 0)) 1 (gi SF 1)) 2 (gi SF 2)) 1 (cpi (ra SF 1) (ra (si (si (si SE 0 (gi SF 0)) 1 (gi SF 1)) 2 (gi SF 2)) 1) (0 : Int32) (0 : Int32) (gi SF 2))) 2) (0 : Int32) (0 : Int32) (gi SF 2))) 3 (cpi (ra SF 3) (ra (sr (sr (si (si (si SE 0 (gi SF 0)) 1 (gi SF 1)) 2 (gi SF 2)) 1 (cpi (ra SF 1) (ra (si (si (si SE 0 (gi SF 0)) 1 (gi SF 1)) 2 (gi SF 2)) 1) (0 : Int32) (0 : Int32) (gi SF 2))) 2 (cpi (ra SF 2) (ra (sr (si (si (si SE 0 (gi SF 0)) 1 (gi SF 1)) 2 (gi SF 2)) 1 (cpi (ra SF 1) (ra (si (si (si SE 0 (gi SF 0)) 1 (gi SF 1)) 2 (gi SF 2)) 1) (0 : Int32) (0 : Int32) (gi SF 2))) 2) (0 : Int32) (0 : Int32) (gi SF 2))) 3) (0 : Int32) (0 : Int32) (gi SF 2))) SF (cpi (ra SF 4) (ra (sr (sr (sr (si (si (si SE 0 (gi SF 0)) 1 (gi SF 1)) 2 (gi SF 2)) 1 (cpi (ra SF 1) (ra (si (si (si SE 0 (gi SF 0)) 1 (gi SF 1)) 2 (gi SF 2)) 1) (0 : Int32) (0 : Int32) (gi SF 2))) 2 (cpi (ra SF 2) (ra (sr (si (si (si SE 0 (gi SF 0)) 1 (gi SF 1)) 2 (gi SF 2)) 1 (cpi (ra SF 1) (ra (si (si (si SE 0 (gi SF 0)) 1 (gi SF 1)) 2 (gi SF 2)) 1) (0 : Int32) (0 : Int32) (gi SF 2))) 2) (0 : Int32) (0 : Int32) (gi SF 2))) 3 (cpi (ra SF 3) (ra (sr (sr (si (si (si SE 0 (gi SF 0)) 1 (gi SF 1)) 2 (gi SF 2)) 1 (cpi (ra SF 1) (ra (si (si (si SE 0 (gi SF 0)) 1 (gi SF 1)) 2 (gi SF 2)) 1) (0 : Int32) (0 : Int32) (gi SF 2))) 2 (cpi (ra SF 2) (ra (sr (si (si (si SE 0 (gi SF 0)) 1 (gi SF 1)) 2 (gi SF 2)) 1 (cpi (ra SF 1) (ra (si (si (si SE 0 (gi SF 0)) 1 (gi SF 1)) 2 (gi SF 2)) 1) (0 : Int32) (0 : Int32) (gi SF 2))) 2) (0 : Int32) (0 : Int32) (gi SF 2))) 3) (0 : Int32) (0 : Int32) (gi SF 2))) 4) (0 : Int32) (0 : Int32) (gi SF 2))) hD
  refine lv_aload_n hx hb dX1_copyFrom_92 rfl (lv_at hl 1 rfl) ?_
  refine va_get (D := (dC, dI)) (ci := 1) (v := .ref (qF 5)) (C := RX1) (T := TX1) (N := 8) hx hb hts i_X1 hown hK hP 6 rfl rfl 7 (by decide) (hts _ wf_X1_22) (fun _ h9 => h9) rfl dX1_copyFrom_93 ?_
  refine lv_iconst (v := (0 : Int32)) hx hb dX1_copyFrom_96 (by decide) ?_
  refine lv_aload_n hx hb dX1_copyFrom_97 rfl (lv_at hl 0 rfl) ?_
  refine va_get (D := (dC, dI)) (ci := 1) (v := .ref (qE 5)) (C := RX1) (T := TX1) (N := 8) hx hb hts i_X1 hown hK hP 0 rfl rfl 7 (by decide) (hts _ wf_X1_22) (fun _ h9 => h9) rfl dX1_copyFrom_98 ?_
  refine lv_iconst (v := (0 : Int32)) hx hb dX1_copyFrom_101 (by decide) ?_
  refine lv_aload_n hx hb dX1_copyFrom_102 rfl (lv_at hl 1 rfl) ?_
  refine va_get (D := (dC, dI)) (ci := 1) (v := .int (gi SF 2)) (C := RX1) (T := TX1) (N := 8) hx hb hts i_X1 hown hK hP 6 rfl rfl 2 (by decide) (hts _ wf_X1_33) (fun _ h9 => h9) rfl dX1_copyFrom_103 ?_
  obtain ⟨hc5, hf⟩ := tc_ck hf
  refine tc_cpi (rest := []) X hl.1 wl_X1_36 hP hD hS 11 5 1 1 rfl rfl rfl rfl hc5 (Nat.le_of_ble_eq_true rfl) (Nat.le_of_ble_eq_true rfl) dX1_copyFrom_106 (fun H locs hP hD hS => ?_)
  have hP := tc_eP (cwm7_0_5 ca qE qF (sr (sr (sr (sr (si (si (si SE 0 (gi SF 0)) 1 (gi SF 1)) 2 (gi SF 2)) 1 (cpi (ra SF 1) (ra (si (si (si SE 0 (gi SF 0)) 1 (gi SF 1)) 2 (gi SF 2)) 1) (0 : Int32) (0 : Int32) (gi SF 2))) 2 (cpi (ra SF 2) (ra (sr (si (si (si SE 0 (gi SF 0)) 1 (gi SF 1)) 2 (gi SF 2)) 1 (cpi (ra SF 1) (ra (si (si (si SE 0 (gi SF 0)) 1 (gi SF 1)) 2 (gi SF 2)) 1) (0 : Int32) (0 : Int32) (gi SF 2))) 2) (0 : Int32) (0 : Int32) (gi SF 2))) 3 (cpi (ra SF 3) (ra (sr (sr (si (si (si SE 0 (gi SF 0)) 1 (gi SF 1)) 2 (gi SF 2)) 1 (cpi (ra SF 1) (ra (si (si (si SE 0 (gi SF 0)) 1 (gi SF 1)) 2 (gi SF 2)) 1) (0 : Int32) (0 : Int32) (gi SF 2))) 2 (cpi (ra SF 2) (ra (sr (si (si (si SE 0 (gi SF 0)) 1 (gi SF 1)) 2 (gi SF 2)) 1 (cpi (ra SF 1) (ra (si (si (si SE 0 (gi SF 0)) 1 (gi SF 1)) 2 (gi SF 2)) 1) (0 : Int32) (0 : Int32) (gi SF 2))) 2) (0 : Int32) (0 : Int32) (gi SF 2))) 3) (0 : Int32) (0 : Int32) (gi SF 2))) 4 (cpi (ra SF 4) (ra (sr (sr (sr (si (si (si SE 0 (gi SF 0)) 1 (gi SF 1)) 2 (gi SF 2)) 1 (cpi (ra SF 1) (ra (si (si (si SE 0 (gi SF 0)) 1 (gi SF 1)) 2 (gi SF 2)) 1) (0 : Int32) (0 : Int32) (gi SF 2))) 2 (cpi (ra SF 2) (ra (sr (si (si (si SE 0 (gi SF 0)) 1 (gi SF 1)) 2 (gi SF 2)) 1 (cpi (ra SF 1) (ra (si (si (si SE 0 (gi SF 0)) 1 (gi SF 1)) 2 (gi SF 2)) 1) (0 : Int32) (0 : Int32) (gi SF 2))) 2) (0 : Int32) (0 : Int32) (gi SF 2))) 3 (cpi (ra SF 3) (ra (sr (sr (si (si (si SE 0 (gi SF 0)) 1 (gi SF 1)) 2 (gi SF 2)) 1 (cpi (ra SF 1) (ra (si (si (si SE 0 (gi SF 0)) 1 (gi SF 1)) 2 (gi SF 2)) 1) (0 : Int32) (0 : Int32) (gi SF 2))) 2 (cpi (ra SF 2) (ra (sr (si (si (si SE 0 (gi SF 0)) 1 (gi SF 1)) 2 (gi SF 2)) 1 (cpi (ra SF 1) (ra (si (si (si SE 0 (gi SF 0)) 1 (gi SF 1)) 2 (gi SF 2)) 1) (0 : Int32) (0 : Int32) (gi SF 2))) 2) (0 : Int32) (0 : Int32) (gi SF 2))) 3) (0 : Int32) (0 : Int32) (gi SF 2))) 4) (0 : Int32) (0 : Int32) (gi SF 2))) SF (cpi (ra SF 5) (ra (sr (sr (sr (sr (si (si (si SE 0 (gi SF 0)) 1 (gi SF 1)) 2 (gi SF 2)) 1 (cpi (ra SF 1) (ra (si (si (si SE 0 (gi SF 0)) 1 (gi SF 1)) 2 (gi SF 2)) 1) (0 : Int32) (0 : Int32) (gi SF 2))) 2 (cpi (ra SF 2) (ra (sr (si (si (si SE 0 (gi SF 0)) 1 (gi SF 1)) 2 (gi SF 2)) 1 (cpi (ra SF 1) (ra (si (si (si SE 0 (gi SF 0)) 1 (gi SF 1)) 2 (gi SF 2)) 1) (0 : Int32) (0 : Int32) (gi SF 2))) 2) (0 : Int32) (0 : Int32) (gi SF 2))) 3 (cpi (ra SF 3) (ra (sr (sr (si (si (si SE 0 (gi SF 0)) 1 (gi SF 1)) 2 (gi SF 2)) 1 (cpi (ra SF 1) (ra (si (si (si SE 0 (gi SF 0)) 1 (gi SF 1)) 2 (gi SF 2)) 1) (0 : Int32) (0 : Int32) (gi SF 2))) 2 (cpi (ra SF 2) (ra (sr (si (si (si SE 0 (gi SF 0)) 1 (gi SF 1)) 2 (gi SF 2)) 1 (cpi (ra SF 1) (ra (si (si (si SE 0 (gi SF 0)) 1 (gi SF 1)) 2 (gi SF 2)) 1) (0 : Int32) (0 : Int32) (gi SF 2))) 2) (0 : Int32) (0 : Int32) (gi SF 2))) 3) (0 : Int32) (0 : Int32) (gi SF 2))) 4 (cpi (ra SF 4) (ra (sr (sr (sr (si (si (si SE 0 (gi SF 0)) 1 (gi SF 1)) 2 (gi SF 2)) 1 (cpi (ra SF 1) (ra (si (si (si SE 0 (gi SF 0)) 1 (gi SF 1)) 2 (gi SF 2)) 1) (0 : Int32) (0 : Int32) (gi SF 2))) 2 (cpi (ra SF 2) (ra (sr (si (si (si SE 0 (gi SF 0)) 1 (gi SF 1)) 2 (gi SF 2)) 1 (cpi (ra SF 1) (ra (si (si (si SE 0 (gi SF 0)) 1 (gi SF 1)) 2 (gi SF 2)) 1) (0 : Int32) (0 : Int32) (gi SF 2))) 2) (0 : Int32) (0 : Int32) (gi SF 2))) 3 (cpi (ra SF 3) (ra (sr (sr (si (si (si SE 0 (gi SF 0)) 1 (gi SF 1)) 2 (gi SF 2)) 1 (cpi (ra SF 1) (ra (si (si (si SE 0 (gi SF 0)) 1 (gi SF 1)) 2 (gi SF 2)) 1) (0 : Int32) (0 : Int32) (gi SF 2))) 2 (cpi (ra SF 2) (ra (sr (si (si (si SE 0 (gi SF 0)) 1 (gi SF 1)) 2 (gi SF 2)) 1 (cpi (ra SF 1) (ra (si (si (si SE 0 (gi SF 0)) 1 (gi SF 1)) 2 (gi SF 2)) 1) (0 : Int32) (0 : Int32) (gi SF 2))) 2) (0 : Int32) (0 : Int32) (gi SF 2))) 3) (0 : Int32) (0 : Int32) (gi SF 2))) 4) (0 : Int32) (0 : Int32) (gi SF 2))) 5) (0 : Int32) (0 : Int32) (gi SF 2))) hP
  have hD := tc_eD (cwm7_0_5 ca qE qF (sr (sr (sr (sr (si (si (si SE 0 (gi SF 0)) 1 (gi SF 1)) 2 (gi SF 2)) 1 (cpi (ra SF 1) (ra (si (si (si SE 0 (gi SF 0)) 1 (gi SF 1)) 2 (gi SF 2)) 1) (0 : Int32) (0 : Int32) (gi SF 2))) 2 (cpi (ra SF 2) (ra (sr (si (si (si SE 0 (gi SF 0)) 1 (gi SF 1)) 2 (gi SF 2)) 1 (cpi (ra SF 1) (ra (si (si (si SE 0 (gi SF 0)) 1 (gi SF 1)) 2 (gi SF 2)) 1) (0 : Int32) (0 : Int32) (gi SF 2))) 2) (0 : Int32) (0 : Int32) (gi SF 2))) 3 (cpi (ra SF 3) (ra (sr (sr (si (si (si SE 0 (gi SF 0)) 1 (gi SF 1)) 2 (gi SF 2)) 1 (cpi (ra SF 1) (ra (si (si (si SE 0 (gi SF 0)) 1 (gi SF 1)) 2 (gi SF 2)) 1) (0 : Int32) (0 : Int32) (gi SF 2))) 2 (cpi (ra SF 2) (ra (sr (si (si (si SE 0 (gi SF 0)) 1 (gi SF 1)) 2 (gi SF 2)) 1 (cpi (ra SF 1) (ra (si (si (si SE 0 (gi SF 0)) 1 (gi SF 1)) 2 (gi SF 2)) 1) (0 : Int32) (0 : Int32) (gi SF 2))) 2) (0 : Int32) (0 : Int32) (gi SF 2))) 3) (0 : Int32) (0 : Int32) (gi SF 2))) 4 (cpi (ra SF 4) (ra (sr (sr (sr (si (si (si SE 0 (gi SF 0)) 1 (gi SF 1)) 2 (gi SF 2)) 1 (cpi (ra SF 1) (ra (si (si (si SE 0 (gi SF 0)) 1 (gi SF 1)) 2 (gi SF 2)) 1) (0 : Int32) (0 : Int32) (gi SF 2))) 2 (cpi (ra SF 2) (ra (sr (si (si (si SE 0 (gi SF 0)) 1 (gi SF 1)) 2 (gi SF 2)) 1 (cpi (ra SF 1) (ra (si (si (si SE 0 (gi SF 0)) 1 (gi SF 1)) 2 (gi SF 2)) 1) (0 : Int32) (0 : Int32) (gi SF 2))) 2) (0 : Int32) (0 : Int32) (gi SF 2))) 3 (cpi (ra SF 3) (ra (sr (sr (si (si (si SE 0 (gi SF 0)) 1 (gi SF 1)) 2 (gi SF 2)) 1 (cpi (ra SF 1) (ra (si (si (si SE 0 (gi SF 0)) 1 (gi SF 1)) 2 (gi SF 2)) 1) (0 : Int32) (0 : Int32) (gi SF 2))) 2 (cpi (ra SF 2) (ra (sr (si (si (si SE 0 (gi SF 0)) 1 (gi SF 1)) 2 (gi SF 2)) 1 (cpi (ra SF 1) (ra (si (si (si SE 0 (gi SF 0)) 1 (gi SF 1)) 2 (gi SF 2)) 1) (0 : Int32) (0 : Int32) (gi SF 2))) 2) (0 : Int32) (0 : Int32) (gi SF 2))) 3) (0 : Int32) (0 : Int32) (gi SF 2))) 4) (0 : Int32) (0 : Int32) (gi SF 2))) SF (cpi (ra SF 5) (ra (sr (sr (sr (sr (si (si (si SE 0 (gi SF 0)) 1 (gi SF 1)) 2 (gi SF 2)) 1 (cpi (ra SF 1) (ra (si (si (si SE 0 (gi SF 0)) 1 (gi SF 1)) 2 (gi SF 2)) 1) (0 : Int32) (0 : Int32) (gi SF 2))) 2 (cpi (ra SF 2) (ra (sr (si (si (si SE 0 (gi SF 0)) 1 (gi SF 1)) 2 (gi SF 2)) 1 (cpi (ra SF 1) (ra (si (si (si SE 0 (gi SF 0)) 1 (gi SF 1)) 2 (gi SF 2)) 1) (0 : Int32) (0 : Int32) (gi SF 2))) 2) (0 : Int32) (0 : Int32) (gi SF 2))) 3 (cpi (ra SF 3) (ra (sr (sr (si (si (si SE 0 (gi SF 0)) 1 (gi SF 1)) 2 (gi SF 2)) 1 (cpi (ra SF 1) (ra (si (si (si SE 0 (gi SF 0)) 1 (gi SF 1)) 2 (gi SF 2)) 1) (0 : Int32) (0 : Int32) (gi SF 2))) 2 (cpi (ra SF 2) (ra (sr (si (si (si SE 0 (gi SF 0)) 1 (gi SF 1)) 2 (gi SF 2)) 1 (cpi (ra SF 1) (ra (si (si (si SE 0 (gi SF 0)) 1 (gi SF 1)) 2 (gi SF 2)) 1) (0 : Int32) (0 : Int32) (gi SF 2))) 2) (0 : Int32) (0 : Int32) (gi SF 2))) 3) (0 : Int32) (0 : Int32) (gi SF 2))) 4 (cpi (ra SF 4) (ra (sr (sr (sr (si (si (si SE 0 (gi SF 0)) 1 (gi SF 1)) 2 (gi SF 2)) 1 (cpi (ra SF 1) (ra (si (si (si SE 0 (gi SF 0)) 1 (gi SF 1)) 2 (gi SF 2)) 1) (0 : Int32) (0 : Int32) (gi SF 2))) 2 (cpi (ra SF 2) (ra (sr (si (si (si SE 0 (gi SF 0)) 1 (gi SF 1)) 2 (gi SF 2)) 1 (cpi (ra SF 1) (ra (si (si (si SE 0 (gi SF 0)) 1 (gi SF 1)) 2 (gi SF 2)) 1) (0 : Int32) (0 : Int32) (gi SF 2))) 2) (0 : Int32) (0 : Int32) (gi SF 2))) 3 (cpi (ra SF 3) (ra (sr (sr (si (si (si SE 0 (gi SF 0)) 1 (gi SF 1)) 2 (gi SF 2)) 1 (cpi (ra SF 1) (ra (si (si (si SE 0 (gi SF 0)) 1 (gi SF 1)) 2 (gi SF 2)) 1) (0 : Int32) (0 : Int32) (gi SF 2))) 2 (cpi (ra SF 2) (ra (sr (si (si (si SE 0 (gi SF 0)) 1 (gi SF 1)) 2 (gi SF 2)) 1 (cpi (ra SF 1) (ra (si (si (si SE 0 (gi SF 0)) 1 (gi SF 1)) 2 (gi SF 2)) 1) (0 : Int32) (0 : Int32) (gi SF 2))) 2) (0 : Int32) (0 : Int32) (gi SF 2))) 3) (0 : Int32) (0 : Int32) (gi SF 2))) 4) (0 : Int32) (0 : Int32) (gi SF 2))) 5) (0 : Int32) (0 : Int32) (gi SF 2))) hD
  obtain rfl := Option.some.inj hf
  exact tc_rv X hP hD hS rfl dX1_copyFrom_109 rfl
def fX4_wordNumberT_12  (SR : ms_T) (SB : ms_T)  : Nat → Int32 → Int32 → Int32 → Int32 → Option (Int32)
  | 0, _, _, _, _ => none
  | n + 1, v1, v2, v3, v4 =>
    if (136 : Int32) ≤ v4 then
      some ((-1 : Int32))
    else
      if inb v4 136 = true then
        if (wch v4) = (32 : Int32) then
          if v3 = 0 then
            fX4_wordNumberT_12 SR SB n (v1 + (1 : Int32)) (gi SR 3) (1 : Int32) (v4 + (1 : Int32))
          else
            if v2 = (gi SR 2) then
              some (v1)
            else
              fX4_wordNumberT_12 SR SB n (v1 + (1 : Int32)) (gi SR 3) (1 : Int32) (v4 + (1 : Int32))
        else
          if v3 = 0 then
            fX4_wordNumberT_12 SR SB n v1 (v2 + (1 : Int32)) (0 : Int32) (v4 + (1 : Int32))
          else
            if (gi SR 2) ≤ v2 then
              fX4_wordNumberT_12 SR SB n v1 (v2 + (1 : Int32)) (0 : Int32) (v4 + (1 : Int32))
            else
              if inb v2 900 = true then
                if (ia SB 0 v2) = (wch v4) then
                  fX4_wordNumberT_12 SR SB n v1 (v2 + (1 : Int32)) (1 : Int32) (v4 + (1 : Int32))
                else
                  fX4_wordNumberT_12 SR SB n v1 (v2 + (1 : Int32)) (0 : Int32) (v4 + (1 : Int32))
              else none
      else none
def fX4_wordNumberT  (SR : ms_T) (SB : ms_T)  : Option (Int32) :=
  fX4_wordNumberT_12 SR SB FU (0 : Int32) (gi SR 3) (1 : Int32) (0 : Int32)
abbrev rmX4_wordNumberT : Room := { frames := 8, cells := 0, slots := 0, locals := 400 }
theorem okX4_wordNumber : tc_ok yX4_wordNumber cX4_wordNumber 6 (some .int) 0 := ⟨wc_X4_wordNumber, wn_X4, by decide, by decide, by decide +kernel⟩
set_option maxRecDepth 20000 in
theorem tX4_wordNumberT_12 {qR : Nat → Nat} {qB : Nat → Nat} {rR11 : Value} (X : tc_X dC dI ca A RX4 cX4_wordNumber 6 (some .int) p s m args meth c) (z : Int32)  (SR : ms_T) (SB : ms_T)   : ∀ n : Nat, ∀ (v1 : Int32) (v2 : Int32) (v3 : Int32) (v4 : Int32), fX4_wordNumberT_12 SR SB n v1 v2 v3 v4 = some z → ∀ (H : Heap) (locs : List Loc) (ls : Array Slot), va_P (dC, dI) classes (w8 ca qR (.ref (qB 0)) (rR11) SR ++ wLB ca qB SB) H → va_D A (w8 ca qR (.ref (qB 0)) (rR11) SR ++ wLB ca qB SB) → va_S A s.heap H locs → lv_has ls 6 [(0, .ref (qR 0)), (1, .int (v1)), (2, .int (v2)), (3, .int (v3)), (4, .int (v4))] → W p l e rmX4_wordNumberT s m args below meth c H locs 0 0 (MQ below (tc_QI dC dI ca A (w8 ca qR (.ref (qB 0)) (rR11) SR ++ wLB ca qB SB) (z)) args s 0 0 A) (F0 m 12 ls []) := by
  obtain ⟨hx, hb, hr, hml, hown, hts, hlk, hK, hA, hG⟩ := id X
  obtain ⟨aS, aV, hG1, hG2, hG3, hG4⟩ := id hG
  intro n
  induction n with
  | zero => intro v1 v2 v3 v4 hf; exact absurd (show none = some z from hf) (fun h => by cases h)
  | succ n ih =>
    intro v1 v2 v3 v4 hf H locs ls hP hD hS hl
    rw [fX4_wordNumberT_12] at hf
    refine lv_iload hx hb dX4_wordNumber_12 (lv_at hl 4 rfl) ?_
    refine va_ldcS hx hb hown hG1 dX4_wordNumber_14 ?_
    refine tc_slen (rest := [.int (v4)]) X hP hD hS hG1 hG2 hG3 hG4 hl.1 wl_X4_70 (Nat.le_of_ble_eq_true rfl) (Nat.le_of_ble_eq_true rfl) (Nat.le_of_ble_eq_true rfl) dX4_wordNumber_16 (fun H locs hP hD hS => ?_)
    refine lv_icmp_ge (tgt := 103) hx hb dX4_wordNumber_19 (by decide) (fun hc => ?_) (fun hc => ?_)
    · have hf := tc_pos hc hf
      refine lv_iconst (v := (-1 : Int32)) hx hb dX4_wordNumber_103 (by decide) ?_
      obtain rfl := Option.some.inj hf
      exact tc_ri X hP hD hS rfl dX4_wordNumber_104 rfl rfl
    · have hf := tc_neg hc hf
      refine va_ldcS hx hb hown hG1 dX4_wordNumber_22 ?_
      refine lv_iload hx hb dX4_wordNumber_24 (lv_at hl 4 rfl) ?_
      obtain ⟨hi1, hf⟩ := tc_in hf
      refine tc_sch (i := v4) (rest := []) X hP hD hS hG1 hG2 hG3 hG4 hl.1 wl_X4_74 (Nat.le_of_ble_eq_true rfl) (Nat.le_of_ble_eq_true rfl) (Nat.le_of_ble_eq_true rfl) hi1 dX4_wordNumber_26 (fun H locs hP hD hS => ?_)
      refine lv_istore (lv' := [(5, .int (wch v4)), (0, .ref (qR 0)), (1, .int (v1)), (2, .int (v2)), (3, .int (v3)), (4, .int (v4))]) hx hb dX4_wordNumber_29 hl (by decide) rfl (fun ls hl => ?_)
      refine lv_iload hx hb dX4_wordNumber_31 (lv_at hl 0 rfl) ?_
      refine lv_bipush (v := (32 : Int32)) hx hb dX4_wordNumber_33 (by decide) ?_
      refine lv_icmp_eq (tgt := 73) hx hb dX4_wordNumber_35 (by decide) (fun hc => ?_) (fun hc => ?_)
      · have hf := tc_pos hc hf
        refine lv_iload_n hx hb dX4_wordNumber_73 rfl (lv_at hl 4 rfl) ?_
        refine lv_if_eq (tgt := 87) hx hb dX4_wordNumber_74 (by decide) (fun hc => ?_) (fun hc => ?_)
        · have hf := tc_pos hc hf
          refine lv_iinc (v := v1 + (1 : Int32)) (lv' := [(1, .int (v1 + (1 : Int32))), (5, .int (wch v4)), (0, .ref (qR 0)), (2, .int (v2)), (3, .int (v3)), (4, .int (v4))]) hx hb dX4_wordNumber_87 hl (k := 2) rfl rfl (by decide) rfl (fun ls hl => ?_)
          refine lv_aload_n hx hb dX4_wordNumber_90 rfl (lv_at hl 2 rfl) ?_
          refine va_get (D := (dC, dI)) (ci := 8) (v := .int (gi SR 3)) (C := RX8) (T := TX8) (N := 13) hx hb hts i_X8 hown hK hP 0 rfl rfl 3 (by decide) (hts _ wf_X4_40) (fun _ h9 => h9) rfl dX4_wordNumber_91 ?_
          refine lv_istore_n (lv' := [(2, .int (gi SR 3)), (1, .int (v1 + (1 : Int32))), (5, .int (wch v4)), (0, .ref (qR 0)), (3, .int (v3)), (4, .int (v4))]) hx hb dX4_wordNumber_94 rfl hl (by decide) rfl (fun ls hl => ?_)
          refine lv_iconst (v := (1 : Int32)) hx hb dX4_wordNumber_95 (by decide) ?_
          refine lv_istore_n (lv' := [(3, .int ((1 : Int32))), (2, .int (gi SR 3)), (1, .int (v1 + (1 : Int32))), (5, .int (wch v4)), (0, .ref (qR 0)), (4, .int (v4))]) hx hb dX4_wordNumber_96 rfl hl (by decide) rfl (fun ls hl => ?_)
          refine lv_iinc (v := v4 + (1 : Int32)) (lv' := [(4, .int (v4 + (1 : Int32))), (3, .int ((1 : Int32))), (2, .int (gi SR 3)), (1, .int (v1 + (1 : Int32))), (5, .int (wch v4)), (0, .ref (qR 0))]) hx hb dX4_wordNumber_97 hl (k := 5) rfl rfl (by decide) rfl (fun ls hl => ?_)
          refine lv_goto (tgt := 12) hx hb dX4_wordNumber_100 (by decide) ?_
          exact ih (v1 + (1 : Int32)) (gi SR 3) (1 : Int32) (v4 + (1 : Int32)) hf _ _ _ hP hD hS (lv_sub hl [5, 3, 2, 1, 0] rfl)
        · have hf := tc_neg hc hf
          refine lv_iload_n hx hb dX4_wordNumber_77 rfl (lv_at hl 3 rfl) ?_
          refine lv_aload_n hx hb dX4_wordNumber_78 rfl (lv_at hl 1 rfl) ?_
          refine va_get (D := (dC, dI)) (ci := 8) (v := .int (gi SR 2)) (C := RX8) (T := TX8) (N := 13) hx hb hts i_X8 hown hK hP 0 rfl rfl 2 (by decide) (hts _ wf_X4_28) (fun _ h9 => h9) rfl dX4_wordNumber_79 ?_
          refine lv_icmp_ne (tgt := 87) hx hb dX4_wordNumber_82 (by decide) (fun hc => ?_) (fun hc => ?_)
          · have hf := tc_neg hc hf
            refine lv_iinc (v := v1 + (1 : Int32)) (lv' := [(1, .int (v1 + (1 : Int32))), (5, .int (wch v4)), (0, .ref (qR 0)), (2, .int (v2)), (3, .int (v3)), (4, .int (v4))]) hx hb dX4_wordNumber_87 hl (k := 2) rfl rfl (by decide) rfl (fun ls hl => ?_)
            refine lv_aload_n hx hb dX4_wordNumber_90 rfl (lv_at hl 2 rfl) ?_
            refine va_get (D := (dC, dI)) (ci := 8) (v := .int (gi SR 3)) (C := RX8) (T := TX8) (N := 13) hx hb hts i_X8 hown hK hP 0 rfl rfl 3 (by decide) (hts _ wf_X4_40) (fun _ h9 => h9) rfl dX4_wordNumber_91 ?_
            refine lv_istore_n (lv' := [(2, .int (gi SR 3)), (1, .int (v1 + (1 : Int32))), (5, .int (wch v4)), (0, .ref (qR 0)), (3, .int (v3)), (4, .int (v4))]) hx hb dX4_wordNumber_94 rfl hl (by decide) rfl (fun ls hl => ?_)
            refine lv_iconst (v := (1 : Int32)) hx hb dX4_wordNumber_95 (by decide) ?_
            refine lv_istore_n (lv' := [(3, .int ((1 : Int32))), (2, .int (gi SR 3)), (1, .int (v1 + (1 : Int32))), (5, .int (wch v4)), (0, .ref (qR 0)), (4, .int (v4))]) hx hb dX4_wordNumber_96 rfl hl (by decide) rfl (fun ls hl => ?_)
            refine lv_iinc (v := v4 + (1 : Int32)) (lv' := [(4, .int (v4 + (1 : Int32))), (3, .int ((1 : Int32))), (2, .int (gi SR 3)), (1, .int (v1 + (1 : Int32))), (5, .int (wch v4)), (0, .ref (qR 0))]) hx hb dX4_wordNumber_97 hl (k := 5) rfl rfl (by decide) rfl (fun ls hl => ?_)
            refine lv_goto (tgt := 12) hx hb dX4_wordNumber_100 (by decide) ?_
            exact ih (v1 + (1 : Int32)) (gi SR 3) (1 : Int32) (v4 + (1 : Int32)) hf _ _ _ hP hD hS (lv_sub hl [5, 3, 2, 1, 0] rfl)
          · have hf := tc_pos hc hf
            refine lv_iload_n hx hb dX4_wordNumber_85 rfl (lv_at hl 2 rfl) ?_
            obtain rfl := Option.some.inj hf
            exact tc_ri X hP hD hS rfl dX4_wordNumber_86 rfl rfl
      · have hf := tc_neg hc hf
        refine lv_iload_n hx hb dX4_wordNumber_38 rfl (lv_at hl 4 rfl) ?_
        refine lv_if_eq (tgt := 65) hx hb dX4_wordNumber_39 (by decide) (fun hc => ?_) (fun hc => ?_)
        · have hf := tc_pos hc hf
          refine lv_iconst (v := (0 : Int32)) hx hb dX4_wordNumber_65 (by decide) ?_
          refine lv_istore_n (lv' := [(3, .int ((0 : Int32))), (5, .int (wch v4)), (0, .ref (qR 0)), (1, .int (v1)), (2, .int (v2)), (4, .int (v4))]) hx hb dX4_wordNumber_66 rfl hl (by decide) rfl (fun ls hl => ?_)
          refine lv_iinc (v := v2 + (1 : Int32)) (lv' := [(2, .int (v2 + (1 : Int32))), (3, .int ((0 : Int32))), (5, .int (wch v4)), (0, .ref (qR 0)), (1, .int (v1)), (4, .int (v4))]) hx hb dX4_wordNumber_67 hl (k := 4) rfl rfl (by decide) rfl (fun ls hl => ?_)
          refine lv_goto (tgt := 97) hx hb dX4_wordNumber_70 (by decide) ?_
          refine lv_iinc (v := v4 + (1 : Int32)) (lv' := [(4, .int (v4 + (1 : Int32))), (2, .int (v2 + (1 : Int32))), (3, .int ((0 : Int32))), (5, .int (wch v4)), (0, .ref (qR 0)), (1, .int (v1))]) hx hb dX4_wordNumber_97 hl (k := 5) rfl rfl (by decide) rfl (fun ls hl => ?_)
          refine lv_goto (tgt := 12) hx hb dX4_wordNumber_100 (by decide) ?_
          exact ih v1 (v2 + (1 : Int32)) (0 : Int32) (v4 + (1 : Int32)) hf _ _ _ hP hD hS (lv_sub hl [4, 5, 1, 2, 0] rfl)
        · have hf := tc_neg hc hf
          refine lv_iload_n hx hb dX4_wordNumber_42 rfl (lv_at hl 3 rfl) ?_
          refine lv_aload_n hx hb dX4_wordNumber_43 rfl (lv_at hl 1 rfl) ?_
          refine va_get (D := (dC, dI)) (ci := 8) (v := .int (gi SR 2)) (C := RX8) (T := TX8) (N := 13) hx hb hts i_X8 hown hK hP 0 rfl rfl 2 (by decide) (hts _ wf_X4_28) (fun _ h9 => h9) rfl dX4_wordNumber_44 ?_
          refine lv_icmp_ge (tgt := 65) hx hb dX4_wordNumber_47 (by decide) (fun hc => ?_) (fun hc => ?_)
          · have hf := tc_pos hc hf
            refine lv_iconst (v := (0 : Int32)) hx hb dX4_wordNumber_65 (by decide) ?_
            refine lv_istore_n (lv' := [(3, .int ((0 : Int32))), (5, .int (wch v4)), (0, .ref (qR 0)), (1, .int (v1)), (2, .int (v2)), (4, .int (v4))]) hx hb dX4_wordNumber_66 rfl hl (by decide) rfl (fun ls hl => ?_)
            refine lv_iinc (v := v2 + (1 : Int32)) (lv' := [(2, .int (v2 + (1 : Int32))), (3, .int ((0 : Int32))), (5, .int (wch v4)), (0, .ref (qR 0)), (1, .int (v1)), (4, .int (v4))]) hx hb dX4_wordNumber_67 hl (k := 4) rfl rfl (by decide) rfl (fun ls hl => ?_)
            refine lv_goto (tgt := 97) hx hb dX4_wordNumber_70 (by decide) ?_
            refine lv_iinc (v := v4 + (1 : Int32)) (lv' := [(4, .int (v4 + (1 : Int32))), (2, .int (v2 + (1 : Int32))), (3, .int ((0 : Int32))), (5, .int (wch v4)), (0, .ref (qR 0)), (1, .int (v1))]) hx hb dX4_wordNumber_97 hl (k := 5) rfl rfl (by decide) rfl (fun ls hl => ?_)
            refine lv_goto (tgt := 12) hx hb dX4_wordNumber_100 (by decide) ?_
            exact ih v1 (v2 + (1 : Int32)) (0 : Int32) (v4 + (1 : Int32)) hf _ _ _ hP hD hS (lv_sub hl [4, 5, 1, 2, 0] rfl)
          · have hf := tc_neg hc hf
            refine lv_aload_n hx hb dX4_wordNumber_50 rfl (lv_at hl 1 rfl) ?_
            refine va_get (D := (dC, dI)) (ci := 8) (v := .ref (qB 0)) (C := RX8) (T := TX8) (N := 13) hx hb hts i_X8 hown hK hP 0 rfl rfl 0 (by decide) (hts _ wf_X4_9) (fun _ h9 => h9) rfl dX4_wordNumber_51 ?_
            refine lv_iload_n hx hb dX4_wordNumber_54 rfl (lv_at hl 3 rfl) ?_
            obtain ⟨hi2, hf⟩ := tc_in hf
            refine va_bald hx hb hK hP 1 0 rfl rfl hi2 dX4_wordNumber_55 ?_
            refine lv_iload hx hb dX4_wordNumber_56 (lv_at hl 0 rfl) ?_
            refine lv_icmp_ne (tgt := 65) hx hb dX4_wordNumber_58 (by decide) (fun hc => ?_) (fun hc => ?_)
            · have hf := tc_neg hc hf
              refine lv_iconst (v := (0 : Int32)) hx hb dX4_wordNumber_65 (by decide) ?_
              refine lv_istore_n (lv' := [(3, .int ((0 : Int32))), (5, .int (wch v4)), (0, .ref (qR 0)), (1, .int (v1)), (2, .int (v2)), (4, .int (v4))]) hx hb dX4_wordNumber_66 rfl hl (by decide) rfl (fun ls hl => ?_)
              refine lv_iinc (v := v2 + (1 : Int32)) (lv' := [(2, .int (v2 + (1 : Int32))), (3, .int ((0 : Int32))), (5, .int (wch v4)), (0, .ref (qR 0)), (1, .int (v1)), (4, .int (v4))]) hx hb dX4_wordNumber_67 hl (k := 4) rfl rfl (by decide) rfl (fun ls hl => ?_)
              refine lv_goto (tgt := 97) hx hb dX4_wordNumber_70 (by decide) ?_
              refine lv_iinc (v := v4 + (1 : Int32)) (lv' := [(4, .int (v4 + (1 : Int32))), (2, .int (v2 + (1 : Int32))), (3, .int ((0 : Int32))), (5, .int (wch v4)), (0, .ref (qR 0)), (1, .int (v1))]) hx hb dX4_wordNumber_97 hl (k := 5) rfl rfl (by decide) rfl (fun ls hl => ?_)
              refine lv_goto (tgt := 12) hx hb dX4_wordNumber_100 (by decide) ?_
              exact ih v1 (v2 + (1 : Int32)) (0 : Int32) (v4 + (1 : Int32)) hf _ _ _ hP hD hS (lv_sub hl [4, 5, 1, 2, 0] rfl)
            · have hf := tc_pos hc hf
              refine lv_iconst (v := (1 : Int32)) hx hb dX4_wordNumber_61 (by decide) ?_
              refine lv_goto (tgt := 66) hx hb dX4_wordNumber_62 (by decide) ?_
              refine lv_istore_n (lv' := [(3, .int ((1 : Int32))), (5, .int (wch v4)), (0, .ref (qR 0)), (1, .int (v1)), (2, .int (v2)), (4, .int (v4))]) hx hb dX4_wordNumber_66 rfl hl (by decide) rfl (fun ls hl => ?_)
              refine lv_iinc (v := v2 + (1 : Int32)) (lv' := [(2, .int (v2 + (1 : Int32))), (3, .int ((1 : Int32))), (5, .int (wch v4)), (0, .ref (qR 0)), (1, .int (v1)), (4, .int (v4))]) hx hb dX4_wordNumber_67 hl (k := 4) rfl rfl (by decide) rfl (fun ls hl => ?_)
              refine lv_goto (tgt := 97) hx hb dX4_wordNumber_70 (by decide) ?_
              refine lv_iinc (v := v4 + (1 : Int32)) (lv' := [(4, .int (v4 + (1 : Int32))), (2, .int (v2 + (1 : Int32))), (3, .int ((1 : Int32))), (5, .int (wch v4)), (0, .ref (qR 0)), (1, .int (v1))]) hx hb dX4_wordNumber_97 hl (k := 5) rfl rfl (by decide) rfl (fun ls hl => ?_)
              refine lv_goto (tgt := 12) hx hb dX4_wordNumber_100 (by decide) ?_
              exact ih v1 (v2 + (1 : Int32)) (1 : Int32) (v4 + (1 : Int32)) hf _ _ _ hP hD hS (lv_sub hl [4, 5, 1, 2, 0] rfl)
set_option maxRecDepth 20000 in
theorem mX4_wordNumberT {qR : Nat → Nat} {qB : Nat → Nat} {rR11 : Value} {SR : ms_T} {SB : ms_T}  {z : Int32}  (hf : fX4_wordNumberT SR SB = some z) : tc_MI l dC dI ca yX4_wordNumber cX4_wordNumber 6 (some .int) rmX4_wordNumberT [.ref (qR 0)] (w8 ca qR (.ref (qB 0)) (rR11) SR ++ wLB ca qB SB) (w8 ca qR (.ref (qB 0)) (rR11) SR ++ wLB ca qB SB) (z) := by
  refine tc_metI (own := RX4) (by decide) rfl ?_ (Nat.le_of_ble_eq_true rfl)
  intro p e s m below meth c A X hP hD hS ls hl
  obtain ⟨hx, hb, hr, hml, hown, hts, hlk, hK, hA, hG⟩ := id X
  obtain ⟨aS, aV, hG1, hG2, hG3, hG4⟩ := id hG
  unfold fX4_wordNumberT at hf
  have hl : lv_has ls 6 [(0, .ref (qR 0))] := hl
  refine lv_iconst (v := (0 : Int32)) hx hb dX4_wordNumber_0 (by decide) ?_
  refine lv_istore_n (lv' := [(1, .int ((0 : Int32))), (0, .ref (qR 0))]) hx hb dX4_wordNumber_1 rfl hl (by decide) rfl (fun ls hl => ?_)
  refine lv_aload_n hx hb dX4_wordNumber_2 rfl (lv_at hl 1 rfl) ?_
  refine va_get (D := (dC, dI)) (ci := 8) (v := .int (gi SR 3)) (C := RX8) (T := TX8) (N := 13) hx hb hts i_X8 hown hK hP 0 rfl rfl 3 (by decide) (hts _ wf_X4_40) (fun _ h9 => h9) rfl dX4_wordNumber_3 ?_
  refine lv_istore_n (lv' := [(2, .int (gi SR 3)), (1, .int ((0 : Int32))), (0, .ref (qR 0))]) hx hb dX4_wordNumber_6 rfl hl (by decide) rfl (fun ls hl => ?_)
  refine lv_iconst (v := (1 : Int32)) hx hb dX4_wordNumber_7 (by decide) ?_
  refine lv_istore_n (lv' := [(3, .int ((1 : Int32))), (2, .int (gi SR 3)), (1, .int ((0 : Int32))), (0, .ref (qR 0))]) hx hb dX4_wordNumber_8 rfl hl (by decide) rfl (fun ls hl => ?_)
  refine lv_iconst (v := (0 : Int32)) hx hb dX4_wordNumber_9 (by decide) ?_
  refine lv_istore (lv' := [(4, .int ((0 : Int32))), (3, .int ((1 : Int32))), (2, .int (gi SR 3)), (1, .int ((0 : Int32))), (0, .ref (qR 0))]) hx hb dX4_wordNumber_10 hl (by decide) rfl (fun ls hl => ?_)
  exact tX4_wordNumberT_12 X z SR SB FU (0 : Int32) (gi SR 3) (1 : Int32) (0 : Int32) hf _ _ _ hP hD hS (lv_sub hl [4, 3, 2, 1, 0] rfl)
def fX4_wordNumberE_12  (SR : ms_T) (SB : ms_T)  : Nat → Int32 → Int32 → Int32 → Int32 → Option (Int32)
  | 0, _, _, _, _ => none
  | n + 1, v1, v2, v3, v4 =>
    if (136 : Int32) ≤ v4 then
      some ((-1 : Int32))
    else
      if inb v4 136 = true then
        if (wch v4) = (32 : Int32) then
          if v3 = 0 then
            fX4_wordNumberE_12 SR SB n (v1 + (1 : Int32)) (gi SR 3) (1 : Int32) (v4 + (1 : Int32))
          else
            if v2 = (gi SR 2) then
              some (v1)
            else
              fX4_wordNumberE_12 SR SB n (v1 + (1 : Int32)) (gi SR 3) (1 : Int32) (v4 + (1 : Int32))
        else
          if v3 = 0 then
            fX4_wordNumberE_12 SR SB n v1 (v2 + (1 : Int32)) (0 : Int32) (v4 + (1 : Int32))
          else
            if (gi SR 2) ≤ v2 then
              fX4_wordNumberE_12 SR SB n v1 (v2 + (1 : Int32)) (0 : Int32) (v4 + (1 : Int32))
            else
              if inb v2 900 = true then
                if (ia SB 0 v2) = (wch v4) then
                  fX4_wordNumberE_12 SR SB n v1 (v2 + (1 : Int32)) (1 : Int32) (v4 + (1 : Int32))
                else
                  fX4_wordNumberE_12 SR SB n v1 (v2 + (1 : Int32)) (0 : Int32) (v4 + (1 : Int32))
              else none
      else none
def fX4_wordNumberE  (SR : ms_T) (SB : ms_T)  : Option (Int32) :=
  fX4_wordNumberE_12 SR SB FU (0 : Int32) (gi SR 3) (1 : Int32) (0 : Int32)
abbrev rmX4_wordNumberE : Room := { frames := 8, cells := 0, slots := 0, locals := 400 }
set_option maxRecDepth 20000 in
theorem tX4_wordNumberE_12 {qR : Nat → Nat} {qB : Nat → Nat} {rR11 : Value} {rR12 : Value} (X : tc_X dC dI ca A RX4 cX4_wordNumber 6 (some .int) p s m args meth c) (z : Int32)  (SR : ms_T) (SB : ms_T)   : ∀ n : Nat, ∀ (v1 : Int32) (v2 : Int32) (v3 : Int32) (v4 : Int32), fX4_wordNumberE_12 SR SB n v1 v2 v3 v4 = some z → ∀ (H : Heap) (locs : List Loc) (ls : Array Slot), va_P (dC, dI) classes (w2 ca qR (.ref (qB 0)) (rR11) (rR12) SR ++ wLB ca qB SB) H → va_D A (w2 ca qR (.ref (qB 0)) (rR11) (rR12) SR ++ wLB ca qB SB) → va_S A s.heap H locs → lv_has ls 6 [(0, .ref (qR 0)), (1, .int (v1)), (2, .int (v2)), (3, .int (v3)), (4, .int (v4))] → W p l e rmX4_wordNumberE s m args below meth c H locs 0 0 (MQ below (tc_QI dC dI ca A (w2 ca qR (.ref (qB 0)) (rR11) (rR12) SR ++ wLB ca qB SB) (z)) args s 0 0 A) (F0 m 12 ls []) := by
  obtain ⟨hx, hb, hr, hml, hown, hts, hlk, hK, hA, hG⟩ := id X
  obtain ⟨aS, aV, hG1, hG2, hG3, hG4⟩ := id hG
  intro n
  induction n with
  | zero => intro v1 v2 v3 v4 hf; exact absurd (show none = some z from hf) (fun h => by cases h)
  | succ n ih =>
    intro v1 v2 v3 v4 hf H locs ls hP hD hS hl
    rw [fX4_wordNumberE_12] at hf
    refine lv_iload hx hb dX4_wordNumber_12 (lv_at hl 4 rfl) ?_
    refine va_ldcS hx hb hown hG1 dX4_wordNumber_14 ?_
    refine tc_slen (rest := [.int (v4)]) X hP hD hS hG1 hG2 hG3 hG4 hl.1 wl_X4_70 (Nat.le_of_ble_eq_true rfl) (Nat.le_of_ble_eq_true rfl) (Nat.le_of_ble_eq_true rfl) dX4_wordNumber_16 (fun H locs hP hD hS => ?_)
    refine lv_icmp_ge (tgt := 103) hx hb dX4_wordNumber_19 (by decide) (fun hc => ?_) (fun hc => ?_)
    · have hf := tc_pos hc hf
      refine lv_iconst (v := (-1 : Int32)) hx hb dX4_wordNumber_103 (by decide) ?_
      obtain rfl := Option.some.inj hf
      exact tc_ri X hP hD hS rfl dX4_wordNumber_104 rfl rfl
    · have hf := tc_neg hc hf
      refine va_ldcS hx hb hown hG1 dX4_wordNumber_22 ?_
      refine lv_iload hx hb dX4_wordNumber_24 (lv_at hl 4 rfl) ?_
      obtain ⟨hi1, hf⟩ := tc_in hf
      refine tc_sch (i := v4) (rest := []) X hP hD hS hG1 hG2 hG3 hG4 hl.1 wl_X4_74 (Nat.le_of_ble_eq_true rfl) (Nat.le_of_ble_eq_true rfl) (Nat.le_of_ble_eq_true rfl) hi1 dX4_wordNumber_26 (fun H locs hP hD hS => ?_)
      refine lv_istore (lv' := [(5, .int (wch v4)), (0, .ref (qR 0)), (1, .int (v1)), (2, .int (v2)), (3, .int (v3)), (4, .int (v4))]) hx hb dX4_wordNumber_29 hl (by decide) rfl (fun ls hl => ?_)
      refine lv_iload hx hb dX4_wordNumber_31 (lv_at hl 0 rfl) ?_
      refine lv_bipush (v := (32 : Int32)) hx hb dX4_wordNumber_33 (by decide) ?_
      refine lv_icmp_eq (tgt := 73) hx hb dX4_wordNumber_35 (by decide) (fun hc => ?_) (fun hc => ?_)
      · have hf := tc_pos hc hf
        refine lv_iload_n hx hb dX4_wordNumber_73 rfl (lv_at hl 4 rfl) ?_
        refine lv_if_eq (tgt := 87) hx hb dX4_wordNumber_74 (by decide) (fun hc => ?_) (fun hc => ?_)
        · have hf := tc_pos hc hf
          refine lv_iinc (v := v1 + (1 : Int32)) (lv' := [(1, .int (v1 + (1 : Int32))), (5, .int (wch v4)), (0, .ref (qR 0)), (2, .int (v2)), (3, .int (v3)), (4, .int (v4))]) hx hb dX4_wordNumber_87 hl (k := 2) rfl rfl (by decide) rfl (fun ls hl => ?_)
          refine lv_aload_n hx hb dX4_wordNumber_90 rfl (lv_at hl 2 rfl) ?_
          refine va_get (D := (dC, dI)) (ci := 2) (v := .int (gi SR 3)) (C := RX2) (T := TX2) (N := 15) hx hb hts i_X2 hown hK hP 0 rfl rfl 3 (by decide) (hts _ wf_X4_40) (fun _ h9 => h9) rfl dX4_wordNumber_91 ?_
          refine lv_istore_n (lv' := [(2, .int (gi SR 3)), (1, .int (v1 + (1 : Int32))), (5, .int (wch v4)), (0, .ref (qR 0)), (3, .int (v3)), (4, .int (v4))]) hx hb dX4_wordNumber_94 rfl hl (by decide) rfl (fun ls hl => ?_)
          refine lv_iconst (v := (1 : Int32)) hx hb dX4_wordNumber_95 (by decide) ?_
          refine lv_istore_n (lv' := [(3, .int ((1 : Int32))), (2, .int (gi SR 3)), (1, .int (v1 + (1 : Int32))), (5, .int (wch v4)), (0, .ref (qR 0)), (4, .int (v4))]) hx hb dX4_wordNumber_96 rfl hl (by decide) rfl (fun ls hl => ?_)
          refine lv_iinc (v := v4 + (1 : Int32)) (lv' := [(4, .int (v4 + (1 : Int32))), (3, .int ((1 : Int32))), (2, .int (gi SR 3)), (1, .int (v1 + (1 : Int32))), (5, .int (wch v4)), (0, .ref (qR 0))]) hx hb dX4_wordNumber_97 hl (k := 5) rfl rfl (by decide) rfl (fun ls hl => ?_)
          refine lv_goto (tgt := 12) hx hb dX4_wordNumber_100 (by decide) ?_
          exact ih (v1 + (1 : Int32)) (gi SR 3) (1 : Int32) (v4 + (1 : Int32)) hf _ _ _ hP hD hS (lv_sub hl [5, 3, 2, 1, 0] rfl)
        · have hf := tc_neg hc hf
          refine lv_iload_n hx hb dX4_wordNumber_77 rfl (lv_at hl 3 rfl) ?_
          refine lv_aload_n hx hb dX4_wordNumber_78 rfl (lv_at hl 1 rfl) ?_
          refine va_get (D := (dC, dI)) (ci := 2) (v := .int (gi SR 2)) (C := RX2) (T := TX2) (N := 15) hx hb hts i_X2 hown hK hP 0 rfl rfl 2 (by decide) (hts _ wf_X4_28) (fun _ h9 => h9) rfl dX4_wordNumber_79 ?_
          refine lv_icmp_ne (tgt := 87) hx hb dX4_wordNumber_82 (by decide) (fun hc => ?_) (fun hc => ?_)
          · have hf := tc_neg hc hf
            refine lv_iinc (v := v1 + (1 : Int32)) (lv' := [(1, .int (v1 + (1 : Int32))), (5, .int (wch v4)), (0, .ref (qR 0)), (2, .int (v2)), (3, .int (v3)), (4, .int (v4))]) hx hb dX4_wordNumber_87 hl (k := 2) rfl rfl (by decide) rfl (fun ls hl => ?_)
            refine lv_aload_n hx hb dX4_wordNumber_90 rfl (lv_at hl 2 rfl) ?_
            refine va_get (D := (dC, dI)) (ci := 2) (v := .int (gi SR 3)) (C := RX2) (T := TX2) (N := 15) hx hb hts i_X2 hown hK hP 0 rfl rfl 3 (by decide) (hts _ wf_X4_40) (fun _ h9 => h9) rfl dX4_wordNumber_91 ?_
            refine lv_istore_n (lv' := [(2, .int (gi SR 3)), (1, .int (v1 + (1 : Int32))), (5, .int (wch v4)), (0, .ref (qR 0)), (3, .int (v3)), (4, .int (v4))]) hx hb dX4_wordNumber_94 rfl hl (by decide) rfl (fun ls hl => ?_)
            refine lv_iconst (v := (1 : Int32)) hx hb dX4_wordNumber_95 (by decide) ?_
            refine lv_istore_n (lv' := [(3, .int ((1 : Int32))), (2, .int (gi SR 3)), (1, .int (v1 + (1 : Int32))), (5, .int (wch v4)), (0, .ref (qR 0)), (4, .int (v4))]) hx hb dX4_wordNumber_96 rfl hl (by decide) rfl (fun ls hl => ?_)
            refine lv_iinc (v := v4 + (1 : Int32)) (lv' := [(4, .int (v4 + (1 : Int32))), (3, .int ((1 : Int32))), (2, .int (gi SR 3)), (1, .int (v1 + (1 : Int32))), (5, .int (wch v4)), (0, .ref (qR 0))]) hx hb dX4_wordNumber_97 hl (k := 5) rfl rfl (by decide) rfl (fun ls hl => ?_)
            refine lv_goto (tgt := 12) hx hb dX4_wordNumber_100 (by decide) ?_
            exact ih (v1 + (1 : Int32)) (gi SR 3) (1 : Int32) (v4 + (1 : Int32)) hf _ _ _ hP hD hS (lv_sub hl [5, 3, 2, 1, 0] rfl)
          · have hf := tc_pos hc hf
            refine lv_iload_n hx hb dX4_wordNumber_85 rfl (lv_at hl 2 rfl) ?_
            obtain rfl := Option.some.inj hf
            exact tc_ri X hP hD hS rfl dX4_wordNumber_86 rfl rfl
      · have hf := tc_neg hc hf
        refine lv_iload_n hx hb dX4_wordNumber_38 rfl (lv_at hl 4 rfl) ?_
        refine lv_if_eq (tgt := 65) hx hb dX4_wordNumber_39 (by decide) (fun hc => ?_) (fun hc => ?_)
        · have hf := tc_pos hc hf
          refine lv_iconst (v := (0 : Int32)) hx hb dX4_wordNumber_65 (by decide) ?_
          refine lv_istore_n (lv' := [(3, .int ((0 : Int32))), (5, .int (wch v4)), (0, .ref (qR 0)), (1, .int (v1)), (2, .int (v2)), (4, .int (v4))]) hx hb dX4_wordNumber_66 rfl hl (by decide) rfl (fun ls hl => ?_)
          refine lv_iinc (v := v2 + (1 : Int32)) (lv' := [(2, .int (v2 + (1 : Int32))), (3, .int ((0 : Int32))), (5, .int (wch v4)), (0, .ref (qR 0)), (1, .int (v1)), (4, .int (v4))]) hx hb dX4_wordNumber_67 hl (k := 4) rfl rfl (by decide) rfl (fun ls hl => ?_)
          refine lv_goto (tgt := 97) hx hb dX4_wordNumber_70 (by decide) ?_
          refine lv_iinc (v := v4 + (1 : Int32)) (lv' := [(4, .int (v4 + (1 : Int32))), (2, .int (v2 + (1 : Int32))), (3, .int ((0 : Int32))), (5, .int (wch v4)), (0, .ref (qR 0)), (1, .int (v1))]) hx hb dX4_wordNumber_97 hl (k := 5) rfl rfl (by decide) rfl (fun ls hl => ?_)
          refine lv_goto (tgt := 12) hx hb dX4_wordNumber_100 (by decide) ?_
          exact ih v1 (v2 + (1 : Int32)) (0 : Int32) (v4 + (1 : Int32)) hf _ _ _ hP hD hS (lv_sub hl [4, 5, 1, 2, 0] rfl)
        · have hf := tc_neg hc hf
          refine lv_iload_n hx hb dX4_wordNumber_42 rfl (lv_at hl 3 rfl) ?_
          refine lv_aload_n hx hb dX4_wordNumber_43 rfl (lv_at hl 1 rfl) ?_
          refine va_get (D := (dC, dI)) (ci := 2) (v := .int (gi SR 2)) (C := RX2) (T := TX2) (N := 15) hx hb hts i_X2 hown hK hP 0 rfl rfl 2 (by decide) (hts _ wf_X4_28) (fun _ h9 => h9) rfl dX4_wordNumber_44 ?_
          refine lv_icmp_ge (tgt := 65) hx hb dX4_wordNumber_47 (by decide) (fun hc => ?_) (fun hc => ?_)
          · have hf := tc_pos hc hf
            refine lv_iconst (v := (0 : Int32)) hx hb dX4_wordNumber_65 (by decide) ?_
            refine lv_istore_n (lv' := [(3, .int ((0 : Int32))), (5, .int (wch v4)), (0, .ref (qR 0)), (1, .int (v1)), (2, .int (v2)), (4, .int (v4))]) hx hb dX4_wordNumber_66 rfl hl (by decide) rfl (fun ls hl => ?_)
            refine lv_iinc (v := v2 + (1 : Int32)) (lv' := [(2, .int (v2 + (1 : Int32))), (3, .int ((0 : Int32))), (5, .int (wch v4)), (0, .ref (qR 0)), (1, .int (v1)), (4, .int (v4))]) hx hb dX4_wordNumber_67 hl (k := 4) rfl rfl (by decide) rfl (fun ls hl => ?_)
            refine lv_goto (tgt := 97) hx hb dX4_wordNumber_70 (by decide) ?_
            refine lv_iinc (v := v4 + (1 : Int32)) (lv' := [(4, .int (v4 + (1 : Int32))), (2, .int (v2 + (1 : Int32))), (3, .int ((0 : Int32))), (5, .int (wch v4)), (0, .ref (qR 0)), (1, .int (v1))]) hx hb dX4_wordNumber_97 hl (k := 5) rfl rfl (by decide) rfl (fun ls hl => ?_)
            refine lv_goto (tgt := 12) hx hb dX4_wordNumber_100 (by decide) ?_
            exact ih v1 (v2 + (1 : Int32)) (0 : Int32) (v4 + (1 : Int32)) hf _ _ _ hP hD hS (lv_sub hl [4, 5, 1, 2, 0] rfl)
          · have hf := tc_neg hc hf
            refine lv_aload_n hx hb dX4_wordNumber_50 rfl (lv_at hl 1 rfl) ?_
            refine va_get (D := (dC, dI)) (ci := 2) (v := .ref (qB 0)) (C := RX2) (T := TX2) (N := 15) hx hb hts i_X2 hown hK hP 0 rfl rfl 0 (by decide) (hts _ wf_X4_9) (fun _ h9 => h9) rfl dX4_wordNumber_51 ?_
            refine lv_iload_n hx hb dX4_wordNumber_54 rfl (lv_at hl 3 rfl) ?_
            obtain ⟨hi2, hf⟩ := tc_in hf
            refine va_bald hx hb hK hP 2 0 rfl rfl hi2 dX4_wordNumber_55 ?_
            refine lv_iload hx hb dX4_wordNumber_56 (lv_at hl 0 rfl) ?_
            refine lv_icmp_ne (tgt := 65) hx hb dX4_wordNumber_58 (by decide) (fun hc => ?_) (fun hc => ?_)
            · have hf := tc_neg hc hf
              refine lv_iconst (v := (0 : Int32)) hx hb dX4_wordNumber_65 (by decide) ?_
              refine lv_istore_n (lv' := [(3, .int ((0 : Int32))), (5, .int (wch v4)), (0, .ref (qR 0)), (1, .int (v1)), (2, .int (v2)), (4, .int (v4))]) hx hb dX4_wordNumber_66 rfl hl (by decide) rfl (fun ls hl => ?_)
              refine lv_iinc (v := v2 + (1 : Int32)) (lv' := [(2, .int (v2 + (1 : Int32))), (3, .int ((0 : Int32))), (5, .int (wch v4)), (0, .ref (qR 0)), (1, .int (v1)), (4, .int (v4))]) hx hb dX4_wordNumber_67 hl (k := 4) rfl rfl (by decide) rfl (fun ls hl => ?_)
              refine lv_goto (tgt := 97) hx hb dX4_wordNumber_70 (by decide) ?_
              refine lv_iinc (v := v4 + (1 : Int32)) (lv' := [(4, .int (v4 + (1 : Int32))), (2, .int (v2 + (1 : Int32))), (3, .int ((0 : Int32))), (5, .int (wch v4)), (0, .ref (qR 0)), (1, .int (v1))]) hx hb dX4_wordNumber_97 hl (k := 5) rfl rfl (by decide) rfl (fun ls hl => ?_)
              refine lv_goto (tgt := 12) hx hb dX4_wordNumber_100 (by decide) ?_
              exact ih v1 (v2 + (1 : Int32)) (0 : Int32) (v4 + (1 : Int32)) hf _ _ _ hP hD hS (lv_sub hl [4, 5, 1, 2, 0] rfl)
            · have hf := tc_pos hc hf
              refine lv_iconst (v := (1 : Int32)) hx hb dX4_wordNumber_61 (by decide) ?_
              refine lv_goto (tgt := 66) hx hb dX4_wordNumber_62 (by decide) ?_
              refine lv_istore_n (lv' := [(3, .int ((1 : Int32))), (5, .int (wch v4)), (0, .ref (qR 0)), (1, .int (v1)), (2, .int (v2)), (4, .int (v4))]) hx hb dX4_wordNumber_66 rfl hl (by decide) rfl (fun ls hl => ?_)
              refine lv_iinc (v := v2 + (1 : Int32)) (lv' := [(2, .int (v2 + (1 : Int32))), (3, .int ((1 : Int32))), (5, .int (wch v4)), (0, .ref (qR 0)), (1, .int (v1)), (4, .int (v4))]) hx hb dX4_wordNumber_67 hl (k := 4) rfl rfl (by decide) rfl (fun ls hl => ?_)
              refine lv_goto (tgt := 97) hx hb dX4_wordNumber_70 (by decide) ?_
              refine lv_iinc (v := v4 + (1 : Int32)) (lv' := [(4, .int (v4 + (1 : Int32))), (2, .int (v2 + (1 : Int32))), (3, .int ((1 : Int32))), (5, .int (wch v4)), (0, .ref (qR 0)), (1, .int (v1))]) hx hb dX4_wordNumber_97 hl (k := 5) rfl rfl (by decide) rfl (fun ls hl => ?_)
              refine lv_goto (tgt := 12) hx hb dX4_wordNumber_100 (by decide) ?_
              exact ih v1 (v2 + (1 : Int32)) (1 : Int32) (v4 + (1 : Int32)) hf _ _ _ hP hD hS (lv_sub hl [4, 5, 1, 2, 0] rfl)
set_option maxRecDepth 20000 in
theorem mX4_wordNumberE {qR : Nat → Nat} {qB : Nat → Nat} {rR11 : Value} {rR12 : Value} {SR : ms_T} {SB : ms_T}  {z : Int32}  (hf : fX4_wordNumberE SR SB = some z) : tc_MI l dC dI ca yX4_wordNumber cX4_wordNumber 6 (some .int) rmX4_wordNumberE [.ref (qR 0)] (w2 ca qR (.ref (qB 0)) (rR11) (rR12) SR ++ wLB ca qB SB) (w2 ca qR (.ref (qB 0)) (rR11) (rR12) SR ++ wLB ca qB SB) (z) := by
  refine tc_metI (own := RX4) (by decide) rfl ?_ (Nat.le_of_ble_eq_true rfl)
  intro p e s m below meth c A X hP hD hS ls hl
  obtain ⟨hx, hb, hr, hml, hown, hts, hlk, hK, hA, hG⟩ := id X
  obtain ⟨aS, aV, hG1, hG2, hG3, hG4⟩ := id hG
  unfold fX4_wordNumberE at hf
  have hl : lv_has ls 6 [(0, .ref (qR 0))] := hl
  refine lv_iconst (v := (0 : Int32)) hx hb dX4_wordNumber_0 (by decide) ?_
  refine lv_istore_n (lv' := [(1, .int ((0 : Int32))), (0, .ref (qR 0))]) hx hb dX4_wordNumber_1 rfl hl (by decide) rfl (fun ls hl => ?_)
  refine lv_aload_n hx hb dX4_wordNumber_2 rfl (lv_at hl 1 rfl) ?_
  refine va_get (D := (dC, dI)) (ci := 2) (v := .int (gi SR 3)) (C := RX2) (T := TX2) (N := 15) hx hb hts i_X2 hown hK hP 0 rfl rfl 3 (by decide) (hts _ wf_X4_40) (fun _ h9 => h9) rfl dX4_wordNumber_3 ?_
  refine lv_istore_n (lv' := [(2, .int (gi SR 3)), (1, .int ((0 : Int32))), (0, .ref (qR 0))]) hx hb dX4_wordNumber_6 rfl hl (by decide) rfl (fun ls hl => ?_)
  refine lv_iconst (v := (1 : Int32)) hx hb dX4_wordNumber_7 (by decide) ?_
  refine lv_istore_n (lv' := [(3, .int ((1 : Int32))), (2, .int (gi SR 3)), (1, .int ((0 : Int32))), (0, .ref (qR 0))]) hx hb dX4_wordNumber_8 rfl hl (by decide) rfl (fun ls hl => ?_)
  refine lv_iconst (v := (0 : Int32)) hx hb dX4_wordNumber_9 (by decide) ?_
  refine lv_istore (lv' := [(4, .int ((0 : Int32))), (3, .int ((1 : Int32))), (2, .int (gi SR 3)), (1, .int ((0 : Int32))), (0, .ref (qR 0))]) hx hb dX4_wordNumber_10 hl (by decide) rfl (fun ls hl => ?_)
  exact tX4_wordNumberE_12 X z SR SB FU (0 : Int32) (gi SR 3) (1 : Int32) (0 : Int32) hf _ _ _ hP hD hS (lv_sub hl [4, 3, 2, 1, 0] rfl)
theorem pw8_B_0_6 (ca : Nat → ClassId) (q0 q1 : Nat → Nat) (r0_0 r0_11 : Value) (S0 S1 : ms_T) (v : Int32) : (w8 ca q0 r0_0 r0_11 S0 ++ wLB ca q1 S1 : va_W).set 0 (q0 0, .inr (8, List.set (r0_0 :: .int (gi S0 1) :: .int (gi S0 2) :: .int (gi S0 3) :: .int (gi S0 4) :: .int (gi S0 5) :: .int (gi S0 6) :: .int (gi S0 7) :: .long (gl S0 8) :: .int (gi S0 9) :: .int (gi S0 10) :: r0_11 :: .int (gi S0 12) :: []) 6 (.int v))) = w8 ca q0 r0_0 r0_11 (si S0 6 v) ++ wLB ca q1 S1 := rfl
theorem pw8_B_0_4 (ca : Nat → ClassId) (q0 q1 : Nat → Nat) (r0_0 r0_11 : Value) (S0 S1 : ms_T) (v : Int32) : (w8 ca q0 r0_0 r0_11 S0 ++ wLB ca q1 S1 : va_W).set 0 (q0 0, .inr (8, List.set (r0_0 :: .int (gi S0 1) :: .int (gi S0 2) :: .int (gi S0 3) :: .int (gi S0 4) :: .int (gi S0 5) :: .int (gi S0 6) :: .int (gi S0 7) :: .long (gl S0 8) :: .int (gi S0 9) :: .int (gi S0 10) :: r0_11 :: .int (gi S0 12) :: []) 4 (.int v))) = w8 ca q0 r0_0 r0_11 (si S0 4 v) ++ wLB ca q1 S1 := rfl
theorem pw8_B_0_2 (ca : Nat → ClassId) (q0 q1 : Nat → Nat) (r0_0 r0_11 : Value) (S0 S1 : ms_T) (v : Int32) : (w8 ca q0 r0_0 r0_11 S0 ++ wLB ca q1 S1 : va_W).set 0 (q0 0, .inr (8, List.set (r0_0 :: .int (gi S0 1) :: .int (gi S0 2) :: .int (gi S0 3) :: .int (gi S0 4) :: .int (gi S0 5) :: .int (gi S0 6) :: .int (gi S0 7) :: .long (gl S0 8) :: .int (gi S0 9) :: .int (gi S0 10) :: r0_11 :: .int (gi S0 12) :: []) 2 (.int v))) = w8 ca q0 r0_0 r0_11 (si S0 2 v) ++ wLB ca q1 S1 := rfl
def fX4_readSignT_72  (SB : ms_T)  (SR : ms_T) (t0 : Int32) : Option (ms_T) :=
  some (si (si SR 4 t0) 2 ((gi (si SR 4 t0) 2) + (1 : Int32)))
def fX4_readSignT  (SR : ms_T) (SB : ms_T)  : Option (ms_T) :=
  if (gi SR 2) < (gi SR 1) then
    if inb (gi SR 2) 900 = true then
      if (gi (si SR 6 (ia SB 0 (gi SR 2))) 6) = (59 : Int32) then
        fX4_readSignT_72 SB (si SR 6 (ia SB 0 (gi SR 2))) (3 : Int32)
      else
        if (gi (si SR 6 (ia SB 0 (gi SR 2))) 6) = (60 : Int32) then
          fX4_readSignT_72 SB (si SR 6 (ia SB 0 (gi SR 2))) (3 : Int32)
        else
          if (gi (si SR 6 (ia SB 0 (gi SR 2))) 6) = (62 : Int32) then
            fX4_readSignT_72 SB (si SR 6 (ia SB 0 (gi SR 2))) (3 : Int32)
          else
            if (gi (si SR 6 (ia SB 0 (gi SR 2))) 6) = (61 : Int32) then
              fX4_readSignT_72 SB (si SR 6 (ia SB 0 (gi SR 2))) (3 : Int32)
            else
              fX4_readSignT_72 SB (si SR 6 (ia SB 0 (gi SR 2))) (4 : Int32)
    else none
  else
    some (si SR 4 (0 : Int32))
abbrev rmX4_readSignT : Room := { frames := 0, cells := 0, slots := 0, locals := 0 }
theorem okX4_readSign : tc_ok yX4_readSign cX4_readSign 1 none 0 := ⟨wc_X4_readSign, wn_X4, by decide, by decide, by decide +kernel⟩
set_option maxRecDepth 20000 in
theorem tX4_readSignT_72 {qR : Nat → Nat} {qB : Nat → Nat} {rR11 : Value} (X : tc_X dC dI ca A RX4 cX4_readSign 1 none p s m args meth c) (z : ms_T)  (SB : ms_T)   : ∀ (SR : ms_T) (t0 : Int32), fX4_readSignT_72 SB SR t0 = some z → ∀ (H : Heap) (locs : List Loc) (ls : Array Slot), va_P (dC, dI) classes (w8 ca qR (.ref (qB 0)) (rR11) SR ++ wLB ca qB SB) H → va_D A (w8 ca qR (.ref (qB 0)) (rR11) SR ++ wLB ca qB SB) → va_S A s.heap H locs → lv_has ls 1 [(0, .ref (qR 0))] → W p l e rmX4_readSignT s m args below meth c H locs 0 0 (MQ below (tc_QV dC dI ca A (w8 ca qR (.ref (qB 0)) (rR11) z ++ wLB ca qB SB)) args s 0 0 A) (F0 m 72 ls [.int (t0), .ref (qR 0)]) := by
  obtain ⟨hx, hb, hr, hml, hown, hts, hlk, hK, hA, hG⟩ := id X
  intro SR t0 hf H locs ls hP hD hS hl
  unfold fX4_readSignT_72 at hf
  refine va_put (D := (dC, dI)) (ci := 8) (v := .int (t0)) (ty := .int) (C := RX8) (T := TX8) (N := 13) hx hb hts i_X8 tyX8 tyX8_ok nmX8 hown hK hP hD hS 0 rfl rfl 4 (by decide) (hts _ wf_X4_55) (fun _ h9 => h9) rfl (tyX8_ok 4 (by decide)) rfl rfl (Nat.le_of_ble_eq_true rfl) dX4_readSign_72 (fun H locs hP hD hS => ?_)
  have hP := tc_eP (pw8_B_0_4 ca qR qB (.ref (qB 0)) (rR11) SR SB t0) hP
  have hD := tc_eD (pw8_B_0_4 ca qR qB (.ref (qB 0)) (rR11) SR SB t0) hD
  refine lv_aload_n hx hb dX4_readSign_75 rfl (lv_at hl 0 rfl) ?_
  refine lv_dup hx hb dX4_readSign_76 rfl ?_
  refine va_get (D := (dC, dI)) (ci := 8) (v := .int (gi (si SR 4 t0) 2)) (C := RX8) (T := TX8) (N := 13) hx hb hts i_X8 hown hK hP 0 rfl rfl 2 (by decide) (hts _ wf_X4_28) (fun _ h9 => h9) rfl dX4_readSign_77 ?_
  refine lv_iconst (v := (1 : Int32)) hx hb dX4_readSign_80 (by decide) ?_
  refine lv_iadd hx hb dX4_readSign_81 ?_
  refine va_put (D := (dC, dI)) (ci := 8) (v := .int ((gi (si SR 4 t0) 2) + (1 : Int32))) (ty := .int) (C := RX8) (T := TX8) (N := 13) hx hb hts i_X8 tyX8 tyX8_ok nmX8 hown hK hP hD hS 0 rfl rfl 2 (by decide) (hts _ wf_X4_28) (fun _ h9 => h9) rfl (tyX8_ok 2 (by decide)) rfl rfl (Nat.le_of_ble_eq_true rfl) dX4_readSign_82 (fun H locs hP hD hS => ?_)
  have hP := tc_eP (pw8_B_0_2 ca qR qB (.ref (qB 0)) (rR11) (si SR 4 t0) SB ((gi (si SR 4 t0) 2) + (1 : Int32))) hP
  have hD := tc_eD (pw8_B_0_2 ca qR qB (.ref (qB 0)) (rR11) (si SR 4 t0) SB ((gi (si SR 4 t0) 2) + (1 : Int32))) hD
  obtain rfl := Option.some.inj hf
  exact tc_rv X hP hD hS rfl dX4_readSign_85 rfl
set_option maxRecDepth 20000 in
theorem mX4_readSignT {qR : Nat → Nat} {qB : Nat → Nat} {rR11 : Value} {SR : ms_T} {SB : ms_T}  {z : ms_T}  (hf : fX4_readSignT SR SB = some z) : tc_MV l dC dI ca yX4_readSign cX4_readSign 1 none rmX4_readSignT [.ref (qR 0)] (w8 ca qR (.ref (qB 0)) (rR11) SR ++ wLB ca qB SB) (w8 ca qR (.ref (qB 0)) (rR11) z ++ wLB ca qB SB) := by
  refine tc_metV (own := RX4) (by decide) rfl ?_ (Nat.le_of_ble_eq_true rfl)
  intro p e s m below meth c A X hP hD hS ls hl
  obtain ⟨hx, hb, hr, hml, hown, hts, hlk, hK, hA, hG⟩ := id X
  unfold fX4_readSignT at hf
  have hl : lv_has ls 1 [(0, .ref (qR 0))] := hl
  refine lv_aload_n hx hb dX4_readSign_0 rfl (lv_at hl 0 rfl) ?_
  refine va_get (D := (dC, dI)) (ci := 8) (v := .int (gi SR 2)) (C := RX8) (T := TX8) (N := 13) hx hb hts i_X8 hown hK hP 0 rfl rfl 2 (by decide) (hts _ wf_X4_28) (fun _ h9 => h9) rfl dX4_readSign_1 ?_
  refine lv_aload_n hx hb dX4_readSign_4 rfl (lv_at hl 0 rfl) ?_
  refine va_get (D := (dC, dI)) (ci := 8) (v := .int (gi SR 1)) (C := RX8) (T := TX8) (N := 13) hx hb hts i_X8 hown hK hP 0 rfl rfl 1 (by decide) (hts _ wf_X4_24) (fun _ h9 => h9) rfl dX4_readSign_5 ?_
  refine lv_icmp_lt (tgt := 17) hx hb dX4_readSign_8 (by decide) (fun hc => ?_) (fun hc => ?_)
  · have hf := tc_pos hc hf
    refine lv_aload_n hx hb dX4_readSign_17 rfl (lv_at hl 0 rfl) ?_
    refine lv_aload_n hx hb dX4_readSign_18 rfl (lv_at hl 0 rfl) ?_
    refine va_get (D := (dC, dI)) (ci := 8) (v := .ref (qB 0)) (C := RX8) (T := TX8) (N := 13) hx hb hts i_X8 hown hK hP 0 rfl rfl 0 (by decide) (hts _ wf_X4_9) (fun _ h9 => h9) rfl dX4_readSign_19 ?_
    refine lv_aload_n hx hb dX4_readSign_22 rfl (lv_at hl 0 rfl) ?_
    refine va_get (D := (dC, dI)) (ci := 8) (v := .int (gi SR 2)) (C := RX8) (T := TX8) (N := 13) hx hb hts i_X8 hown hK hP 0 rfl rfl 2 (by decide) (hts _ wf_X4_28) (fun _ h9 => h9) rfl dX4_readSign_23 ?_
    obtain ⟨hi1, hf⟩ := tc_in hf
    refine va_bald hx hb hK hP 1 0 rfl rfl hi1 dX4_readSign_26 ?_
    refine va_put (D := (dC, dI)) (ci := 8) (v := .int (ia SB 0 (gi SR 2))) (ty := .int) (C := RX8) (T := TX8) (N := 13) hx hb hts i_X8 tyX8 tyX8_ok nmX8 hown hK hP hD hS 0 rfl rfl 6 (by decide) (hts _ wf_X4_65) (fun _ h9 => h9) rfl (tyX8_ok 6 (by decide)) rfl rfl (Nat.le_of_ble_eq_true rfl) dX4_readSign_27 (fun H locs hP hD hS => ?_)
    have hP := tc_eP (pw8_B_0_6 ca qR qB (.ref (qB 0)) (rR11) SR SB (ia SB 0 (gi SR 2))) hP
    have hD := tc_eD (pw8_B_0_6 ca qR qB (.ref (qB 0)) (rR11) SR SB (ia SB 0 (gi SR 2))) hD
    refine lv_aload_n hx hb dX4_readSign_30 rfl (lv_at hl 0 rfl) ?_
    refine lv_aload_n hx hb dX4_readSign_31 rfl (lv_at hl 0 rfl) ?_
    refine va_get (D := (dC, dI)) (ci := 8) (v := .int (gi (si SR 6 (ia SB 0 (gi SR 2))) 6)) (C := RX8) (T := TX8) (N := 13) hx hb hts i_X8 hown hK hP 0 rfl rfl 6 (by decide) (hts _ wf_X4_65) (fun _ h9 => h9) rfl dX4_readSign_32 ?_
    refine lv_bipush (v := (59 : Int32)) hx hb dX4_readSign_35 (by decide) ?_
    refine lv_icmp_eq (tgt := 67) hx hb dX4_readSign_37 (by decide) (fun hc => ?_) (fun hc => ?_)
    · have hf := tc_pos hc hf
      refine lv_iconst (v := (3 : Int32)) hx hb dX4_readSign_67 (by decide) ?_
      refine lv_goto (tgt := 72) hx hb dX4_readSign_68 (by decide) ?_
      exact tX4_readSignT_72 X z SB (si SR 6 (ia SB 0 (gi SR 2))) (3 : Int32) hf _ _ _ hP hD hS (lv_sub hl [0] rfl)
    · have hf := tc_neg hc hf
      refine lv_aload_n hx hb dX4_readSign_40 rfl (lv_at hl 0 rfl) ?_
      refine va_get (D := (dC, dI)) (ci := 8) (v := .int (gi (si SR 6 (ia SB 0 (gi SR 2))) 6)) (C := RX8) (T := TX8) (N := 13) hx hb hts i_X8 hown hK hP 0 rfl rfl 6 (by decide) (hts _ wf_X4_65) (fun _ h9 => h9) rfl dX4_readSign_41 ?_
      refine lv_bipush (v := (60 : Int32)) hx hb dX4_readSign_44 (by decide) ?_
      refine lv_icmp_eq (tgt := 67) hx hb dX4_readSign_46 (by decide) (fun hc => ?_) (fun hc => ?_)
      · have hf := tc_pos hc hf
        refine lv_iconst (v := (3 : Int32)) hx hb dX4_readSign_67 (by decide) ?_
        refine lv_goto (tgt := 72) hx hb dX4_readSign_68 (by decide) ?_
        exact tX4_readSignT_72 X z SB (si SR 6 (ia SB 0 (gi SR 2))) (3 : Int32) hf _ _ _ hP hD hS (lv_sub hl [0] rfl)
      · have hf := tc_neg hc hf
        refine lv_aload_n hx hb dX4_readSign_49 rfl (lv_at hl 0 rfl) ?_
        refine va_get (D := (dC, dI)) (ci := 8) (v := .int (gi (si SR 6 (ia SB 0 (gi SR 2))) 6)) (C := RX8) (T := TX8) (N := 13) hx hb hts i_X8 hown hK hP 0 rfl rfl 6 (by decide) (hts _ wf_X4_65) (fun _ h9 => h9) rfl dX4_readSign_50 ?_
        refine lv_bipush (v := (62 : Int32)) hx hb dX4_readSign_53 (by decide) ?_
        refine lv_icmp_eq (tgt := 67) hx hb dX4_readSign_55 (by decide) (fun hc => ?_) (fun hc => ?_)
        · have hf := tc_pos hc hf
          refine lv_iconst (v := (3 : Int32)) hx hb dX4_readSign_67 (by decide) ?_
          refine lv_goto (tgt := 72) hx hb dX4_readSign_68 (by decide) ?_
          exact tX4_readSignT_72 X z SB (si SR 6 (ia SB 0 (gi SR 2))) (3 : Int32) hf _ _ _ hP hD hS (lv_sub hl [0] rfl)
        · have hf := tc_neg hc hf
          refine lv_aload_n hx hb dX4_readSign_58 rfl (lv_at hl 0 rfl) ?_
          refine va_get (D := (dC, dI)) (ci := 8) (v := .int (gi (si SR 6 (ia SB 0 (gi SR 2))) 6)) (C := RX8) (T := TX8) (N := 13) hx hb hts i_X8 hown hK hP 0 rfl rfl 6 (by decide) (hts _ wf_X4_65) (fun _ h9 => h9) rfl dX4_readSign_59 ?_
          refine lv_bipush (v := (61 : Int32)) hx hb dX4_readSign_62 (by decide) ?_
          refine lv_icmp_ne (tgt := 71) hx hb dX4_readSign_64 (by decide) (fun hc => ?_) (fun hc => ?_)
          · have hf := tc_neg hc hf
            refine lv_iconst (v := (4 : Int32)) hx hb dX4_readSign_71 (by decide) ?_
            exact tX4_readSignT_72 X z SB (si SR 6 (ia SB 0 (gi SR 2))) (4 : Int32) hf _ _ _ hP hD hS (lv_sub hl [0] rfl)
          · have hf := tc_pos hc hf
            refine lv_iconst (v := (3 : Int32)) hx hb dX4_readSign_67 (by decide) ?_
            refine lv_goto (tgt := 72) hx hb dX4_readSign_68 (by decide) ?_
            exact tX4_readSignT_72 X z SB (si SR 6 (ia SB 0 (gi SR 2))) (3 : Int32) hf _ _ _ hP hD hS (lv_sub hl [0] rfl)
  · have hf := tc_neg hc hf
    refine lv_aload_n hx hb dX4_readSign_11 rfl (lv_at hl 0 rfl) ?_
    refine lv_iconst (v := (0 : Int32)) hx hb dX4_readSign_12 (by decide) ?_
    refine va_put (D := (dC, dI)) (ci := 8) (v := .int ((0 : Int32))) (ty := .int) (C := RX8) (T := TX8) (N := 13) hx hb hts i_X8 tyX8 tyX8_ok nmX8 hown hK hP hD hS 0 rfl rfl 4 (by decide) (hts _ wf_X4_55) (fun _ h9 => h9) rfl (tyX8_ok 4 (by decide)) rfl rfl (Nat.le_of_ble_eq_true rfl) dX4_readSign_13 (fun H locs hP hD hS => ?_)
    have hP := tc_eP (pw8_B_0_4 ca qR qB (.ref (qB 0)) (rR11) SR SB (0 : Int32)) hP
    have hD := tc_eD (pw8_B_0_4 ca qR qB (.ref (qB 0)) (rR11) SR SB (0 : Int32)) hD
    obtain rfl := Option.some.inj hf
    exact tc_rv X hP hD hS rfl dX4_readSign_16 rfl
theorem pw2_B_0_6 (ca : Nat → ClassId) (q0 q1 : Nat → Nat) (r0_0 r0_11 r0_12 : Value) (S0 S1 : ms_T) (v : Int32) : (w2 ca q0 r0_0 r0_11 r0_12 S0 ++ wLB ca q1 S1 : va_W).set 0 (q0 0, .inr (2, List.set (r0_0 :: .int (gi S0 1) :: .int (gi S0 2) :: .int (gi S0 3) :: .int (gi S0 4) :: .int (gi S0 5) :: .int (gi S0 6) :: .int (gi S0 7) :: .long (gl S0 8) :: .int (gi S0 9) :: .int (gi S0 10) :: r0_11 :: r0_12 :: .int (gi S0 13) :: .ref (q0 1) :: []) 6 (.int v))) = w2 ca q0 r0_0 r0_11 r0_12 (si S0 6 v) ++ wLB ca q1 S1 := rfl
theorem pw2_B_0_4 (ca : Nat → ClassId) (q0 q1 : Nat → Nat) (r0_0 r0_11 r0_12 : Value) (S0 S1 : ms_T) (v : Int32) : (w2 ca q0 r0_0 r0_11 r0_12 S0 ++ wLB ca q1 S1 : va_W).set 0 (q0 0, .inr (2, List.set (r0_0 :: .int (gi S0 1) :: .int (gi S0 2) :: .int (gi S0 3) :: .int (gi S0 4) :: .int (gi S0 5) :: .int (gi S0 6) :: .int (gi S0 7) :: .long (gl S0 8) :: .int (gi S0 9) :: .int (gi S0 10) :: r0_11 :: r0_12 :: .int (gi S0 13) :: .ref (q0 1) :: []) 4 (.int v))) = w2 ca q0 r0_0 r0_11 r0_12 (si S0 4 v) ++ wLB ca q1 S1 := rfl
theorem pw2_B_0_2 (ca : Nat → ClassId) (q0 q1 : Nat → Nat) (r0_0 r0_11 r0_12 : Value) (S0 S1 : ms_T) (v : Int32) : (w2 ca q0 r0_0 r0_11 r0_12 S0 ++ wLB ca q1 S1 : va_W).set 0 (q0 0, .inr (2, List.set (r0_0 :: .int (gi S0 1) :: .int (gi S0 2) :: .int (gi S0 3) :: .int (gi S0 4) :: .int (gi S0 5) :: .int (gi S0 6) :: .int (gi S0 7) :: .long (gl S0 8) :: .int (gi S0 9) :: .int (gi S0 10) :: r0_11 :: r0_12 :: .int (gi S0 13) :: .ref (q0 1) :: []) 2 (.int v))) = w2 ca q0 r0_0 r0_11 r0_12 (si S0 2 v) ++ wLB ca q1 S1 := rfl
def fX4_readSignE_72  (SB : ms_T)  (SR : ms_T) (t0 : Int32) : Option (ms_T) :=
  some (si (si SR 4 t0) 2 ((gi (si SR 4 t0) 2) + (1 : Int32)))
def fX4_readSignE  (SR : ms_T) (SB : ms_T)  : Option (ms_T) :=
  if (gi SR 2) < (gi SR 1) then
    if inb (gi SR 2) 900 = true then
      if (gi (si SR 6 (ia SB 0 (gi SR 2))) 6) = (59 : Int32) then
        fX4_readSignE_72 SB (si SR 6 (ia SB 0 (gi SR 2))) (3 : Int32)
      else
        if (gi (si SR 6 (ia SB 0 (gi SR 2))) 6) = (60 : Int32) then
          fX4_readSignE_72 SB (si SR 6 (ia SB 0 (gi SR 2))) (3 : Int32)
        else
          if (gi (si SR 6 (ia SB 0 (gi SR 2))) 6) = (62 : Int32) then
            fX4_readSignE_72 SB (si SR 6 (ia SB 0 (gi SR 2))) (3 : Int32)
          else
            if (gi (si SR 6 (ia SB 0 (gi SR 2))) 6) = (61 : Int32) then
              fX4_readSignE_72 SB (si SR 6 (ia SB 0 (gi SR 2))) (3 : Int32)
            else
              fX4_readSignE_72 SB (si SR 6 (ia SB 0 (gi SR 2))) (4 : Int32)
    else none
  else
    some (si SR 4 (0 : Int32))
abbrev rmX4_readSignE : Room := { frames := 0, cells := 0, slots := 0, locals := 0 }
set_option maxRecDepth 20000 in
theorem tX4_readSignE_72 {qR : Nat → Nat} {qB : Nat → Nat} {rR11 : Value} {rR12 : Value} (X : tc_X dC dI ca A RX4 cX4_readSign 1 none p s m args meth c) (z : ms_T)  (SB : ms_T)   : ∀ (SR : ms_T) (t0 : Int32), fX4_readSignE_72 SB SR t0 = some z → ∀ (H : Heap) (locs : List Loc) (ls : Array Slot), va_P (dC, dI) classes (w2 ca qR (.ref (qB 0)) (rR11) (rR12) SR ++ wLB ca qB SB) H → va_D A (w2 ca qR (.ref (qB 0)) (rR11) (rR12) SR ++ wLB ca qB SB) → va_S A s.heap H locs → lv_has ls 1 [(0, .ref (qR 0))] → W p l e rmX4_readSignE s m args below meth c H locs 0 0 (MQ below (tc_QV dC dI ca A (w2 ca qR (.ref (qB 0)) (rR11) (rR12) z ++ wLB ca qB SB)) args s 0 0 A) (F0 m 72 ls [.int (t0), .ref (qR 0)]) := by
  obtain ⟨hx, hb, hr, hml, hown, hts, hlk, hK, hA, hG⟩ := id X
  intro SR t0 hf H locs ls hP hD hS hl
  unfold fX4_readSignE_72 at hf
  refine va_put (D := (dC, dI)) (ci := 2) (v := .int (t0)) (ty := .int) (C := RX2) (T := TX2) (N := 15) hx hb hts i_X2 tyX2 tyX2_ok nmX2 hown hK hP hD hS 0 rfl rfl 4 (by decide) (hts _ wf_X4_55) (fun _ h9 => h9) rfl (tyX2_ok 4 (by decide)) rfl rfl (Nat.le_of_ble_eq_true rfl) dX4_readSign_72 (fun H locs hP hD hS => ?_)
  have hP := tc_eP (pw2_B_0_4 ca qR qB (.ref (qB 0)) (rR11) (rR12) SR SB t0) hP
  have hD := tc_eD (pw2_B_0_4 ca qR qB (.ref (qB 0)) (rR11) (rR12) SR SB t0) hD
  refine lv_aload_n hx hb dX4_readSign_75 rfl (lv_at hl 0 rfl) ?_
  refine lv_dup hx hb dX4_readSign_76 rfl ?_
  refine va_get (D := (dC, dI)) (ci := 2) (v := .int (gi (si SR 4 t0) 2)) (C := RX2) (T := TX2) (N := 15) hx hb hts i_X2 hown hK hP 0 rfl rfl 2 (by decide) (hts _ wf_X4_28) (fun _ h9 => h9) rfl dX4_readSign_77 ?_
  refine lv_iconst (v := (1 : Int32)) hx hb dX4_readSign_80 (by decide) ?_
  refine lv_iadd hx hb dX4_readSign_81 ?_
  refine va_put (D := (dC, dI)) (ci := 2) (v := .int ((gi (si SR 4 t0) 2) + (1 : Int32))) (ty := .int) (C := RX2) (T := TX2) (N := 15) hx hb hts i_X2 tyX2 tyX2_ok nmX2 hown hK hP hD hS 0 rfl rfl 2 (by decide) (hts _ wf_X4_28) (fun _ h9 => h9) rfl (tyX2_ok 2 (by decide)) rfl rfl (Nat.le_of_ble_eq_true rfl) dX4_readSign_82 (fun H locs hP hD hS => ?_)
  have hP := tc_eP (pw2_B_0_2 ca qR qB (.ref (qB 0)) (rR11) (rR12) (si SR 4 t0) SB ((gi (si SR 4 t0) 2) + (1 : Int32))) hP
  have hD := tc_eD (pw2_B_0_2 ca qR qB (.ref (qB 0)) (rR11) (rR12) (si SR 4 t0) SB ((gi (si SR 4 t0) 2) + (1 : Int32))) hD
  obtain rfl := Option.some.inj hf
  exact tc_rv X hP hD hS rfl dX4_readSign_85 rfl
set_option maxRecDepth 20000 in
theorem mX4_readSignE {qR : Nat → Nat} {qB : Nat → Nat} {rR11 : Value} {rR12 : Value} {SR : ms_T} {SB : ms_T}  {z : ms_T}  (hf : fX4_readSignE SR SB = some z) : tc_MV l dC dI ca yX4_readSign cX4_readSign 1 none rmX4_readSignE [.ref (qR 0)] (w2 ca qR (.ref (qB 0)) (rR11) (rR12) SR ++ wLB ca qB SB) (w2 ca qR (.ref (qB 0)) (rR11) (rR12) z ++ wLB ca qB SB) := by
  refine tc_metV (own := RX4) (by decide) rfl ?_ (Nat.le_of_ble_eq_true rfl)
  intro p e s m below meth c A X hP hD hS ls hl
  obtain ⟨hx, hb, hr, hml, hown, hts, hlk, hK, hA, hG⟩ := id X
  unfold fX4_readSignE at hf
  have hl : lv_has ls 1 [(0, .ref (qR 0))] := hl
  refine lv_aload_n hx hb dX4_readSign_0 rfl (lv_at hl 0 rfl) ?_
  refine va_get (D := (dC, dI)) (ci := 2) (v := .int (gi SR 2)) (C := RX2) (T := TX2) (N := 15) hx hb hts i_X2 hown hK hP 0 rfl rfl 2 (by decide) (hts _ wf_X4_28) (fun _ h9 => h9) rfl dX4_readSign_1 ?_
  refine lv_aload_n hx hb dX4_readSign_4 rfl (lv_at hl 0 rfl) ?_
  refine va_get (D := (dC, dI)) (ci := 2) (v := .int (gi SR 1)) (C := RX2) (T := TX2) (N := 15) hx hb hts i_X2 hown hK hP 0 rfl rfl 1 (by decide) (hts _ wf_X4_24) (fun _ h9 => h9) rfl dX4_readSign_5 ?_
  refine lv_icmp_lt (tgt := 17) hx hb dX4_readSign_8 (by decide) (fun hc => ?_) (fun hc => ?_)
  · have hf := tc_pos hc hf
    refine lv_aload_n hx hb dX4_readSign_17 rfl (lv_at hl 0 rfl) ?_
    refine lv_aload_n hx hb dX4_readSign_18 rfl (lv_at hl 0 rfl) ?_
    refine va_get (D := (dC, dI)) (ci := 2) (v := .ref (qB 0)) (C := RX2) (T := TX2) (N := 15) hx hb hts i_X2 hown hK hP 0 rfl rfl 0 (by decide) (hts _ wf_X4_9) (fun _ h9 => h9) rfl dX4_readSign_19 ?_
    refine lv_aload_n hx hb dX4_readSign_22 rfl (lv_at hl 0 rfl) ?_
    refine va_get (D := (dC, dI)) (ci := 2) (v := .int (gi SR 2)) (C := RX2) (T := TX2) (N := 15) hx hb hts i_X2 hown hK hP 0 rfl rfl 2 (by decide) (hts _ wf_X4_28) (fun _ h9 => h9) rfl dX4_readSign_23 ?_
    obtain ⟨hi1, hf⟩ := tc_in hf
    refine va_bald hx hb hK hP 2 0 rfl rfl hi1 dX4_readSign_26 ?_
    refine va_put (D := (dC, dI)) (ci := 2) (v := .int (ia SB 0 (gi SR 2))) (ty := .int) (C := RX2) (T := TX2) (N := 15) hx hb hts i_X2 tyX2 tyX2_ok nmX2 hown hK hP hD hS 0 rfl rfl 6 (by decide) (hts _ wf_X4_65) (fun _ h9 => h9) rfl (tyX2_ok 6 (by decide)) rfl rfl (Nat.le_of_ble_eq_true rfl) dX4_readSign_27 (fun H locs hP hD hS => ?_)
    have hP := tc_eP (pw2_B_0_6 ca qR qB (.ref (qB 0)) (rR11) (rR12) SR SB (ia SB 0 (gi SR 2))) hP
    have hD := tc_eD (pw2_B_0_6 ca qR qB (.ref (qB 0)) (rR11) (rR12) SR SB (ia SB 0 (gi SR 2))) hD
    refine lv_aload_n hx hb dX4_readSign_30 rfl (lv_at hl 0 rfl) ?_
    refine lv_aload_n hx hb dX4_readSign_31 rfl (lv_at hl 0 rfl) ?_
    refine va_get (D := (dC, dI)) (ci := 2) (v := .int (gi (si SR 6 (ia SB 0 (gi SR 2))) 6)) (C := RX2) (T := TX2) (N := 15) hx hb hts i_X2 hown hK hP 0 rfl rfl 6 (by decide) (hts _ wf_X4_65) (fun _ h9 => h9) rfl dX4_readSign_32 ?_
    refine lv_bipush (v := (59 : Int32)) hx hb dX4_readSign_35 (by decide) ?_
    refine lv_icmp_eq (tgt := 67) hx hb dX4_readSign_37 (by decide) (fun hc => ?_) (fun hc => ?_)
    · have hf := tc_pos hc hf
      refine lv_iconst (v := (3 : Int32)) hx hb dX4_readSign_67 (by decide) ?_
      refine lv_goto (tgt := 72) hx hb dX4_readSign_68 (by decide) ?_
      exact tX4_readSignE_72 X z SB (si SR 6 (ia SB 0 (gi SR 2))) (3 : Int32) hf _ _ _ hP hD hS (lv_sub hl [0] rfl)
    · have hf := tc_neg hc hf
      refine lv_aload_n hx hb dX4_readSign_40 rfl (lv_at hl 0 rfl) ?_
      refine va_get (D := (dC, dI)) (ci := 2) (v := .int (gi (si SR 6 (ia SB 0 (gi SR 2))) 6)) (C := RX2) (T := TX2) (N := 15) hx hb hts i_X2 hown hK hP 0 rfl rfl 6 (by decide) (hts _ wf_X4_65) (fun _ h9 => h9) rfl dX4_readSign_41 ?_
      refine lv_bipush (v := (60 : Int32)) hx hb dX4_readSign_44 (by decide) ?_
      refine lv_icmp_eq (tgt := 67) hx hb dX4_readSign_46 (by decide) (fun hc => ?_) (fun hc => ?_)
      · have hf := tc_pos hc hf
        refine lv_iconst (v := (3 : Int32)) hx hb dX4_readSign_67 (by decide) ?_
        refine lv_goto (tgt := 72) hx hb dX4_readSign_68 (by decide) ?_
        exact tX4_readSignE_72 X z SB (si SR 6 (ia SB 0 (gi SR 2))) (3 : Int32) hf _ _ _ hP hD hS (lv_sub hl [0] rfl)
      · have hf := tc_neg hc hf
        refine lv_aload_n hx hb dX4_readSign_49 rfl (lv_at hl 0 rfl) ?_
        refine va_get (D := (dC, dI)) (ci := 2) (v := .int (gi (si SR 6 (ia SB 0 (gi SR 2))) 6)) (C := RX2) (T := TX2) (N := 15) hx hb hts i_X2 hown hK hP 0 rfl rfl 6 (by decide) (hts _ wf_X4_65) (fun _ h9 => h9) rfl dX4_readSign_50 ?_
        refine lv_bipush (v := (62 : Int32)) hx hb dX4_readSign_53 (by decide) ?_
        refine lv_icmp_eq (tgt := 67) hx hb dX4_readSign_55 (by decide) (fun hc => ?_) (fun hc => ?_)
        · have hf := tc_pos hc hf
          refine lv_iconst (v := (3 : Int32)) hx hb dX4_readSign_67 (by decide) ?_
          refine lv_goto (tgt := 72) hx hb dX4_readSign_68 (by decide) ?_
          exact tX4_readSignE_72 X z SB (si SR 6 (ia SB 0 (gi SR 2))) (3 : Int32) hf _ _ _ hP hD hS (lv_sub hl [0] rfl)
        · have hf := tc_neg hc hf
          refine lv_aload_n hx hb dX4_readSign_58 rfl (lv_at hl 0 rfl) ?_
          refine va_get (D := (dC, dI)) (ci := 2) (v := .int (gi (si SR 6 (ia SB 0 (gi SR 2))) 6)) (C := RX2) (T := TX2) (N := 15) hx hb hts i_X2 hown hK hP 0 rfl rfl 6 (by decide) (hts _ wf_X4_65) (fun _ h9 => h9) rfl dX4_readSign_59 ?_
          refine lv_bipush (v := (61 : Int32)) hx hb dX4_readSign_62 (by decide) ?_
          refine lv_icmp_ne (tgt := 71) hx hb dX4_readSign_64 (by decide) (fun hc => ?_) (fun hc => ?_)
          · have hf := tc_neg hc hf
            refine lv_iconst (v := (4 : Int32)) hx hb dX4_readSign_71 (by decide) ?_
            exact tX4_readSignE_72 X z SB (si SR 6 (ia SB 0 (gi SR 2))) (4 : Int32) hf _ _ _ hP hD hS (lv_sub hl [0] rfl)
          · have hf := tc_pos hc hf
            refine lv_iconst (v := (3 : Int32)) hx hb dX4_readSign_67 (by decide) ?_
            refine lv_goto (tgt := 72) hx hb dX4_readSign_68 (by decide) ?_
            exact tX4_readSignE_72 X z SB (si SR 6 (ia SB 0 (gi SR 2))) (3 : Int32) hf _ _ _ hP hD hS (lv_sub hl [0] rfl)
  · have hf := tc_neg hc hf
    refine lv_aload_n hx hb dX4_readSign_11 rfl (lv_at hl 0 rfl) ?_
    refine lv_iconst (v := (0 : Int32)) hx hb dX4_readSign_12 (by decide) ?_
    refine va_put (D := (dC, dI)) (ci := 2) (v := .int ((0 : Int32))) (ty := .int) (C := RX2) (T := TX2) (N := 15) hx hb hts i_X2 tyX2 tyX2_ok nmX2 hown hK hP hD hS 0 rfl rfl 4 (by decide) (hts _ wf_X4_55) (fun _ h9 => h9) rfl (tyX2_ok 4 (by decide)) rfl rfl (Nat.le_of_ble_eq_true rfl) dX4_readSign_13 (fun H locs hP hD hS => ?_)
    have hP := tc_eP (pw2_B_0_4 ca qR qB (.ref (qB 0)) (rR11) (rR12) SR SB (0 : Int32)) hP
    have hD := tc_eD (pw2_B_0_4 ca qR qB (.ref (qB 0)) (rR11) (rR12) SR SB (0 : Int32)) hD
    obtain rfl := Option.some.inj hf
    exact tc_rv X hP hD hS rfl dX4_readSign_16 rfl
theorem pw8_B_0_3 (ca : Nat → ClassId) (q0 q1 : Nat → Nat) (r0_0 r0_11 : Value) (S0 S1 : ms_T) (v : Int32) : (w8 ca q0 r0_0 r0_11 S0 ++ wLB ca q1 S1 : va_W).set 0 (q0 0, .inr (8, List.set (r0_0 :: .int (gi S0 1) :: .int (gi S0 2) :: .int (gi S0 3) :: .int (gi S0 4) :: .int (gi S0 5) :: .int (gi S0 6) :: .int (gi S0 7) :: .long (gl S0 8) :: .int (gi S0 9) :: .int (gi S0 10) :: r0_11 :: .int (gi S0 12) :: []) 3 (.int v))) = w8 ca q0 r0_0 r0_11 (si S0 3 v) ++ wLB ca q1 S1 := rfl
theorem pw8_B_0_5 (ca : Nat → ClassId) (q0 q1 : Nat → Nat) (r0_0 r0_11 : Value) (S0 S1 : ms_T) (v : Int32) : (w8 ca q0 r0_0 r0_11 S0 ++ wLB ca q1 S1 : va_W).set 0 (q0 0, .inr (8, List.set (r0_0 :: .int (gi S0 1) :: .int (gi S0 2) :: .int (gi S0 3) :: .int (gi S0 4) :: .int (gi S0 5) :: .int (gi S0 6) :: .int (gi S0 7) :: .long (gl S0 8) :: .int (gi S0 9) :: .int (gi S0 10) :: r0_11 :: .int (gi S0 12) :: []) 5 (.int v))) = w8 ca q0 r0_0 r0_11 (si S0 5 v) ++ wLB ca q1 S1 := rfl
theorem pw8_B_0_7 (ca : Nat → ClassId) (q0 q1 : Nat → Nat) (r0_0 r0_11 : Value) (S0 S1 : ms_T) (v : Int32) : (w8 ca q0 r0_0 r0_11 S0 ++ wLB ca q1 S1 : va_W).set 0 (q0 0, .inr (8, List.set (r0_0 :: .int (gi S0 1) :: .int (gi S0 2) :: .int (gi S0 3) :: .int (gi S0 4) :: .int (gi S0 5) :: .int (gi S0 6) :: .int (gi S0 7) :: .long (gl S0 8) :: .int (gi S0 9) :: .int (gi S0 10) :: r0_11 :: .int (gi S0 12) :: []) 7 (.int v))) = w8 ca q0 r0_0 r0_11 (si S0 7 v) ++ wLB ca q1 S1 := rfl
theorem pw8_B_0_8 (ca : Nat → ClassId) (q0 q1 : Nat → Nat) (r0_0 r0_11 : Value) (S0 S1 : ms_T) (v : Int64) : (w8 ca q0 r0_0 r0_11 S0 ++ wLB ca q1 S1 : va_W).set 0 (q0 0, .inr (8, List.set (r0_0 :: .int (gi S0 1) :: .int (gi S0 2) :: .int (gi S0 3) :: .int (gi S0 4) :: .int (gi S0 5) :: .int (gi S0 6) :: .int (gi S0 7) :: .long (gl S0 8) :: .int (gi S0 9) :: .int (gi S0 10) :: r0_11 :: .int (gi S0 12) :: []) 8 (.long v))) = w8 ca q0 r0_0 r0_11 (sl S0 8 v) ++ wLB ca q1 S1 := rfl
def fX4_advanceT_256  (SB : ms_T)  (SR : ms_T) : Option (ms_T) :=
  if (gi SR 2) ≤ (gi SR 3) then
    (fX4_readSignT SR SB).bind fun z1 =>
    some (z1)
  else
    if (4 : Int32) < ((gi SR 2) - (gi SR 3)) then
      some (si SR 4 (4 : Int32))
    else
      some (si SR 4 (2 : Int32))
def fX4_advanceT_180  (SB : ms_T)  : Nat → ms_T → Option (ms_T)
  | 0, _ => none
  | n + 1, SR =>
    if (gi SR 1) ≤ (gi SR 2) then
      fX4_advanceT_256 SB SR
    else
      if inb (gi SR 2) 900 = true then
        if (ia SB 0 (gi SR 2)) < (48 : Int32) then
          fX4_advanceT_256 SB SR
        else
          if inb (gi SR 2) 900 = true then
            if (57 : Int32) < (ia SB 0 (gi SR 2)) then
              fX4_advanceT_256 SB SR
            else
              if inb (gi SR 2) 900 = true then
                fX4_advanceT_180 SB n (si (si SR 5 (((gi SR 5) * (10 : Int32)) + ((ia SB 0 (gi SR 2)) - (48 : Int32)))) 2 ((gi (si SR 5 (((gi SR 5) * (10 : Int32)) + ((ia SB 0 (gi SR 2)) - (48 : Int32)))) 2) + (1 : Int32)))
              else none
          else none
      else none
def fX4_advanceT_155  (SB : ms_T)  (SR : ms_T) : Option (ms_T) :=
  if (gi SR 2) ≤ (gi SR 3) then
    fX4_advanceT_180 SB FU SR
  else
    (fX4_wordNumberT (si SR 4 (1 : Int32)) SB).bind fun z5 =>
    some (si (si SR 4 (1 : Int32)) 7 z5)
def fX4_advanceT_75  (SB : ms_T)  : Nat → ms_T → Option (ms_T)
  | 0, _ => none
  | n + 1, SR =>
    if (gi SR 1) ≤ (gi SR 2) then
      fX4_advanceT_155 SB SR
    else
      if inb (gi SR 2) 900 = true then
        if (ia SB 0 (gi SR 2)) < (97 : Int32) then
          fX4_advanceT_155 SB SR
        else
          if inb (gi SR 2) 900 = true then
            if (122 : Int32) < (ia SB 0 (gi SR 2)) then
              fX4_advanceT_155 SB SR
            else
              if inb (gi SR 2) 900 = true then
                fX4_advanceT_75 SB n (si (sl SR 8 (((gl SR 8) * (32 : Int64)) + ((((ia SB 0 (gi SR 2)) - (97 : Int32)) + (1 : Int32)).toInt64))) 2 ((gi (sl SR 8 (((gl SR 8) * (32 : Int64)) + ((((ia SB 0 (gi SR 2)) - (97 : Int32)) + (1 : Int32)).toInt64))) 2) + (1 : Int32)))
              else none
          else none
      else none
def fX4_advanceT_52  (SB : ms_T)  (SR : ms_T) : Option (ms_T) :=
  fX4_advanceT_75 SB FU (sl (si (si (si SR 3 (gi SR 2)) 5 (0 : Int32)) 7 (-1 : Int32)) 8 (0 : Int64))
def fX4_advanceT_0  (SB : ms_T)  : Nat → ms_T → Option (ms_T)
  | 0, _ => none
  | n + 1, SR =>
    if (gi SR 1) ≤ (gi SR 2) then
      fX4_advanceT_52 SB SR
    else
      if inb (gi SR 2) 900 = true then
        if (ia SB 0 (gi SR 2)) = (32 : Int32) then
          fX4_advanceT_0 SB n (si SR 2 ((gi SR 2) + (1 : Int32)))
        else
          if inb (gi SR 2) 900 = true then
            if (ia SB 0 (gi SR 2)) = (10 : Int32) then
              fX4_advanceT_0 SB n (si SR 2 ((gi SR 2) + (1 : Int32)))
            else
              fX4_advanceT_52 SB SR
          else none
      else none
def fX4_advanceT  (SR : ms_T) (SB : ms_T)  : Option (ms_T) :=
  fX4_advanceT_0 SB FU SR
abbrev rmX4_advanceT : Room := { frames := 9, cells := 0, slots := 0, locals := 425 }
theorem okX4_advance : tc_ok yX4_advance cX4_advance 1 none 0 := ⟨wc_X4_advance, wn_X4, by decide, by decide, by decide +kernel⟩
set_option maxRecDepth 20000 in
theorem tX4_advanceT_256 {qR : Nat → Nat} {qB : Nat → Nat} {rR11 : Value} (X : tc_X dC dI ca A RX4 cX4_advance 1 none p s m args meth c) (z : ms_T)  (SB : ms_T)   : ∀ (SR : ms_T), fX4_advanceT_256 SB SR = some z → ∀ (H : Heap) (locs : List Loc) (ls : Array Slot), va_P (dC, dI) classes (w8 ca qR (.ref (qB 0)) (rR11) SR ++ wLB ca qB SB) H → va_D A (w8 ca qR (.ref (qB 0)) (rR11) SR ++ wLB ca qB SB) → va_S A s.heap H locs → lv_has ls 1 [(0, .ref (qR 0))] → W p l e rmX4_advanceT s m args below meth c H locs 0 0 (MQ below (tc_QV dC dI ca A (w8 ca qR (.ref (qB 0)) (rR11) z ++ wLB ca qB SB)) args s 0 0 A) (F0 m 256 ls []) := by
  obtain ⟨hx, hb, hr, hml, hown, hts, hlk, hK, hA, hG⟩ := id X
  intro SR hf H locs ls hP hD hS hl
  unfold fX4_advanceT_256 at hf
  refine lv_aload_n hx hb dX4_advance_256 rfl (lv_at hl 0 rfl) ?_
  refine va_get (D := (dC, dI)) (ci := 8) (v := .int (gi SR 2)) (C := RX8) (T := TX8) (N := 13) hx hb hts i_X8 hown hK hP 0 rfl rfl 2 (by decide) (hts _ wf_X4_28) (fun _ h9 => h9) rfl dX4_advance_257 ?_
  refine lv_aload_n hx hb dX4_advance_260 rfl (lv_at hl 0 rfl) ?_
  refine va_get (D := (dC, dI)) (ci := 8) (v := .int (gi SR 3)) (C := RX8) (T := TX8) (N := 13) hx hb hts i_X8 hown hK hP 0 rfl rfl 3 (by decide) (hts _ wf_X4_40) (fun _ h9 => h9) rfl dX4_advance_261 ?_
  refine lv_icmp_le (tgt := 290) hx hb dX4_advance_264 (by decide) (fun hc => ?_) (fun hc => ?_)
  · have hf := tc_pos hc hf
    refine lv_aload_n hx hb dX4_advance_290 rfl (lv_at hl 0 rfl) ?_
    obtain ⟨z1, hg, hf⟩ := tc_bi hf
    refine tc_vVs (As := []) (rest := []) (b := qR 0) X hP hD hS (mX4_readSignT hg) okX4_readSign wl_X4_62 wi_X4_readSign ws_X8_X4_readSign_X4_readSign ⟨rfl, rfl, Nat.le_of_ble_eq_true rfl, Nat.le_of_ble_eq_true rfl⟩ 8 0 rfl rfl rfl hl.1 (Nat.le_of_ble_eq_true rfl) dX4_advance_291 (fun H locs hP hD hS => ?_)
    obtain rfl := Option.some.inj hf
    exact tc_rv X hP hD hS rfl dX4_advance_294 rfl
  · have hf := tc_neg hc hf
    refine lv_aload_n hx hb dX4_advance_267 rfl (lv_at hl 0 rfl) ?_
    refine lv_aload_n hx hb dX4_advance_268 rfl (lv_at hl 0 rfl) ?_
    refine va_get (D := (dC, dI)) (ci := 8) (v := .int (gi SR 2)) (C := RX8) (T := TX8) (N := 13) hx hb hts i_X8 hown hK hP 0 rfl rfl 2 (by decide) (hts _ wf_X4_28) (fun _ h9 => h9) rfl dX4_advance_269 ?_
    refine lv_aload_n hx hb dX4_advance_272 rfl (lv_at hl 0 rfl) ?_
    refine va_get (D := (dC, dI)) (ci := 8) (v := .int (gi SR 3)) (C := RX8) (T := TX8) (N := 13) hx hb hts i_X8 hown hK hP 0 rfl rfl 3 (by decide) (hts _ wf_X4_40) (fun _ h9 => h9) rfl dX4_advance_273 ?_
    refine lv_isub hx hb dX4_advance_276 ?_
    refine lv_iconst (v := (4 : Int32)) hx hb dX4_advance_277 (by decide) ?_
    refine lv_icmp_gt (tgt := 285) hx hb dX4_advance_278 (by decide) (fun hc => ?_) (fun hc => ?_)
    · have hf := tc_pos hc hf
      refine lv_iconst (v := (4 : Int32)) hx hb dX4_advance_285 (by decide) ?_
      refine va_put (D := (dC, dI)) (ci := 8) (v := .int ((4 : Int32))) (ty := .int) (C := RX8) (T := TX8) (N := 13) hx hb hts i_X8 tyX8 tyX8_ok nmX8 hown hK hP hD hS 0 rfl rfl 4 (by decide) (hts _ wf_X4_55) (fun _ h9 => h9) rfl (tyX8_ok 4 (by decide)) rfl rfl (Nat.le_of_ble_eq_true rfl) dX4_advance_286 (fun H locs hP hD hS => ?_)
      have hP := tc_eP (pw8_B_0_4 ca qR qB (.ref (qB 0)) (rR11) SR SB (4 : Int32)) hP
      have hD := tc_eD (pw8_B_0_4 ca qR qB (.ref (qB 0)) (rR11) SR SB (4 : Int32)) hD
      obtain rfl := Option.some.inj hf
      exact tc_rv X hP hD hS rfl dX4_advance_289 rfl
    · have hf := tc_neg hc hf
      refine lv_iconst (v := (2 : Int32)) hx hb dX4_advance_281 (by decide) ?_
      refine lv_goto (tgt := 286) hx hb dX4_advance_282 (by decide) ?_
      refine va_put (D := (dC, dI)) (ci := 8) (v := .int ((2 : Int32))) (ty := .int) (C := RX8) (T := TX8) (N := 13) hx hb hts i_X8 tyX8 tyX8_ok nmX8 hown hK hP hD hS 0 rfl rfl 4 (by decide) (hts _ wf_X4_55) (fun _ h9 => h9) rfl (tyX8_ok 4 (by decide)) rfl rfl (Nat.le_of_ble_eq_true rfl) dX4_advance_286 (fun H locs hP hD hS => ?_)
      have hP := tc_eP (pw8_B_0_4 ca qR qB (.ref (qB 0)) (rR11) SR SB (2 : Int32)) hP
      have hD := tc_eD (pw8_B_0_4 ca qR qB (.ref (qB 0)) (rR11) SR SB (2 : Int32)) hD
      obtain rfl := Option.some.inj hf
      exact tc_rv X hP hD hS rfl dX4_advance_289 rfl
set_option maxRecDepth 20000 in
theorem tX4_advanceT_180 {qR : Nat → Nat} {qB : Nat → Nat} {rR11 : Value} (X : tc_X dC dI ca A RX4 cX4_advance 1 none p s m args meth c) (z : ms_T)  (SB : ms_T)   : ∀ n : Nat, ∀ (SR : ms_T), fX4_advanceT_180 SB n SR = some z → ∀ (H : Heap) (locs : List Loc) (ls : Array Slot), va_P (dC, dI) classes (w8 ca qR (.ref (qB 0)) (rR11) SR ++ wLB ca qB SB) H → va_D A (w8 ca qR (.ref (qB 0)) (rR11) SR ++ wLB ca qB SB) → va_S A s.heap H locs → lv_has ls 1 [(0, .ref (qR 0))] → W p l e rmX4_advanceT s m args below meth c H locs 0 0 (MQ below (tc_QV dC dI ca A (w8 ca qR (.ref (qB 0)) (rR11) z ++ wLB ca qB SB)) args s 0 0 A) (F0 m 180 ls []) := by
  obtain ⟨hx, hb, hr, hml, hown, hts, hlk, hK, hA, hG⟩ := id X
  intro n
  induction n with
  | zero => intro SR hf; exact absurd (show none = some z from hf) (fun h => by cases h)
  | succ n ih =>
    intro SR hf H locs ls hP hD hS hl
    rw [fX4_advanceT_180] at hf
    refine lv_aload_n hx hb dX4_advance_180 rfl (lv_at hl 0 rfl) ?_
    refine va_get (D := (dC, dI)) (ci := 8) (v := .int (gi SR 2)) (C := RX8) (T := TX8) (N := 13) hx hb hts i_X8 hown hK hP 0 rfl rfl 2 (by decide) (hts _ wf_X4_28) (fun _ h9 => h9) rfl dX4_advance_181 ?_
    refine lv_aload_n hx hb dX4_advance_184 rfl (lv_at hl 0 rfl) ?_
    refine va_get (D := (dC, dI)) (ci := 8) (v := .int (gi SR 1)) (C := RX8) (T := TX8) (N := 13) hx hb hts i_X8 hown hK hP 0 rfl rfl 1 (by decide) (hts _ wf_X4_24) (fun _ h9 => h9) rfl dX4_advance_185 ?_
    refine lv_icmp_ge (tgt := 256) hx hb dX4_advance_188 (by decide) (fun hc => ?_) (fun hc => ?_)
    · have hf := tc_pos hc hf
      exact tX4_advanceT_256 X z SB SR hf _ _ _ hP hD hS (lv_sub hl [0] rfl)
    · have hf := tc_neg hc hf
      refine lv_aload_n hx hb dX4_advance_191 rfl (lv_at hl 0 rfl) ?_
      refine va_get (D := (dC, dI)) (ci := 8) (v := .ref (qB 0)) (C := RX8) (T := TX8) (N := 13) hx hb hts i_X8 hown hK hP 0 rfl rfl 0 (by decide) (hts _ wf_X4_9) (fun _ h9 => h9) rfl dX4_advance_192 ?_
      refine lv_aload_n hx hb dX4_advance_195 rfl (lv_at hl 0 rfl) ?_
      refine va_get (D := (dC, dI)) (ci := 8) (v := .int (gi SR 2)) (C := RX8) (T := TX8) (N := 13) hx hb hts i_X8 hown hK hP 0 rfl rfl 2 (by decide) (hts _ wf_X4_28) (fun _ h9 => h9) rfl dX4_advance_196 ?_
      obtain ⟨hi2, hf⟩ := tc_in hf
      refine va_bald hx hb hK hP 1 0 rfl rfl hi2 dX4_advance_199 ?_
      refine lv_bipush (v := (48 : Int32)) hx hb dX4_advance_200 (by decide) ?_
      refine lv_icmp_lt (tgt := 256) hx hb dX4_advance_202 (by decide) (fun hc => ?_) (fun hc => ?_)
      · have hf := tc_pos hc hf
        exact tX4_advanceT_256 X z SB SR hf _ _ _ hP hD hS (lv_sub hl [0] rfl)
      · have hf := tc_neg hc hf
        refine lv_aload_n hx hb dX4_advance_205 rfl (lv_at hl 0 rfl) ?_
        refine va_get (D := (dC, dI)) (ci := 8) (v := .ref (qB 0)) (C := RX8) (T := TX8) (N := 13) hx hb hts i_X8 hown hK hP 0 rfl rfl 0 (by decide) (hts _ wf_X4_9) (fun _ h9 => h9) rfl dX4_advance_206 ?_
        refine lv_aload_n hx hb dX4_advance_209 rfl (lv_at hl 0 rfl) ?_
        refine va_get (D := (dC, dI)) (ci := 8) (v := .int (gi SR 2)) (C := RX8) (T := TX8) (N := 13) hx hb hts i_X8 hown hK hP 0 rfl rfl 2 (by decide) (hts _ wf_X4_28) (fun _ h9 => h9) rfl dX4_advance_210 ?_
        obtain ⟨hi3, hf⟩ := tc_in hf
        refine va_bald hx hb hK hP 1 0 rfl rfl hi3 dX4_advance_213 ?_
        refine lv_bipush (v := (57 : Int32)) hx hb dX4_advance_214 (by decide) ?_
        refine lv_icmp_gt (tgt := 256) hx hb dX4_advance_216 (by decide) (fun hc => ?_) (fun hc => ?_)
        · have hf := tc_pos hc hf
          exact tX4_advanceT_256 X z SB SR hf _ _ _ hP hD hS (lv_sub hl [0] rfl)
        · have hf := tc_neg hc hf
          refine lv_aload_n hx hb dX4_advance_219 rfl (lv_at hl 0 rfl) ?_
          refine lv_aload_n hx hb dX4_advance_220 rfl (lv_at hl 0 rfl) ?_
          refine va_get (D := (dC, dI)) (ci := 8) (v := .int (gi SR 5)) (C := RX8) (T := TX8) (N := 13) hx hb hts i_X8 hown hK hP 0 rfl rfl 5 (by decide) (hts _ wf_X4_43) (fun _ h9 => h9) rfl dX4_advance_221 ?_
          refine lv_bipush (v := (10 : Int32)) hx hb dX4_advance_224 (by decide) ?_
          refine lv_imul hx hb dX4_advance_226 ?_
          refine lv_aload_n hx hb dX4_advance_227 rfl (lv_at hl 0 rfl) ?_
          refine va_get (D := (dC, dI)) (ci := 8) (v := .ref (qB 0)) (C := RX8) (T := TX8) (N := 13) hx hb hts i_X8 hown hK hP 0 rfl rfl 0 (by decide) (hts _ wf_X4_9) (fun _ h9 => h9) rfl dX4_advance_228 ?_
          refine lv_aload_n hx hb dX4_advance_231 rfl (lv_at hl 0 rfl) ?_
          refine va_get (D := (dC, dI)) (ci := 8) (v := .int (gi SR 2)) (C := RX8) (T := TX8) (N := 13) hx hb hts i_X8 hown hK hP 0 rfl rfl 2 (by decide) (hts _ wf_X4_28) (fun _ h9 => h9) rfl dX4_advance_232 ?_
          obtain ⟨hi4, hf⟩ := tc_in hf
          refine va_bald hx hb hK hP 1 0 rfl rfl hi4 dX4_advance_235 ?_
          refine lv_bipush (v := (48 : Int32)) hx hb dX4_advance_236 (by decide) ?_
          refine lv_isub hx hb dX4_advance_238 ?_
          refine lv_iadd hx hb dX4_advance_239 ?_
          refine va_put (D := (dC, dI)) (ci := 8) (v := .int (((gi SR 5) * (10 : Int32)) + ((ia SB 0 (gi SR 2)) - (48 : Int32)))) (ty := .int) (C := RX8) (T := TX8) (N := 13) hx hb hts i_X8 tyX8 tyX8_ok nmX8 hown hK hP hD hS 0 rfl rfl 5 (by decide) (hts _ wf_X4_43) (fun _ h9 => h9) rfl (tyX8_ok 5 (by decide)) rfl rfl (Nat.le_of_ble_eq_true rfl) dX4_advance_240 (fun H locs hP hD hS => ?_)
          have hP := tc_eP (pw8_B_0_5 ca qR qB (.ref (qB 0)) (rR11) SR SB (((gi SR 5) * (10 : Int32)) + ((ia SB 0 (gi SR 2)) - (48 : Int32)))) hP
          have hD := tc_eD (pw8_B_0_5 ca qR qB (.ref (qB 0)) (rR11) SR SB (((gi SR 5) * (10 : Int32)) + ((ia SB 0 (gi SR 2)) - (48 : Int32)))) hD
          refine lv_aload_n hx hb dX4_advance_243 rfl (lv_at hl 0 rfl) ?_
          refine lv_dup hx hb dX4_advance_244 rfl ?_
          refine va_get (D := (dC, dI)) (ci := 8) (v := .int (gi (si SR 5 (((gi SR 5) * (10 : Int32)) + ((ia SB 0 (gi SR 2)) - (48 : Int32)))) 2)) (C := RX8) (T := TX8) (N := 13) hx hb hts i_X8 hown hK hP 0 rfl rfl 2 (by decide) (hts _ wf_X4_28) (fun _ h9 => h9) rfl dX4_advance_245 ?_
          refine lv_iconst (v := (1 : Int32)) hx hb dX4_advance_248 (by decide) ?_
          refine lv_iadd hx hb dX4_advance_249 ?_
          refine va_put (D := (dC, dI)) (ci := 8) (v := .int ((gi (si SR 5 (((gi SR 5) * (10 : Int32)) + ((ia SB 0 (gi SR 2)) - (48 : Int32)))) 2) + (1 : Int32))) (ty := .int) (C := RX8) (T := TX8) (N := 13) hx hb hts i_X8 tyX8 tyX8_ok nmX8 hown hK hP hD hS 0 rfl rfl 2 (by decide) (hts _ wf_X4_28) (fun _ h9 => h9) rfl (tyX8_ok 2 (by decide)) rfl rfl (Nat.le_of_ble_eq_true rfl) dX4_advance_250 (fun H locs hP hD hS => ?_)
          have hP := tc_eP (pw8_B_0_2 ca qR qB (.ref (qB 0)) (rR11) (si SR 5 (((gi SR 5) * (10 : Int32)) + ((ia SB 0 (gi SR 2)) - (48 : Int32)))) SB ((gi (si SR 5 (((gi SR 5) * (10 : Int32)) + ((ia SB 0 (gi SR 2)) - (48 : Int32)))) 2) + (1 : Int32))) hP
          have hD := tc_eD (pw8_B_0_2 ca qR qB (.ref (qB 0)) (rR11) (si SR 5 (((gi SR 5) * (10 : Int32)) + ((ia SB 0 (gi SR 2)) - (48 : Int32)))) SB ((gi (si SR 5 (((gi SR 5) * (10 : Int32)) + ((ia SB 0 (gi SR 2)) - (48 : Int32)))) 2) + (1 : Int32))) hD
          refine lv_goto (tgt := 180) hx hb dX4_advance_253 (by decide) ?_
          exact ih (si (si SR 5 (((gi SR 5) * (10 : Int32)) + ((ia SB 0 (gi SR 2)) - (48 : Int32)))) 2 ((gi (si SR 5 (((gi SR 5) * (10 : Int32)) + ((ia SB 0 (gi SR 2)) - (48 : Int32)))) 2) + (1 : Int32))) hf _ _ _ hP hD hS (lv_sub hl [0] rfl)
set_option maxRecDepth 20000 in
theorem tX4_advanceT_155 {qR : Nat → Nat} {qB : Nat → Nat} {rR11 : Value} (X : tc_X dC dI ca A RX4 cX4_advance 1 none p s m args meth c) (z : ms_T)  (SB : ms_T)   : ∀ (SR : ms_T), fX4_advanceT_155 SB SR = some z → ∀ (H : Heap) (locs : List Loc) (ls : Array Slot), va_P (dC, dI) classes (w8 ca qR (.ref (qB 0)) (rR11) SR ++ wLB ca qB SB) H → va_D A (w8 ca qR (.ref (qB 0)) (rR11) SR ++ wLB ca qB SB) → va_S A s.heap H locs → lv_has ls 1 [(0, .ref (qR 0))] → W p l e rmX4_advanceT s m args below meth c H locs 0 0 (MQ below (tc_QV dC dI ca A (w8 ca qR (.ref (qB 0)) (rR11) z ++ wLB ca qB SB)) args s 0 0 A) (F0 m 155 ls []) := by
  obtain ⟨hx, hb, hr, hml, hown, hts, hlk, hK, hA, hG⟩ := id X
  intro SR hf H locs ls hP hD hS hl
  unfold fX4_advanceT_155 at hf
  refine lv_aload_n hx hb dX4_advance_155 rfl (lv_at hl 0 rfl) ?_
  refine va_get (D := (dC, dI)) (ci := 8) (v := .int (gi SR 2)) (C := RX8) (T := TX8) (N := 13) hx hb hts i_X8 hown hK hP 0 rfl rfl 2 (by decide) (hts _ wf_X4_28) (fun _ h9 => h9) rfl dX4_advance_156 ?_
  refine lv_aload_n hx hb dX4_advance_159 rfl (lv_at hl 0 rfl) ?_
  refine va_get (D := (dC, dI)) (ci := 8) (v := .int (gi SR 3)) (C := RX8) (T := TX8) (N := 13) hx hb hts i_X8 hown hK hP 0 rfl rfl 3 (by decide) (hts _ wf_X4_40) (fun _ h9 => h9) rfl dX4_advance_160 ?_
  refine lv_icmp_le (tgt := 180) hx hb dX4_advance_163 (by decide) (fun hc => ?_) (fun hc => ?_)
  · have hf := tc_pos hc hf
    exact tX4_advanceT_180 X z SB FU SR hf _ _ _ hP hD hS (lv_sub hl [0] rfl)
  · have hf := tc_neg hc hf
    refine lv_aload_n hx hb dX4_advance_166 rfl (lv_at hl 0 rfl) ?_
    refine lv_iconst (v := (1 : Int32)) hx hb dX4_advance_167 (by decide) ?_
    refine va_put (D := (dC, dI)) (ci := 8) (v := .int ((1 : Int32))) (ty := .int) (C := RX8) (T := TX8) (N := 13) hx hb hts i_X8 tyX8 tyX8_ok nmX8 hown hK hP hD hS 0 rfl rfl 4 (by decide) (hts _ wf_X4_55) (fun _ h9 => h9) rfl (tyX8_ok 4 (by decide)) rfl rfl (Nat.le_of_ble_eq_true rfl) dX4_advance_168 (fun H locs hP hD hS => ?_)
    have hP := tc_eP (pw8_B_0_4 ca qR qB (.ref (qB 0)) (rR11) SR SB (1 : Int32)) hP
    have hD := tc_eD (pw8_B_0_4 ca qR qB (.ref (qB 0)) (rR11) SR SB (1 : Int32)) hD
    refine lv_aload_n hx hb dX4_advance_171 rfl (lv_at hl 0 rfl) ?_
    refine lv_aload_n hx hb dX4_advance_172 rfl (lv_at hl 0 rfl) ?_
    obtain ⟨z5, hg, hf⟩ := tc_bi hf
    refine tc_iVs (As := []) (rest := [.ref (qR 0)]) (b := qR 0) X hP hD hS (mX4_wordNumberT hg) okX4_wordNumber wl_X4_58 wi_X4_wordNumber ws_X8_X4_wordNumber_X4_wordNumber ⟨rfl, rfl, Nat.le_of_ble_eq_true rfl, Nat.le_of_ble_eq_true rfl⟩ 8 0 rfl rfl rfl hl.1 (Nat.le_of_ble_eq_true rfl) dX4_advance_173 (fun H locs hP hD hS => ?_)
    refine va_put (D := (dC, dI)) (ci := 8) (v := .int (z5)) (ty := .int) (C := RX8) (T := TX8) (N := 13) hx hb hts i_X8 tyX8 tyX8_ok nmX8 hown hK hP hD hS 0 rfl rfl 7 (by decide) (hts _ wf_X4_46) (fun _ h9 => h9) rfl (tyX8_ok 7 (by decide)) rfl rfl (Nat.le_of_ble_eq_true rfl) dX4_advance_176 (fun H locs hP hD hS => ?_)
    have hP := tc_eP (pw8_B_0_7 ca qR qB (.ref (qB 0)) (rR11) (si SR 4 (1 : Int32)) SB z5) hP
    have hD := tc_eD (pw8_B_0_7 ca qR qB (.ref (qB 0)) (rR11) (si SR 4 (1 : Int32)) SB z5) hD
    obtain rfl := Option.some.inj hf
    exact tc_rv X hP hD hS rfl dX4_advance_179 rfl
set_option maxRecDepth 20000 in
theorem tX4_advanceT_75 {qR : Nat → Nat} {qB : Nat → Nat} {rR11 : Value} (X : tc_X dC dI ca A RX4 cX4_advance 1 none p s m args meth c) (z : ms_T)  (SB : ms_T)   : ∀ n : Nat, ∀ (SR : ms_T), fX4_advanceT_75 SB n SR = some z → ∀ (H : Heap) (locs : List Loc) (ls : Array Slot), va_P (dC, dI) classes (w8 ca qR (.ref (qB 0)) (rR11) SR ++ wLB ca qB SB) H → va_D A (w8 ca qR (.ref (qB 0)) (rR11) SR ++ wLB ca qB SB) → va_S A s.heap H locs → lv_has ls 1 [(0, .ref (qR 0))] → W p l e rmX4_advanceT s m args below meth c H locs 0 0 (MQ below (tc_QV dC dI ca A (w8 ca qR (.ref (qB 0)) (rR11) z ++ wLB ca qB SB)) args s 0 0 A) (F0 m 75 ls []) := by
  obtain ⟨hx, hb, hr, hml, hown, hts, hlk, hK, hA, hG⟩ := id X
  intro n
  induction n with
  | zero => intro SR hf; exact absurd (show none = some z from hf) (fun h => by cases h)
  | succ n ih =>
    intro SR hf H locs ls hP hD hS hl
    rw [fX4_advanceT_75] at hf
    refine lv_aload_n hx hb dX4_advance_75 rfl (lv_at hl 0 rfl) ?_
    refine va_get (D := (dC, dI)) (ci := 8) (v := .int (gi SR 2)) (C := RX8) (T := TX8) (N := 13) hx hb hts i_X8 hown hK hP 0 rfl rfl 2 (by decide) (hts _ wf_X4_28) (fun _ h9 => h9) rfl dX4_advance_76 ?_
    refine lv_aload_n hx hb dX4_advance_79 rfl (lv_at hl 0 rfl) ?_
    refine va_get (D := (dC, dI)) (ci := 8) (v := .int (gi SR 1)) (C := RX8) (T := TX8) (N := 13) hx hb hts i_X8 hown hK hP 0 rfl rfl 1 (by decide) (hts _ wf_X4_24) (fun _ h9 => h9) rfl dX4_advance_80 ?_
    refine lv_icmp_ge (tgt := 155) hx hb dX4_advance_83 (by decide) (fun hc => ?_) (fun hc => ?_)
    · have hf := tc_pos hc hf
      exact tX4_advanceT_155 X z SB SR hf _ _ _ hP hD hS (lv_sub hl [0] rfl)
    · have hf := tc_neg hc hf
      refine lv_aload_n hx hb dX4_advance_86 rfl (lv_at hl 0 rfl) ?_
      refine va_get (D := (dC, dI)) (ci := 8) (v := .ref (qB 0)) (C := RX8) (T := TX8) (N := 13) hx hb hts i_X8 hown hK hP 0 rfl rfl 0 (by decide) (hts _ wf_X4_9) (fun _ h9 => h9) rfl dX4_advance_87 ?_
      refine lv_aload_n hx hb dX4_advance_90 rfl (lv_at hl 0 rfl) ?_
      refine va_get (D := (dC, dI)) (ci := 8) (v := .int (gi SR 2)) (C := RX8) (T := TX8) (N := 13) hx hb hts i_X8 hown hK hP 0 rfl rfl 2 (by decide) (hts _ wf_X4_28) (fun _ h9 => h9) rfl dX4_advance_91 ?_
      obtain ⟨hi6, hf⟩ := tc_in hf
      refine va_bald hx hb hK hP 1 0 rfl rfl hi6 dX4_advance_94 ?_
      refine lv_bipush (v := (97 : Int32)) hx hb dX4_advance_95 (by decide) ?_
      refine lv_icmp_lt (tgt := 155) hx hb dX4_advance_97 (by decide) (fun hc => ?_) (fun hc => ?_)
      · have hf := tc_pos hc hf
        exact tX4_advanceT_155 X z SB SR hf _ _ _ hP hD hS (lv_sub hl [0] rfl)
      · have hf := tc_neg hc hf
        refine lv_aload_n hx hb dX4_advance_100 rfl (lv_at hl 0 rfl) ?_
        refine va_get (D := (dC, dI)) (ci := 8) (v := .ref (qB 0)) (C := RX8) (T := TX8) (N := 13) hx hb hts i_X8 hown hK hP 0 rfl rfl 0 (by decide) (hts _ wf_X4_9) (fun _ h9 => h9) rfl dX4_advance_101 ?_
        refine lv_aload_n hx hb dX4_advance_104 rfl (lv_at hl 0 rfl) ?_
        refine va_get (D := (dC, dI)) (ci := 8) (v := .int (gi SR 2)) (C := RX8) (T := TX8) (N := 13) hx hb hts i_X8 hown hK hP 0 rfl rfl 2 (by decide) (hts _ wf_X4_28) (fun _ h9 => h9) rfl dX4_advance_105 ?_
        obtain ⟨hi7, hf⟩ := tc_in hf
        refine va_bald hx hb hK hP 1 0 rfl rfl hi7 dX4_advance_108 ?_
        refine lv_bipush (v := (122 : Int32)) hx hb dX4_advance_109 (by decide) ?_
        refine lv_icmp_gt (tgt := 155) hx hb dX4_advance_111 (by decide) (fun hc => ?_) (fun hc => ?_)
        · have hf := tc_pos hc hf
          exact tX4_advanceT_155 X z SB SR hf _ _ _ hP hD hS (lv_sub hl [0] rfl)
        · have hf := tc_neg hc hf
          refine lv_aload_n hx hb dX4_advance_114 rfl (lv_at hl 0 rfl) ?_
          refine lv_aload_n hx hb dX4_advance_115 rfl (lv_at hl 0 rfl) ?_
          refine va_get (D := (dC, dI)) (ci := 8) (v := .long (gl SR 8)) (C := RX8) (T := TX8) (N := 13) hx hb hts i_X8 hown hK hP 0 rfl rfl 8 (by decide) (hts _ wf_X4_49) (fun _ h9 => h9) rfl dX4_advance_116 ?_
          refine lv_ldc2 (v := (32 : Int64)) hx hb hown (hts _ wk_X4_53) dX4_advance_119 ?_
          refine lv_lmul hx hb dX4_advance_122 ?_
          refine lv_aload_n hx hb dX4_advance_123 rfl (lv_at hl 0 rfl) ?_
          refine va_get (D := (dC, dI)) (ci := 8) (v := .ref (qB 0)) (C := RX8) (T := TX8) (N := 13) hx hb hts i_X8 hown hK hP 0 rfl rfl 0 (by decide) (hts _ wf_X4_9) (fun _ h9 => h9) rfl dX4_advance_124 ?_
          refine lv_aload_n hx hb dX4_advance_127 rfl (lv_at hl 0 rfl) ?_
          refine va_get (D := (dC, dI)) (ci := 8) (v := .int (gi SR 2)) (C := RX8) (T := TX8) (N := 13) hx hb hts i_X8 hown hK hP 0 rfl rfl 2 (by decide) (hts _ wf_X4_28) (fun _ h9 => h9) rfl dX4_advance_128 ?_
          obtain ⟨hi8, hf⟩ := tc_in hf
          refine va_bald hx hb hK hP 1 0 rfl rfl hi8 dX4_advance_131 ?_
          refine lv_bipush (v := (97 : Int32)) hx hb dX4_advance_132 (by decide) ?_
          refine lv_isub hx hb dX4_advance_134 ?_
          refine lv_iconst (v := (1 : Int32)) hx hb dX4_advance_135 (by decide) ?_
          refine lv_iadd hx hb dX4_advance_136 ?_
          refine lv_i2l (v := (((ia SB 0 (gi SR 2)) - (97 : Int32)) + (1 : Int32)).toInt64) hx hb dX4_advance_137 rfl ?_
          refine lv_ladd hx hb dX4_advance_138 ?_
          refine va_put (D := (dC, dI)) (ci := 8) (v := .long (((gl SR 8) * (32 : Int64)) + ((((ia SB 0 (gi SR 2)) - (97 : Int32)) + (1 : Int32)).toInt64))) (ty := .long) (C := RX8) (T := TX8) (N := 13) hx hb hts i_X8 tyX8 tyX8_ok nmX8 hown hK hP hD hS 0 rfl rfl 8 (by decide) (hts _ wf_X4_49) (fun _ h9 => h9) rfl (tyX8_ok 8 (by decide)) rfl rfl (Nat.le_of_ble_eq_true rfl) dX4_advance_139 (fun H locs hP hD hS => ?_)
          have hP := tc_eP (pw8_B_0_8 ca qR qB (.ref (qB 0)) (rR11) SR SB (((gl SR 8) * (32 : Int64)) + ((((ia SB 0 (gi SR 2)) - (97 : Int32)) + (1 : Int32)).toInt64))) hP
          have hD := tc_eD (pw8_B_0_8 ca qR qB (.ref (qB 0)) (rR11) SR SB (((gl SR 8) * (32 : Int64)) + ((((ia SB 0 (gi SR 2)) - (97 : Int32)) + (1 : Int32)).toInt64))) hD
          refine lv_aload_n hx hb dX4_advance_142 rfl (lv_at hl 0 rfl) ?_
          refine lv_dup hx hb dX4_advance_143 rfl ?_
          refine va_get (D := (dC, dI)) (ci := 8) (v := .int (gi (sl SR 8 (((gl SR 8) * (32 : Int64)) + ((((ia SB 0 (gi SR 2)) - (97 : Int32)) + (1 : Int32)).toInt64))) 2)) (C := RX8) (T := TX8) (N := 13) hx hb hts i_X8 hown hK hP 0 rfl rfl 2 (by decide) (hts _ wf_X4_28) (fun _ h9 => h9) rfl dX4_advance_144 ?_
          refine lv_iconst (v := (1 : Int32)) hx hb dX4_advance_147 (by decide) ?_
          refine lv_iadd hx hb dX4_advance_148 ?_
          refine va_put (D := (dC, dI)) (ci := 8) (v := .int ((gi (sl SR 8 (((gl SR 8) * (32 : Int64)) + ((((ia SB 0 (gi SR 2)) - (97 : Int32)) + (1 : Int32)).toInt64))) 2) + (1 : Int32))) (ty := .int) (C := RX8) (T := TX8) (N := 13) hx hb hts i_X8 tyX8 tyX8_ok nmX8 hown hK hP hD hS 0 rfl rfl 2 (by decide) (hts _ wf_X4_28) (fun _ h9 => h9) rfl (tyX8_ok 2 (by decide)) rfl rfl (Nat.le_of_ble_eq_true rfl) dX4_advance_149 (fun H locs hP hD hS => ?_)
          have hP := tc_eP (pw8_B_0_2 ca qR qB (.ref (qB 0)) (rR11) (sl SR 8 (((gl SR 8) * (32 : Int64)) + ((((ia SB 0 (gi SR 2)) - (97 : Int32)) + (1 : Int32)).toInt64))) SB ((gi (sl SR 8 (((gl SR 8) * (32 : Int64)) + ((((ia SB 0 (gi SR 2)) - (97 : Int32)) + (1 : Int32)).toInt64))) 2) + (1 : Int32))) hP
          have hD := tc_eD (pw8_B_0_2 ca qR qB (.ref (qB 0)) (rR11) (sl SR 8 (((gl SR 8) * (32 : Int64)) + ((((ia SB 0 (gi SR 2)) - (97 : Int32)) + (1 : Int32)).toInt64))) SB ((gi (sl SR 8 (((gl SR 8) * (32 : Int64)) + ((((ia SB 0 (gi SR 2)) - (97 : Int32)) + (1 : Int32)).toInt64))) 2) + (1 : Int32))) hD
          refine lv_goto (tgt := 75) hx hb dX4_advance_152 (by decide) ?_
          exact ih (si (sl SR 8 (((gl SR 8) * (32 : Int64)) + ((((ia SB 0 (gi SR 2)) - (97 : Int32)) + (1 : Int32)).toInt64))) 2 ((gi (sl SR 8 (((gl SR 8) * (32 : Int64)) + ((((ia SB 0 (gi SR 2)) - (97 : Int32)) + (1 : Int32)).toInt64))) 2) + (1 : Int32))) hf _ _ _ hP hD hS (lv_sub hl [0] rfl)
set_option maxRecDepth 20000 in
theorem tX4_advanceT_52 {qR : Nat → Nat} {qB : Nat → Nat} {rR11 : Value} (X : tc_X dC dI ca A RX4 cX4_advance 1 none p s m args meth c) (z : ms_T)  (SB : ms_T)   : ∀ (SR : ms_T), fX4_advanceT_52 SB SR = some z → ∀ (H : Heap) (locs : List Loc) (ls : Array Slot), va_P (dC, dI) classes (w8 ca qR (.ref (qB 0)) (rR11) SR ++ wLB ca qB SB) H → va_D A (w8 ca qR (.ref (qB 0)) (rR11) SR ++ wLB ca qB SB) → va_S A s.heap H locs → lv_has ls 1 [(0, .ref (qR 0))] → W p l e rmX4_advanceT s m args below meth c H locs 0 0 (MQ below (tc_QV dC dI ca A (w8 ca qR (.ref (qB 0)) (rR11) z ++ wLB ca qB SB)) args s 0 0 A) (F0 m 52 ls []) := by
  obtain ⟨hx, hb, hr, hml, hown, hts, hlk, hK, hA, hG⟩ := id X
  intro SR hf H locs ls hP hD hS hl
  unfold fX4_advanceT_52 at hf
  refine lv_aload_n hx hb dX4_advance_52 rfl (lv_at hl 0 rfl) ?_
  refine lv_aload_n hx hb dX4_advance_53 rfl (lv_at hl 0 rfl) ?_
  refine va_get (D := (dC, dI)) (ci := 8) (v := .int (gi SR 2)) (C := RX8) (T := TX8) (N := 13) hx hb hts i_X8 hown hK hP 0 rfl rfl 2 (by decide) (hts _ wf_X4_28) (fun _ h9 => h9) rfl dX4_advance_54 ?_
  refine va_put (D := (dC, dI)) (ci := 8) (v := .int (gi SR 2)) (ty := .int) (C := RX8) (T := TX8) (N := 13) hx hb hts i_X8 tyX8 tyX8_ok nmX8 hown hK hP hD hS 0 rfl rfl 3 (by decide) (hts _ wf_X4_40) (fun _ h9 => h9) rfl (tyX8_ok 3 (by decide)) rfl rfl (Nat.le_of_ble_eq_true rfl) dX4_advance_57 (fun H locs hP hD hS => ?_)
  have hP := tc_eP (pw8_B_0_3 ca qR qB (.ref (qB 0)) (rR11) SR SB (gi SR 2)) hP
  have hD := tc_eD (pw8_B_0_3 ca qR qB (.ref (qB 0)) (rR11) SR SB (gi SR 2)) hD
  refine lv_aload_n hx hb dX4_advance_60 rfl (lv_at hl 0 rfl) ?_
  refine lv_iconst (v := (0 : Int32)) hx hb dX4_advance_61 (by decide) ?_
  refine va_put (D := (dC, dI)) (ci := 8) (v := .int ((0 : Int32))) (ty := .int) (C := RX8) (T := TX8) (N := 13) hx hb hts i_X8 tyX8 tyX8_ok nmX8 hown hK hP hD hS 0 rfl rfl 5 (by decide) (hts _ wf_X4_43) (fun _ h9 => h9) rfl (tyX8_ok 5 (by decide)) rfl rfl (Nat.le_of_ble_eq_true rfl) dX4_advance_62 (fun H locs hP hD hS => ?_)
  have hP := tc_eP (pw8_B_0_5 ca qR qB (.ref (qB 0)) (rR11) (si SR 3 (gi SR 2)) SB (0 : Int32)) hP
  have hD := tc_eD (pw8_B_0_5 ca qR qB (.ref (qB 0)) (rR11) (si SR 3 (gi SR 2)) SB (0 : Int32)) hD
  refine lv_aload_n hx hb dX4_advance_65 rfl (lv_at hl 0 rfl) ?_
  refine lv_iconst (v := (-1 : Int32)) hx hb dX4_advance_66 (by decide) ?_
  refine va_put (D := (dC, dI)) (ci := 8) (v := .int ((-1 : Int32))) (ty := .int) (C := RX8) (T := TX8) (N := 13) hx hb hts i_X8 tyX8 tyX8_ok nmX8 hown hK hP hD hS 0 rfl rfl 7 (by decide) (hts _ wf_X4_46) (fun _ h9 => h9) rfl (tyX8_ok 7 (by decide)) rfl rfl (Nat.le_of_ble_eq_true rfl) dX4_advance_67 (fun H locs hP hD hS => ?_)
  have hP := tc_eP (pw8_B_0_7 ca qR qB (.ref (qB 0)) (rR11) (si (si SR 3 (gi SR 2)) 5 (0 : Int32)) SB (-1 : Int32)) hP
  have hD := tc_eD (pw8_B_0_7 ca qR qB (.ref (qB 0)) (rR11) (si (si SR 3 (gi SR 2)) 5 (0 : Int32)) SB (-1 : Int32)) hD
  refine lv_aload_n hx hb dX4_advance_70 rfl (lv_at hl 0 rfl) ?_
  refine lv_lconst (v := (0 : Int64)) hx hb dX4_advance_71 (by decide) ?_
  refine va_put (D := (dC, dI)) (ci := 8) (v := .long ((0 : Int64))) (ty := .long) (C := RX8) (T := TX8) (N := 13) hx hb hts i_X8 tyX8 tyX8_ok nmX8 hown hK hP hD hS 0 rfl rfl 8 (by decide) (hts _ wf_X4_49) (fun _ h9 => h9) rfl (tyX8_ok 8 (by decide)) rfl rfl (Nat.le_of_ble_eq_true rfl) dX4_advance_72 (fun H locs hP hD hS => ?_)
  have hP := tc_eP (pw8_B_0_8 ca qR qB (.ref (qB 0)) (rR11) (si (si (si SR 3 (gi SR 2)) 5 (0 : Int32)) 7 (-1 : Int32)) SB (0 : Int64)) hP
  have hD := tc_eD (pw8_B_0_8 ca qR qB (.ref (qB 0)) (rR11) (si (si (si SR 3 (gi SR 2)) 5 (0 : Int32)) 7 (-1 : Int32)) SB (0 : Int64)) hD
  exact tX4_advanceT_75 X z SB FU (sl (si (si (si SR 3 (gi SR 2)) 5 (0 : Int32)) 7 (-1 : Int32)) 8 (0 : Int64)) hf _ _ _ hP hD hS (lv_sub hl [0] rfl)
set_option maxRecDepth 20000 in
theorem tX4_advanceT_0 {qR : Nat → Nat} {qB : Nat → Nat} {rR11 : Value} (X : tc_X dC dI ca A RX4 cX4_advance 1 none p s m args meth c) (z : ms_T)  (SB : ms_T)   : ∀ n : Nat, ∀ (SR : ms_T), fX4_advanceT_0 SB n SR = some z → ∀ (H : Heap) (locs : List Loc) (ls : Array Slot), va_P (dC, dI) classes (w8 ca qR (.ref (qB 0)) (rR11) SR ++ wLB ca qB SB) H → va_D A (w8 ca qR (.ref (qB 0)) (rR11) SR ++ wLB ca qB SB) → va_S A s.heap H locs → lv_has ls 1 [(0, .ref (qR 0))] → W p l e rmX4_advanceT s m args below meth c H locs 0 0 (MQ below (tc_QV dC dI ca A (w8 ca qR (.ref (qB 0)) (rR11) z ++ wLB ca qB SB)) args s 0 0 A) (F0 m 0 ls []) := by
  obtain ⟨hx, hb, hr, hml, hown, hts, hlk, hK, hA, hG⟩ := id X
  intro n
  induction n with
  | zero => intro SR hf; exact absurd (show none = some z from hf) (fun h => by cases h)
  | succ n ih =>
    intro SR hf H locs ls hP hD hS hl
    rw [fX4_advanceT_0] at hf
    refine lv_aload_n hx hb dX4_advance_0 rfl (lv_at hl 0 rfl) ?_
    refine va_get (D := (dC, dI)) (ci := 8) (v := .int (gi SR 2)) (C := RX8) (T := TX8) (N := 13) hx hb hts i_X8 hown hK hP 0 rfl rfl 2 (by decide) (hts _ wf_X4_28) (fun _ h9 => h9) rfl dX4_advance_1 ?_
    refine lv_aload_n hx hb dX4_advance_4 rfl (lv_at hl 0 rfl) ?_
    refine va_get (D := (dC, dI)) (ci := 8) (v := .int (gi SR 1)) (C := RX8) (T := TX8) (N := 13) hx hb hts i_X8 hown hK hP 0 rfl rfl 1 (by decide) (hts _ wf_X4_24) (fun _ h9 => h9) rfl dX4_advance_5 ?_
    refine lv_icmp_ge (tgt := 52) hx hb dX4_advance_8 (by decide) (fun hc => ?_) (fun hc => ?_)
    · have hf := tc_pos hc hf
      exact tX4_advanceT_52 X z SB SR hf _ _ _ hP hD hS (lv_sub hl [0] rfl)
    · have hf := tc_neg hc hf
      refine lv_aload_n hx hb dX4_advance_11 rfl (lv_at hl 0 rfl) ?_
      refine va_get (D := (dC, dI)) (ci := 8) (v := .ref (qB 0)) (C := RX8) (T := TX8) (N := 13) hx hb hts i_X8 hown hK hP 0 rfl rfl 0 (by decide) (hts _ wf_X4_9) (fun _ h9 => h9) rfl dX4_advance_12 ?_
      refine lv_aload_n hx hb dX4_advance_15 rfl (lv_at hl 0 rfl) ?_
      refine va_get (D := (dC, dI)) (ci := 8) (v := .int (gi SR 2)) (C := RX8) (T := TX8) (N := 13) hx hb hts i_X8 hown hK hP 0 rfl rfl 2 (by decide) (hts _ wf_X4_28) (fun _ h9 => h9) rfl dX4_advance_16 ?_
      obtain ⟨hi9, hf⟩ := tc_in hf
      refine va_bald hx hb hK hP 1 0 rfl rfl hi9 dX4_advance_19 ?_
      refine lv_bipush (v := (32 : Int32)) hx hb dX4_advance_20 (by decide) ?_
      refine lv_icmp_eq (tgt := 39) hx hb dX4_advance_22 (by decide) (fun hc => ?_) (fun hc => ?_)
      · have hf := tc_pos hc hf
        refine lv_aload_n hx hb dX4_advance_39 rfl (lv_at hl 0 rfl) ?_
        refine lv_dup hx hb dX4_advance_40 rfl ?_
        refine va_get (D := (dC, dI)) (ci := 8) (v := .int (gi SR 2)) (C := RX8) (T := TX8) (N := 13) hx hb hts i_X8 hown hK hP 0 rfl rfl 2 (by decide) (hts _ wf_X4_28) (fun _ h9 => h9) rfl dX4_advance_41 ?_
        refine lv_iconst (v := (1 : Int32)) hx hb dX4_advance_44 (by decide) ?_
        refine lv_iadd hx hb dX4_advance_45 ?_
        refine va_put (D := (dC, dI)) (ci := 8) (v := .int ((gi SR 2) + (1 : Int32))) (ty := .int) (C := RX8) (T := TX8) (N := 13) hx hb hts i_X8 tyX8 tyX8_ok nmX8 hown hK hP hD hS 0 rfl rfl 2 (by decide) (hts _ wf_X4_28) (fun _ h9 => h9) rfl (tyX8_ok 2 (by decide)) rfl rfl (Nat.le_of_ble_eq_true rfl) dX4_advance_46 (fun H locs hP hD hS => ?_)
        have hP := tc_eP (pw8_B_0_2 ca qR qB (.ref (qB 0)) (rR11) SR SB ((gi SR 2) + (1 : Int32))) hP
        have hD := tc_eD (pw8_B_0_2 ca qR qB (.ref (qB 0)) (rR11) SR SB ((gi SR 2) + (1 : Int32))) hD
        refine lv_goto (tgt := 0) hx hb dX4_advance_49 (by decide) ?_
        exact ih (si SR 2 ((gi SR 2) + (1 : Int32))) hf _ _ _ hP hD hS (lv_sub hl [0] rfl)
      · have hf := tc_neg hc hf
        refine lv_aload_n hx hb dX4_advance_25 rfl (lv_at hl 0 rfl) ?_
        refine va_get (D := (dC, dI)) (ci := 8) (v := .ref (qB 0)) (C := RX8) (T := TX8) (N := 13) hx hb hts i_X8 hown hK hP 0 rfl rfl 0 (by decide) (hts _ wf_X4_9) (fun _ h9 => h9) rfl dX4_advance_26 ?_
        refine lv_aload_n hx hb dX4_advance_29 rfl (lv_at hl 0 rfl) ?_
        refine va_get (D := (dC, dI)) (ci := 8) (v := .int (gi SR 2)) (C := RX8) (T := TX8) (N := 13) hx hb hts i_X8 hown hK hP 0 rfl rfl 2 (by decide) (hts _ wf_X4_28) (fun _ h9 => h9) rfl dX4_advance_30 ?_
        obtain ⟨hi10, hf⟩ := tc_in hf
        refine va_bald hx hb hK hP 1 0 rfl rfl hi10 dX4_advance_33 ?_
        refine lv_bipush (v := (10 : Int32)) hx hb dX4_advance_34 (by decide) ?_
        refine lv_icmp_ne (tgt := 52) hx hb dX4_advance_36 (by decide) (fun hc => ?_) (fun hc => ?_)
        · have hf := tc_neg hc hf
          exact tX4_advanceT_52 X z SB SR hf _ _ _ hP hD hS (lv_sub hl [0] rfl)
        · have hf := tc_pos hc hf
          refine lv_aload_n hx hb dX4_advance_39 rfl (lv_at hl 0 rfl) ?_
          refine lv_dup hx hb dX4_advance_40 rfl ?_
          refine va_get (D := (dC, dI)) (ci := 8) (v := .int (gi SR 2)) (C := RX8) (T := TX8) (N := 13) hx hb hts i_X8 hown hK hP 0 rfl rfl 2 (by decide) (hts _ wf_X4_28) (fun _ h9 => h9) rfl dX4_advance_41 ?_
          refine lv_iconst (v := (1 : Int32)) hx hb dX4_advance_44 (by decide) ?_
          refine lv_iadd hx hb dX4_advance_45 ?_
          refine va_put (D := (dC, dI)) (ci := 8) (v := .int ((gi SR 2) + (1 : Int32))) (ty := .int) (C := RX8) (T := TX8) (N := 13) hx hb hts i_X8 tyX8 tyX8_ok nmX8 hown hK hP hD hS 0 rfl rfl 2 (by decide) (hts _ wf_X4_28) (fun _ h9 => h9) rfl (tyX8_ok 2 (by decide)) rfl rfl (Nat.le_of_ble_eq_true rfl) dX4_advance_46 (fun H locs hP hD hS => ?_)
          have hP := tc_eP (pw8_B_0_2 ca qR qB (.ref (qB 0)) (rR11) SR SB ((gi SR 2) + (1 : Int32))) hP
          have hD := tc_eD (pw8_B_0_2 ca qR qB (.ref (qB 0)) (rR11) SR SB ((gi SR 2) + (1 : Int32))) hD
          refine lv_goto (tgt := 0) hx hb dX4_advance_49 (by decide) ?_
          exact ih (si SR 2 ((gi SR 2) + (1 : Int32))) hf _ _ _ hP hD hS (lv_sub hl [0] rfl)
set_option maxRecDepth 20000 in
theorem mX4_advanceT {qR : Nat → Nat} {qB : Nat → Nat} {rR11 : Value} {SR : ms_T} {SB : ms_T}  {z : ms_T}  (hf : fX4_advanceT SR SB = some z) : tc_MV l dC dI ca yX4_advance cX4_advance 1 none rmX4_advanceT [.ref (qR 0)] (w8 ca qR (.ref (qB 0)) (rR11) SR ++ wLB ca qB SB) (w8 ca qR (.ref (qB 0)) (rR11) z ++ wLB ca qB SB) := by
  refine tc_metV (own := RX4) (by decide) rfl ?_ (Nat.le_of_ble_eq_true rfl)
  intro p e s m below meth c A X hP hD hS ls hl
  obtain ⟨hx, hb, hr, hml, hown, hts, hlk, hK, hA, hG⟩ := id X
  unfold fX4_advanceT at hf
  have hl : lv_has ls 1 [(0, .ref (qR 0))] := hl
  exact tX4_advanceT_0 X z SB FU SR hf _ _ _ hP hD hS (lv_sub hl [0] rfl)
theorem pw2_B_0_3 (ca : Nat → ClassId) (q0 q1 : Nat → Nat) (r0_0 r0_11 r0_12 : Value) (S0 S1 : ms_T) (v : Int32) : (w2 ca q0 r0_0 r0_11 r0_12 S0 ++ wLB ca q1 S1 : va_W).set 0 (q0 0, .inr (2, List.set (r0_0 :: .int (gi S0 1) :: .int (gi S0 2) :: .int (gi S0 3) :: .int (gi S0 4) :: .int (gi S0 5) :: .int (gi S0 6) :: .int (gi S0 7) :: .long (gl S0 8) :: .int (gi S0 9) :: .int (gi S0 10) :: r0_11 :: r0_12 :: .int (gi S0 13) :: .ref (q0 1) :: []) 3 (.int v))) = w2 ca q0 r0_0 r0_11 r0_12 (si S0 3 v) ++ wLB ca q1 S1 := rfl
theorem pw2_B_0_5 (ca : Nat → ClassId) (q0 q1 : Nat → Nat) (r0_0 r0_11 r0_12 : Value) (S0 S1 : ms_T) (v : Int32) : (w2 ca q0 r0_0 r0_11 r0_12 S0 ++ wLB ca q1 S1 : va_W).set 0 (q0 0, .inr (2, List.set (r0_0 :: .int (gi S0 1) :: .int (gi S0 2) :: .int (gi S0 3) :: .int (gi S0 4) :: .int (gi S0 5) :: .int (gi S0 6) :: .int (gi S0 7) :: .long (gl S0 8) :: .int (gi S0 9) :: .int (gi S0 10) :: r0_11 :: r0_12 :: .int (gi S0 13) :: .ref (q0 1) :: []) 5 (.int v))) = w2 ca q0 r0_0 r0_11 r0_12 (si S0 5 v) ++ wLB ca q1 S1 := rfl
theorem pw2_B_0_7 (ca : Nat → ClassId) (q0 q1 : Nat → Nat) (r0_0 r0_11 r0_12 : Value) (S0 S1 : ms_T) (v : Int32) : (w2 ca q0 r0_0 r0_11 r0_12 S0 ++ wLB ca q1 S1 : va_W).set 0 (q0 0, .inr (2, List.set (r0_0 :: .int (gi S0 1) :: .int (gi S0 2) :: .int (gi S0 3) :: .int (gi S0 4) :: .int (gi S0 5) :: .int (gi S0 6) :: .int (gi S0 7) :: .long (gl S0 8) :: .int (gi S0 9) :: .int (gi S0 10) :: r0_11 :: r0_12 :: .int (gi S0 13) :: .ref (q0 1) :: []) 7 (.int v))) = w2 ca q0 r0_0 r0_11 r0_12 (si S0 7 v) ++ wLB ca q1 S1 := rfl
theorem pw2_B_0_8 (ca : Nat → ClassId) (q0 q1 : Nat → Nat) (r0_0 r0_11 r0_12 : Value) (S0 S1 : ms_T) (v : Int64) : (w2 ca q0 r0_0 r0_11 r0_12 S0 ++ wLB ca q1 S1 : va_W).set 0 (q0 0, .inr (2, List.set (r0_0 :: .int (gi S0 1) :: .int (gi S0 2) :: .int (gi S0 3) :: .int (gi S0 4) :: .int (gi S0 5) :: .int (gi S0 6) :: .int (gi S0 7) :: .long (gl S0 8) :: .int (gi S0 9) :: .int (gi S0 10) :: r0_11 :: r0_12 :: .int (gi S0 13) :: .ref (q0 1) :: []) 8 (.long v))) = w2 ca q0 r0_0 r0_11 r0_12 (sl S0 8 v) ++ wLB ca q1 S1 := rfl
def fX4_advanceE_256  (SB : ms_T)  (SR : ms_T) : Option (ms_T) :=
  if (gi SR 2) ≤ (gi SR 3) then
    (fX4_readSignE SR SB).bind fun z1 =>
    some (z1)
  else
    if (4 : Int32) < ((gi SR 2) - (gi SR 3)) then
      some (si SR 4 (4 : Int32))
    else
      some (si SR 4 (2 : Int32))
def fX4_advanceE_180  (SB : ms_T)  : Nat → ms_T → Option (ms_T)
  | 0, _ => none
  | n + 1, SR =>
    if (gi SR 1) ≤ (gi SR 2) then
      fX4_advanceE_256 SB SR
    else
      if inb (gi SR 2) 900 = true then
        if (ia SB 0 (gi SR 2)) < (48 : Int32) then
          fX4_advanceE_256 SB SR
        else
          if inb (gi SR 2) 900 = true then
            if (57 : Int32) < (ia SB 0 (gi SR 2)) then
              fX4_advanceE_256 SB SR
            else
              if inb (gi SR 2) 900 = true then
                fX4_advanceE_180 SB n (si (si SR 5 (((gi SR 5) * (10 : Int32)) + ((ia SB 0 (gi SR 2)) - (48 : Int32)))) 2 ((gi (si SR 5 (((gi SR 5) * (10 : Int32)) + ((ia SB 0 (gi SR 2)) - (48 : Int32)))) 2) + (1 : Int32)))
              else none
          else none
      else none
def fX4_advanceE_155  (SB : ms_T)  (SR : ms_T) : Option (ms_T) :=
  if (gi SR 2) ≤ (gi SR 3) then
    fX4_advanceE_180 SB FU SR
  else
    (fX4_wordNumberE (si SR 4 (1 : Int32)) SB).bind fun z5 =>
    some (si (si SR 4 (1 : Int32)) 7 z5)
def fX4_advanceE_75  (SB : ms_T)  : Nat → ms_T → Option (ms_T)
  | 0, _ => none
  | n + 1, SR =>
    if (gi SR 1) ≤ (gi SR 2) then
      fX4_advanceE_155 SB SR
    else
      if inb (gi SR 2) 900 = true then
        if (ia SB 0 (gi SR 2)) < (97 : Int32) then
          fX4_advanceE_155 SB SR
        else
          if inb (gi SR 2) 900 = true then
            if (122 : Int32) < (ia SB 0 (gi SR 2)) then
              fX4_advanceE_155 SB SR
            else
              if inb (gi SR 2) 900 = true then
                fX4_advanceE_75 SB n (si (sl SR 8 (((gl SR 8) * (32 : Int64)) + ((((ia SB 0 (gi SR 2)) - (97 : Int32)) + (1 : Int32)).toInt64))) 2 ((gi (sl SR 8 (((gl SR 8) * (32 : Int64)) + ((((ia SB 0 (gi SR 2)) - (97 : Int32)) + (1 : Int32)).toInt64))) 2) + (1 : Int32)))
              else none
          else none
      else none
def fX4_advanceE_52  (SB : ms_T)  (SR : ms_T) : Option (ms_T) :=
  fX4_advanceE_75 SB FU (sl (si (si (si SR 3 (gi SR 2)) 5 (0 : Int32)) 7 (-1 : Int32)) 8 (0 : Int64))
def fX4_advanceE_0  (SB : ms_T)  : Nat → ms_T → Option (ms_T)
  | 0, _ => none
  | n + 1, SR =>
    if (gi SR 1) ≤ (gi SR 2) then
      fX4_advanceE_52 SB SR
    else
      if inb (gi SR 2) 900 = true then
        if (ia SB 0 (gi SR 2)) = (32 : Int32) then
          fX4_advanceE_0 SB n (si SR 2 ((gi SR 2) + (1 : Int32)))
        else
          if inb (gi SR 2) 900 = true then
            if (ia SB 0 (gi SR 2)) = (10 : Int32) then
              fX4_advanceE_0 SB n (si SR 2 ((gi SR 2) + (1 : Int32)))
            else
              fX4_advanceE_52 SB SR
          else none
      else none
def fX4_advanceE  (SR : ms_T) (SB : ms_T)  : Option (ms_T) :=
  fX4_advanceE_0 SB FU SR
abbrev rmX4_advanceE : Room := { frames := 9, cells := 0, slots := 0, locals := 425 }
set_option maxRecDepth 20000 in
theorem tX4_advanceE_256 {qR : Nat → Nat} {qB : Nat → Nat} {rR11 : Value} {rR12 : Value} (X : tc_X dC dI ca A RX4 cX4_advance 1 none p s m args meth c) (z : ms_T)  (SB : ms_T)   : ∀ (SR : ms_T), fX4_advanceE_256 SB SR = some z → ∀ (H : Heap) (locs : List Loc) (ls : Array Slot), va_P (dC, dI) classes (w2 ca qR (.ref (qB 0)) (rR11) (rR12) SR ++ wLB ca qB SB) H → va_D A (w2 ca qR (.ref (qB 0)) (rR11) (rR12) SR ++ wLB ca qB SB) → va_S A s.heap H locs → lv_has ls 1 [(0, .ref (qR 0))] → W p l e rmX4_advanceE s m args below meth c H locs 0 0 (MQ below (tc_QV dC dI ca A (w2 ca qR (.ref (qB 0)) (rR11) (rR12) z ++ wLB ca qB SB)) args s 0 0 A) (F0 m 256 ls []) := by
  obtain ⟨hx, hb, hr, hml, hown, hts, hlk, hK, hA, hG⟩ := id X
  intro SR hf H locs ls hP hD hS hl
  unfold fX4_advanceE_256 at hf
  refine lv_aload_n hx hb dX4_advance_256 rfl (lv_at hl 0 rfl) ?_
  refine va_get (D := (dC, dI)) (ci := 2) (v := .int (gi SR 2)) (C := RX2) (T := TX2) (N := 15) hx hb hts i_X2 hown hK hP 0 rfl rfl 2 (by decide) (hts _ wf_X4_28) (fun _ h9 => h9) rfl dX4_advance_257 ?_
  refine lv_aload_n hx hb dX4_advance_260 rfl (lv_at hl 0 rfl) ?_
  refine va_get (D := (dC, dI)) (ci := 2) (v := .int (gi SR 3)) (C := RX2) (T := TX2) (N := 15) hx hb hts i_X2 hown hK hP 0 rfl rfl 3 (by decide) (hts _ wf_X4_40) (fun _ h9 => h9) rfl dX4_advance_261 ?_
  refine lv_icmp_le (tgt := 290) hx hb dX4_advance_264 (by decide) (fun hc => ?_) (fun hc => ?_)
  · have hf := tc_pos hc hf
    refine lv_aload_n hx hb dX4_advance_290 rfl (lv_at hl 0 rfl) ?_
    obtain ⟨z1, hg, hf⟩ := tc_bi hf
    refine tc_vVs (As := []) (rest := []) (b := qR 0) X hP hD hS (mX4_readSignE hg) okX4_readSign wl_X4_62 wi_X4_readSign ws_X2_X4_readSign_X4_readSign ⟨rfl, rfl, Nat.le_of_ble_eq_true rfl, Nat.le_of_ble_eq_true rfl⟩ 2 0 rfl rfl rfl hl.1 (Nat.le_of_ble_eq_true rfl) dX4_advance_291 (fun H locs hP hD hS => ?_)
    obtain rfl := Option.some.inj hf
    exact tc_rv X hP hD hS rfl dX4_advance_294 rfl
  · have hf := tc_neg hc hf
    refine lv_aload_n hx hb dX4_advance_267 rfl (lv_at hl 0 rfl) ?_
    refine lv_aload_n hx hb dX4_advance_268 rfl (lv_at hl 0 rfl) ?_
    refine va_get (D := (dC, dI)) (ci := 2) (v := .int (gi SR 2)) (C := RX2) (T := TX2) (N := 15) hx hb hts i_X2 hown hK hP 0 rfl rfl 2 (by decide) (hts _ wf_X4_28) (fun _ h9 => h9) rfl dX4_advance_269 ?_
    refine lv_aload_n hx hb dX4_advance_272 rfl (lv_at hl 0 rfl) ?_
    refine va_get (D := (dC, dI)) (ci := 2) (v := .int (gi SR 3)) (C := RX2) (T := TX2) (N := 15) hx hb hts i_X2 hown hK hP 0 rfl rfl 3 (by decide) (hts _ wf_X4_40) (fun _ h9 => h9) rfl dX4_advance_273 ?_
    refine lv_isub hx hb dX4_advance_276 ?_
    refine lv_iconst (v := (4 : Int32)) hx hb dX4_advance_277 (by decide) ?_
    refine lv_icmp_gt (tgt := 285) hx hb dX4_advance_278 (by decide) (fun hc => ?_) (fun hc => ?_)
    · have hf := tc_pos hc hf
      refine lv_iconst (v := (4 : Int32)) hx hb dX4_advance_285 (by decide) ?_
      refine va_put (D := (dC, dI)) (ci := 2) (v := .int ((4 : Int32))) (ty := .int) (C := RX2) (T := TX2) (N := 15) hx hb hts i_X2 tyX2 tyX2_ok nmX2 hown hK hP hD hS 0 rfl rfl 4 (by decide) (hts _ wf_X4_55) (fun _ h9 => h9) rfl (tyX2_ok 4 (by decide)) rfl rfl (Nat.le_of_ble_eq_true rfl) dX4_advance_286 (fun H locs hP hD hS => ?_)
      have hP := tc_eP (pw2_B_0_4 ca qR qB (.ref (qB 0)) (rR11) (rR12) SR SB (4 : Int32)) hP
      have hD := tc_eD (pw2_B_0_4 ca qR qB (.ref (qB 0)) (rR11) (rR12) SR SB (4 : Int32)) hD
      obtain rfl := Option.some.inj hf
      exact tc_rv X hP hD hS rfl dX4_advance_289 rfl
    · have hf := tc_neg hc hf
      refine lv_iconst (v := (2 : Int32)) hx hb dX4_advance_281 (by decide) ?_
      refine lv_goto (tgt := 286) hx hb dX4_advance_282 (by decide) ?_
      refine va_put (D := (dC, dI)) (ci := 2) (v := .int ((2 : Int32))) (ty := .int) (C := RX2) (T := TX2) (N := 15) hx hb hts i_X2 tyX2 tyX2_ok nmX2 hown hK hP hD hS 0 rfl rfl 4 (by decide) (hts _ wf_X4_55) (fun _ h9 => h9) rfl (tyX2_ok 4 (by decide)) rfl rfl (Nat.le_of_ble_eq_true rfl) dX4_advance_286 (fun H locs hP hD hS => ?_)
      have hP := tc_eP (pw2_B_0_4 ca qR qB (.ref (qB 0)) (rR11) (rR12) SR SB (2 : Int32)) hP
      have hD := tc_eD (pw2_B_0_4 ca qR qB (.ref (qB 0)) (rR11) (rR12) SR SB (2 : Int32)) hD
      obtain rfl := Option.some.inj hf
      exact tc_rv X hP hD hS rfl dX4_advance_289 rfl
set_option maxRecDepth 20000 in
theorem tX4_advanceE_180 {qR : Nat → Nat} {qB : Nat → Nat} {rR11 : Value} {rR12 : Value} (X : tc_X dC dI ca A RX4 cX4_advance 1 none p s m args meth c) (z : ms_T)  (SB : ms_T)   : ∀ n : Nat, ∀ (SR : ms_T), fX4_advanceE_180 SB n SR = some z → ∀ (H : Heap) (locs : List Loc) (ls : Array Slot), va_P (dC, dI) classes (w2 ca qR (.ref (qB 0)) (rR11) (rR12) SR ++ wLB ca qB SB) H → va_D A (w2 ca qR (.ref (qB 0)) (rR11) (rR12) SR ++ wLB ca qB SB) → va_S A s.heap H locs → lv_has ls 1 [(0, .ref (qR 0))] → W p l e rmX4_advanceE s m args below meth c H locs 0 0 (MQ below (tc_QV dC dI ca A (w2 ca qR (.ref (qB 0)) (rR11) (rR12) z ++ wLB ca qB SB)) args s 0 0 A) (F0 m 180 ls []) := by
  obtain ⟨hx, hb, hr, hml, hown, hts, hlk, hK, hA, hG⟩ := id X
  intro n
  induction n with
  | zero => intro SR hf; exact absurd (show none = some z from hf) (fun h => by cases h)
  | succ n ih =>
    intro SR hf H locs ls hP hD hS hl
    rw [fX4_advanceE_180] at hf
    refine lv_aload_n hx hb dX4_advance_180 rfl (lv_at hl 0 rfl) ?_
    refine va_get (D := (dC, dI)) (ci := 2) (v := .int (gi SR 2)) (C := RX2) (T := TX2) (N := 15) hx hb hts i_X2 hown hK hP 0 rfl rfl 2 (by decide) (hts _ wf_X4_28) (fun _ h9 => h9) rfl dX4_advance_181 ?_
    refine lv_aload_n hx hb dX4_advance_184 rfl (lv_at hl 0 rfl) ?_
    refine va_get (D := (dC, dI)) (ci := 2) (v := .int (gi SR 1)) (C := RX2) (T := TX2) (N := 15) hx hb hts i_X2 hown hK hP 0 rfl rfl 1 (by decide) (hts _ wf_X4_24) (fun _ h9 => h9) rfl dX4_advance_185 ?_
    refine lv_icmp_ge (tgt := 256) hx hb dX4_advance_188 (by decide) (fun hc => ?_) (fun hc => ?_)
    · have hf := tc_pos hc hf
      exact tX4_advanceE_256 X z SB SR hf _ _ _ hP hD hS (lv_sub hl [0] rfl)
    · have hf := tc_neg hc hf
      refine lv_aload_n hx hb dX4_advance_191 rfl (lv_at hl 0 rfl) ?_
      refine va_get (D := (dC, dI)) (ci := 2) (v := .ref (qB 0)) (C := RX2) (T := TX2) (N := 15) hx hb hts i_X2 hown hK hP 0 rfl rfl 0 (by decide) (hts _ wf_X4_9) (fun _ h9 => h9) rfl dX4_advance_192 ?_
      refine lv_aload_n hx hb dX4_advance_195 rfl (lv_at hl 0 rfl) ?_
      refine va_get (D := (dC, dI)) (ci := 2) (v := .int (gi SR 2)) (C := RX2) (T := TX2) (N := 15) hx hb hts i_X2 hown hK hP 0 rfl rfl 2 (by decide) (hts _ wf_X4_28) (fun _ h9 => h9) rfl dX4_advance_196 ?_
      obtain ⟨hi2, hf⟩ := tc_in hf
      refine va_bald hx hb hK hP 2 0 rfl rfl hi2 dX4_advance_199 ?_
      refine lv_bipush (v := (48 : Int32)) hx hb dX4_advance_200 (by decide) ?_
      refine lv_icmp_lt (tgt := 256) hx hb dX4_advance_202 (by decide) (fun hc => ?_) (fun hc => ?_)
      · have hf := tc_pos hc hf
        exact tX4_advanceE_256 X z SB SR hf _ _ _ hP hD hS (lv_sub hl [0] rfl)
      · have hf := tc_neg hc hf
        refine lv_aload_n hx hb dX4_advance_205 rfl (lv_at hl 0 rfl) ?_
        refine va_get (D := (dC, dI)) (ci := 2) (v := .ref (qB 0)) (C := RX2) (T := TX2) (N := 15) hx hb hts i_X2 hown hK hP 0 rfl rfl 0 (by decide) (hts _ wf_X4_9) (fun _ h9 => h9) rfl dX4_advance_206 ?_
        refine lv_aload_n hx hb dX4_advance_209 rfl (lv_at hl 0 rfl) ?_
        refine va_get (D := (dC, dI)) (ci := 2) (v := .int (gi SR 2)) (C := RX2) (T := TX2) (N := 15) hx hb hts i_X2 hown hK hP 0 rfl rfl 2 (by decide) (hts _ wf_X4_28) (fun _ h9 => h9) rfl dX4_advance_210 ?_
        obtain ⟨hi3, hf⟩ := tc_in hf
        refine va_bald hx hb hK hP 2 0 rfl rfl hi3 dX4_advance_213 ?_
        refine lv_bipush (v := (57 : Int32)) hx hb dX4_advance_214 (by decide) ?_
        refine lv_icmp_gt (tgt := 256) hx hb dX4_advance_216 (by decide) (fun hc => ?_) (fun hc => ?_)
        · have hf := tc_pos hc hf
          exact tX4_advanceE_256 X z SB SR hf _ _ _ hP hD hS (lv_sub hl [0] rfl)
        · have hf := tc_neg hc hf
          refine lv_aload_n hx hb dX4_advance_219 rfl (lv_at hl 0 rfl) ?_
          refine lv_aload_n hx hb dX4_advance_220 rfl (lv_at hl 0 rfl) ?_
          refine va_get (D := (dC, dI)) (ci := 2) (v := .int (gi SR 5)) (C := RX2) (T := TX2) (N := 15) hx hb hts i_X2 hown hK hP 0 rfl rfl 5 (by decide) (hts _ wf_X4_43) (fun _ h9 => h9) rfl dX4_advance_221 ?_
          refine lv_bipush (v := (10 : Int32)) hx hb dX4_advance_224 (by decide) ?_
          refine lv_imul hx hb dX4_advance_226 ?_
          refine lv_aload_n hx hb dX4_advance_227 rfl (lv_at hl 0 rfl) ?_
          refine va_get (D := (dC, dI)) (ci := 2) (v := .ref (qB 0)) (C := RX2) (T := TX2) (N := 15) hx hb hts i_X2 hown hK hP 0 rfl rfl 0 (by decide) (hts _ wf_X4_9) (fun _ h9 => h9) rfl dX4_advance_228 ?_
          refine lv_aload_n hx hb dX4_advance_231 rfl (lv_at hl 0 rfl) ?_
          refine va_get (D := (dC, dI)) (ci := 2) (v := .int (gi SR 2)) (C := RX2) (T := TX2) (N := 15) hx hb hts i_X2 hown hK hP 0 rfl rfl 2 (by decide) (hts _ wf_X4_28) (fun _ h9 => h9) rfl dX4_advance_232 ?_
          obtain ⟨hi4, hf⟩ := tc_in hf
          refine va_bald hx hb hK hP 2 0 rfl rfl hi4 dX4_advance_235 ?_
          refine lv_bipush (v := (48 : Int32)) hx hb dX4_advance_236 (by decide) ?_
          refine lv_isub hx hb dX4_advance_238 ?_
          refine lv_iadd hx hb dX4_advance_239 ?_
          refine va_put (D := (dC, dI)) (ci := 2) (v := .int (((gi SR 5) * (10 : Int32)) + ((ia SB 0 (gi SR 2)) - (48 : Int32)))) (ty := .int) (C := RX2) (T := TX2) (N := 15) hx hb hts i_X2 tyX2 tyX2_ok nmX2 hown hK hP hD hS 0 rfl rfl 5 (by decide) (hts _ wf_X4_43) (fun _ h9 => h9) rfl (tyX2_ok 5 (by decide)) rfl rfl (Nat.le_of_ble_eq_true rfl) dX4_advance_240 (fun H locs hP hD hS => ?_)
          have hP := tc_eP (pw2_B_0_5 ca qR qB (.ref (qB 0)) (rR11) (rR12) SR SB (((gi SR 5) * (10 : Int32)) + ((ia SB 0 (gi SR 2)) - (48 : Int32)))) hP
          have hD := tc_eD (pw2_B_0_5 ca qR qB (.ref (qB 0)) (rR11) (rR12) SR SB (((gi SR 5) * (10 : Int32)) + ((ia SB 0 (gi SR 2)) - (48 : Int32)))) hD
          refine lv_aload_n hx hb dX4_advance_243 rfl (lv_at hl 0 rfl) ?_
          refine lv_dup hx hb dX4_advance_244 rfl ?_
          refine va_get (D := (dC, dI)) (ci := 2) (v := .int (gi (si SR 5 (((gi SR 5) * (10 : Int32)) + ((ia SB 0 (gi SR 2)) - (48 : Int32)))) 2)) (C := RX2) (T := TX2) (N := 15) hx hb hts i_X2 hown hK hP 0 rfl rfl 2 (by decide) (hts _ wf_X4_28) (fun _ h9 => h9) rfl dX4_advance_245 ?_
          refine lv_iconst (v := (1 : Int32)) hx hb dX4_advance_248 (by decide) ?_
          refine lv_iadd hx hb dX4_advance_249 ?_
          refine va_put (D := (dC, dI)) (ci := 2) (v := .int ((gi (si SR 5 (((gi SR 5) * (10 : Int32)) + ((ia SB 0 (gi SR 2)) - (48 : Int32)))) 2) + (1 : Int32))) (ty := .int) (C := RX2) (T := TX2) (N := 15) hx hb hts i_X2 tyX2 tyX2_ok nmX2 hown hK hP hD hS 0 rfl rfl 2 (by decide) (hts _ wf_X4_28) (fun _ h9 => h9) rfl (tyX2_ok 2 (by decide)) rfl rfl (Nat.le_of_ble_eq_true rfl) dX4_advance_250 (fun H locs hP hD hS => ?_)
          have hP := tc_eP (pw2_B_0_2 ca qR qB (.ref (qB 0)) (rR11) (rR12) (si SR 5 (((gi SR 5) * (10 : Int32)) + ((ia SB 0 (gi SR 2)) - (48 : Int32)))) SB ((gi (si SR 5 (((gi SR 5) * (10 : Int32)) + ((ia SB 0 (gi SR 2)) - (48 : Int32)))) 2) + (1 : Int32))) hP
          have hD := tc_eD (pw2_B_0_2 ca qR qB (.ref (qB 0)) (rR11) (rR12) (si SR 5 (((gi SR 5) * (10 : Int32)) + ((ia SB 0 (gi SR 2)) - (48 : Int32)))) SB ((gi (si SR 5 (((gi SR 5) * (10 : Int32)) + ((ia SB 0 (gi SR 2)) - (48 : Int32)))) 2) + (1 : Int32))) hD
          refine lv_goto (tgt := 180) hx hb dX4_advance_253 (by decide) ?_
          exact ih (si (si SR 5 (((gi SR 5) * (10 : Int32)) + ((ia SB 0 (gi SR 2)) - (48 : Int32)))) 2 ((gi (si SR 5 (((gi SR 5) * (10 : Int32)) + ((ia SB 0 (gi SR 2)) - (48 : Int32)))) 2) + (1 : Int32))) hf _ _ _ hP hD hS (lv_sub hl [0] rfl)
set_option maxRecDepth 20000 in
theorem tX4_advanceE_155 {qR : Nat → Nat} {qB : Nat → Nat} {rR11 : Value} {rR12 : Value} (X : tc_X dC dI ca A RX4 cX4_advance 1 none p s m args meth c) (z : ms_T)  (SB : ms_T)   : ∀ (SR : ms_T), fX4_advanceE_155 SB SR = some z → ∀ (H : Heap) (locs : List Loc) (ls : Array Slot), va_P (dC, dI) classes (w2 ca qR (.ref (qB 0)) (rR11) (rR12) SR ++ wLB ca qB SB) H → va_D A (w2 ca qR (.ref (qB 0)) (rR11) (rR12) SR ++ wLB ca qB SB) → va_S A s.heap H locs → lv_has ls 1 [(0, .ref (qR 0))] → W p l e rmX4_advanceE s m args below meth c H locs 0 0 (MQ below (tc_QV dC dI ca A (w2 ca qR (.ref (qB 0)) (rR11) (rR12) z ++ wLB ca qB SB)) args s 0 0 A) (F0 m 155 ls []) := by
  obtain ⟨hx, hb, hr, hml, hown, hts, hlk, hK, hA, hG⟩ := id X
  intro SR hf H locs ls hP hD hS hl
  unfold fX4_advanceE_155 at hf
  refine lv_aload_n hx hb dX4_advance_155 rfl (lv_at hl 0 rfl) ?_
  refine va_get (D := (dC, dI)) (ci := 2) (v := .int (gi SR 2)) (C := RX2) (T := TX2) (N := 15) hx hb hts i_X2 hown hK hP 0 rfl rfl 2 (by decide) (hts _ wf_X4_28) (fun _ h9 => h9) rfl dX4_advance_156 ?_
  refine lv_aload_n hx hb dX4_advance_159 rfl (lv_at hl 0 rfl) ?_
  refine va_get (D := (dC, dI)) (ci := 2) (v := .int (gi SR 3)) (C := RX2) (T := TX2) (N := 15) hx hb hts i_X2 hown hK hP 0 rfl rfl 3 (by decide) (hts _ wf_X4_40) (fun _ h9 => h9) rfl dX4_advance_160 ?_
  refine lv_icmp_le (tgt := 180) hx hb dX4_advance_163 (by decide) (fun hc => ?_) (fun hc => ?_)
  · have hf := tc_pos hc hf
    exact tX4_advanceE_180 X z SB FU SR hf _ _ _ hP hD hS (lv_sub hl [0] rfl)
  · have hf := tc_neg hc hf
    refine lv_aload_n hx hb dX4_advance_166 rfl (lv_at hl 0 rfl) ?_
    refine lv_iconst (v := (1 : Int32)) hx hb dX4_advance_167 (by decide) ?_
    refine va_put (D := (dC, dI)) (ci := 2) (v := .int ((1 : Int32))) (ty := .int) (C := RX2) (T := TX2) (N := 15) hx hb hts i_X2 tyX2 tyX2_ok nmX2 hown hK hP hD hS 0 rfl rfl 4 (by decide) (hts _ wf_X4_55) (fun _ h9 => h9) rfl (tyX2_ok 4 (by decide)) rfl rfl (Nat.le_of_ble_eq_true rfl) dX4_advance_168 (fun H locs hP hD hS => ?_)
    have hP := tc_eP (pw2_B_0_4 ca qR qB (.ref (qB 0)) (rR11) (rR12) SR SB (1 : Int32)) hP
    have hD := tc_eD (pw2_B_0_4 ca qR qB (.ref (qB 0)) (rR11) (rR12) SR SB (1 : Int32)) hD
    refine lv_aload_n hx hb dX4_advance_171 rfl (lv_at hl 0 rfl) ?_
    refine lv_aload_n hx hb dX4_advance_172 rfl (lv_at hl 0 rfl) ?_
    obtain ⟨z5, hg, hf⟩ := tc_bi hf
    refine tc_iVs (As := []) (rest := [.ref (qR 0)]) (b := qR 0) X hP hD hS (mX4_wordNumberE hg) okX4_wordNumber wl_X4_58 wi_X4_wordNumber ws_X2_X4_wordNumber_X4_wordNumber ⟨rfl, rfl, Nat.le_of_ble_eq_true rfl, Nat.le_of_ble_eq_true rfl⟩ 2 0 rfl rfl rfl hl.1 (Nat.le_of_ble_eq_true rfl) dX4_advance_173 (fun H locs hP hD hS => ?_)
    refine va_put (D := (dC, dI)) (ci := 2) (v := .int (z5)) (ty := .int) (C := RX2) (T := TX2) (N := 15) hx hb hts i_X2 tyX2 tyX2_ok nmX2 hown hK hP hD hS 0 rfl rfl 7 (by decide) (hts _ wf_X4_46) (fun _ h9 => h9) rfl (tyX2_ok 7 (by decide)) rfl rfl (Nat.le_of_ble_eq_true rfl) dX4_advance_176 (fun H locs hP hD hS => ?_)
    have hP := tc_eP (pw2_B_0_7 ca qR qB (.ref (qB 0)) (rR11) (rR12) (si SR 4 (1 : Int32)) SB z5) hP
    have hD := tc_eD (pw2_B_0_7 ca qR qB (.ref (qB 0)) (rR11) (rR12) (si SR 4 (1 : Int32)) SB z5) hD
    obtain rfl := Option.some.inj hf
    exact tc_rv X hP hD hS rfl dX4_advance_179 rfl
set_option maxRecDepth 20000 in
theorem tX4_advanceE_75 {qR : Nat → Nat} {qB : Nat → Nat} {rR11 : Value} {rR12 : Value} (X : tc_X dC dI ca A RX4 cX4_advance 1 none p s m args meth c) (z : ms_T)  (SB : ms_T)   : ∀ n : Nat, ∀ (SR : ms_T), fX4_advanceE_75 SB n SR = some z → ∀ (H : Heap) (locs : List Loc) (ls : Array Slot), va_P (dC, dI) classes (w2 ca qR (.ref (qB 0)) (rR11) (rR12) SR ++ wLB ca qB SB) H → va_D A (w2 ca qR (.ref (qB 0)) (rR11) (rR12) SR ++ wLB ca qB SB) → va_S A s.heap H locs → lv_has ls 1 [(0, .ref (qR 0))] → W p l e rmX4_advanceE s m args below meth c H locs 0 0 (MQ below (tc_QV dC dI ca A (w2 ca qR (.ref (qB 0)) (rR11) (rR12) z ++ wLB ca qB SB)) args s 0 0 A) (F0 m 75 ls []) := by
  obtain ⟨hx, hb, hr, hml, hown, hts, hlk, hK, hA, hG⟩ := id X
  intro n
  induction n with
  | zero => intro SR hf; exact absurd (show none = some z from hf) (fun h => by cases h)
  | succ n ih =>
    intro SR hf H locs ls hP hD hS hl
    rw [fX4_advanceE_75] at hf
    refine lv_aload_n hx hb dX4_advance_75 rfl (lv_at hl 0 rfl) ?_
    refine va_get (D := (dC, dI)) (ci := 2) (v := .int (gi SR 2)) (C := RX2) (T := TX2) (N := 15) hx hb hts i_X2 hown hK hP 0 rfl rfl 2 (by decide) (hts _ wf_X4_28) (fun _ h9 => h9) rfl dX4_advance_76 ?_
    refine lv_aload_n hx hb dX4_advance_79 rfl (lv_at hl 0 rfl) ?_
    refine va_get (D := (dC, dI)) (ci := 2) (v := .int (gi SR 1)) (C := RX2) (T := TX2) (N := 15) hx hb hts i_X2 hown hK hP 0 rfl rfl 1 (by decide) (hts _ wf_X4_24) (fun _ h9 => h9) rfl dX4_advance_80 ?_
    refine lv_icmp_ge (tgt := 155) hx hb dX4_advance_83 (by decide) (fun hc => ?_) (fun hc => ?_)
    · have hf := tc_pos hc hf
      exact tX4_advanceE_155 X z SB SR hf _ _ _ hP hD hS (lv_sub hl [0] rfl)
    · have hf := tc_neg hc hf
      refine lv_aload_n hx hb dX4_advance_86 rfl (lv_at hl 0 rfl) ?_
      refine va_get (D := (dC, dI)) (ci := 2) (v := .ref (qB 0)) (C := RX2) (T := TX2) (N := 15) hx hb hts i_X2 hown hK hP 0 rfl rfl 0 (by decide) (hts _ wf_X4_9) (fun _ h9 => h9) rfl dX4_advance_87 ?_
      refine lv_aload_n hx hb dX4_advance_90 rfl (lv_at hl 0 rfl) ?_
      refine va_get (D := (dC, dI)) (ci := 2) (v := .int (gi SR 2)) (C := RX2) (T := TX2) (N := 15) hx hb hts i_X2 hown hK hP 0 rfl rfl 2 (by decide) (hts _ wf_X4_28) (fun _ h9 => h9) rfl dX4_advance_91 ?_
      obtain ⟨hi6, hf⟩ := tc_in hf
      refine va_bald hx hb hK hP 2 0 rfl rfl hi6 dX4_advance_94 ?_
      refine lv_bipush (v := (97 : Int32)) hx hb dX4_advance_95 (by decide) ?_
      refine lv_icmp_lt (tgt := 155) hx hb dX4_advance_97 (by decide) (fun hc => ?_) (fun hc => ?_)
      · have hf := tc_pos hc hf
        exact tX4_advanceE_155 X z SB SR hf _ _ _ hP hD hS (lv_sub hl [0] rfl)
      · have hf := tc_neg hc hf
        refine lv_aload_n hx hb dX4_advance_100 rfl (lv_at hl 0 rfl) ?_
        refine va_get (D := (dC, dI)) (ci := 2) (v := .ref (qB 0)) (C := RX2) (T := TX2) (N := 15) hx hb hts i_X2 hown hK hP 0 rfl rfl 0 (by decide) (hts _ wf_X4_9) (fun _ h9 => h9) rfl dX4_advance_101 ?_
        refine lv_aload_n hx hb dX4_advance_104 rfl (lv_at hl 0 rfl) ?_
        refine va_get (D := (dC, dI)) (ci := 2) (v := .int (gi SR 2)) (C := RX2) (T := TX2) (N := 15) hx hb hts i_X2 hown hK hP 0 rfl rfl 2 (by decide) (hts _ wf_X4_28) (fun _ h9 => h9) rfl dX4_advance_105 ?_
        obtain ⟨hi7, hf⟩ := tc_in hf
        refine va_bald hx hb hK hP 2 0 rfl rfl hi7 dX4_advance_108 ?_
        refine lv_bipush (v := (122 : Int32)) hx hb dX4_advance_109 (by decide) ?_
        refine lv_icmp_gt (tgt := 155) hx hb dX4_advance_111 (by decide) (fun hc => ?_) (fun hc => ?_)
        · have hf := tc_pos hc hf
          exact tX4_advanceE_155 X z SB SR hf _ _ _ hP hD hS (lv_sub hl [0] rfl)
        · have hf := tc_neg hc hf
          refine lv_aload_n hx hb dX4_advance_114 rfl (lv_at hl 0 rfl) ?_
          refine lv_aload_n hx hb dX4_advance_115 rfl (lv_at hl 0 rfl) ?_
          refine va_get (D := (dC, dI)) (ci := 2) (v := .long (gl SR 8)) (C := RX2) (T := TX2) (N := 15) hx hb hts i_X2 hown hK hP 0 rfl rfl 8 (by decide) (hts _ wf_X4_49) (fun _ h9 => h9) rfl dX4_advance_116 ?_
          refine lv_ldc2 (v := (32 : Int64)) hx hb hown (hts _ wk_X4_53) dX4_advance_119 ?_
          refine lv_lmul hx hb dX4_advance_122 ?_
          refine lv_aload_n hx hb dX4_advance_123 rfl (lv_at hl 0 rfl) ?_
          refine va_get (D := (dC, dI)) (ci := 2) (v := .ref (qB 0)) (C := RX2) (T := TX2) (N := 15) hx hb hts i_X2 hown hK hP 0 rfl rfl 0 (by decide) (hts _ wf_X4_9) (fun _ h9 => h9) rfl dX4_advance_124 ?_
          refine lv_aload_n hx hb dX4_advance_127 rfl (lv_at hl 0 rfl) ?_
          refine va_get (D := (dC, dI)) (ci := 2) (v := .int (gi SR 2)) (C := RX2) (T := TX2) (N := 15) hx hb hts i_X2 hown hK hP 0 rfl rfl 2 (by decide) (hts _ wf_X4_28) (fun _ h9 => h9) rfl dX4_advance_128 ?_
          obtain ⟨hi8, hf⟩ := tc_in hf
          refine va_bald hx hb hK hP 2 0 rfl rfl hi8 dX4_advance_131 ?_
          refine lv_bipush (v := (97 : Int32)) hx hb dX4_advance_132 (by decide) ?_
          refine lv_isub hx hb dX4_advance_134 ?_
          refine lv_iconst (v := (1 : Int32)) hx hb dX4_advance_135 (by decide) ?_
          refine lv_iadd hx hb dX4_advance_136 ?_
          refine lv_i2l (v := (((ia SB 0 (gi SR 2)) - (97 : Int32)) + (1 : Int32)).toInt64) hx hb dX4_advance_137 rfl ?_
          refine lv_ladd hx hb dX4_advance_138 ?_
          refine va_put (D := (dC, dI)) (ci := 2) (v := .long (((gl SR 8) * (32 : Int64)) + ((((ia SB 0 (gi SR 2)) - (97 : Int32)) + (1 : Int32)).toInt64))) (ty := .long) (C := RX2) (T := TX2) (N := 15) hx hb hts i_X2 tyX2 tyX2_ok nmX2 hown hK hP hD hS 0 rfl rfl 8 (by decide) (hts _ wf_X4_49) (fun _ h9 => h9) rfl (tyX2_ok 8 (by decide)) rfl rfl (Nat.le_of_ble_eq_true rfl) dX4_advance_139 (fun H locs hP hD hS => ?_)
          have hP := tc_eP (pw2_B_0_8 ca qR qB (.ref (qB 0)) (rR11) (rR12) SR SB (((gl SR 8) * (32 : Int64)) + ((((ia SB 0 (gi SR 2)) - (97 : Int32)) + (1 : Int32)).toInt64))) hP
          have hD := tc_eD (pw2_B_0_8 ca qR qB (.ref (qB 0)) (rR11) (rR12) SR SB (((gl SR 8) * (32 : Int64)) + ((((ia SB 0 (gi SR 2)) - (97 : Int32)) + (1 : Int32)).toInt64))) hD
          refine lv_aload_n hx hb dX4_advance_142 rfl (lv_at hl 0 rfl) ?_
          refine lv_dup hx hb dX4_advance_143 rfl ?_
          refine va_get (D := (dC, dI)) (ci := 2) (v := .int (gi (sl SR 8 (((gl SR 8) * (32 : Int64)) + ((((ia SB 0 (gi SR 2)) - (97 : Int32)) + (1 : Int32)).toInt64))) 2)) (C := RX2) (T := TX2) (N := 15) hx hb hts i_X2 hown hK hP 0 rfl rfl 2 (by decide) (hts _ wf_X4_28) (fun _ h9 => h9) rfl dX4_advance_144 ?_
          refine lv_iconst (v := (1 : Int32)) hx hb dX4_advance_147 (by decide) ?_
          refine lv_iadd hx hb dX4_advance_148 ?_
          refine va_put (D := (dC, dI)) (ci := 2) (v := .int ((gi (sl SR 8 (((gl SR 8) * (32 : Int64)) + ((((ia SB 0 (gi SR 2)) - (97 : Int32)) + (1 : Int32)).toInt64))) 2) + (1 : Int32))) (ty := .int) (C := RX2) (T := TX2) (N := 15) hx hb hts i_X2 tyX2 tyX2_ok nmX2 hown hK hP hD hS 0 rfl rfl 2 (by decide) (hts _ wf_X4_28) (fun _ h9 => h9) rfl (tyX2_ok 2 (by decide)) rfl rfl (Nat.le_of_ble_eq_true rfl) dX4_advance_149 (fun H locs hP hD hS => ?_)
          have hP := tc_eP (pw2_B_0_2 ca qR qB (.ref (qB 0)) (rR11) (rR12) (sl SR 8 (((gl SR 8) * (32 : Int64)) + ((((ia SB 0 (gi SR 2)) - (97 : Int32)) + (1 : Int32)).toInt64))) SB ((gi (sl SR 8 (((gl SR 8) * (32 : Int64)) + ((((ia SB 0 (gi SR 2)) - (97 : Int32)) + (1 : Int32)).toInt64))) 2) + (1 : Int32))) hP
          have hD := tc_eD (pw2_B_0_2 ca qR qB (.ref (qB 0)) (rR11) (rR12) (sl SR 8 (((gl SR 8) * (32 : Int64)) + ((((ia SB 0 (gi SR 2)) - (97 : Int32)) + (1 : Int32)).toInt64))) SB ((gi (sl SR 8 (((gl SR 8) * (32 : Int64)) + ((((ia SB 0 (gi SR 2)) - (97 : Int32)) + (1 : Int32)).toInt64))) 2) + (1 : Int32))) hD
          refine lv_goto (tgt := 75) hx hb dX4_advance_152 (by decide) ?_
          exact ih (si (sl SR 8 (((gl SR 8) * (32 : Int64)) + ((((ia SB 0 (gi SR 2)) - (97 : Int32)) + (1 : Int32)).toInt64))) 2 ((gi (sl SR 8 (((gl SR 8) * (32 : Int64)) + ((((ia SB 0 (gi SR 2)) - (97 : Int32)) + (1 : Int32)).toInt64))) 2) + (1 : Int32))) hf _ _ _ hP hD hS (lv_sub hl [0] rfl)
set_option maxRecDepth 20000 in
theorem tX4_advanceE_52 {qR : Nat → Nat} {qB : Nat → Nat} {rR11 : Value} {rR12 : Value} (X : tc_X dC dI ca A RX4 cX4_advance 1 none p s m args meth c) (z : ms_T)  (SB : ms_T)   : ∀ (SR : ms_T), fX4_advanceE_52 SB SR = some z → ∀ (H : Heap) (locs : List Loc) (ls : Array Slot), va_P (dC, dI) classes (w2 ca qR (.ref (qB 0)) (rR11) (rR12) SR ++ wLB ca qB SB) H → va_D A (w2 ca qR (.ref (qB 0)) (rR11) (rR12) SR ++ wLB ca qB SB) → va_S A s.heap H locs → lv_has ls 1 [(0, .ref (qR 0))] → W p l e rmX4_advanceE s m args below meth c H locs 0 0 (MQ below (tc_QV dC dI ca A (w2 ca qR (.ref (qB 0)) (rR11) (rR12) z ++ wLB ca qB SB)) args s 0 0 A) (F0 m 52 ls []) := by
  obtain ⟨hx, hb, hr, hml, hown, hts, hlk, hK, hA, hG⟩ := id X
  intro SR hf H locs ls hP hD hS hl
  unfold fX4_advanceE_52 at hf
  refine lv_aload_n hx hb dX4_advance_52 rfl (lv_at hl 0 rfl) ?_
  refine lv_aload_n hx hb dX4_advance_53 rfl (lv_at hl 0 rfl) ?_
  refine va_get (D := (dC, dI)) (ci := 2) (v := .int (gi SR 2)) (C := RX2) (T := TX2) (N := 15) hx hb hts i_X2 hown hK hP 0 rfl rfl 2 (by decide) (hts _ wf_X4_28) (fun _ h9 => h9) rfl dX4_advance_54 ?_
  refine va_put (D := (dC, dI)) (ci := 2) (v := .int (gi SR 2)) (ty := .int) (C := RX2) (T := TX2) (N := 15) hx hb hts i_X2 tyX2 tyX2_ok nmX2 hown hK hP hD hS 0 rfl rfl 3 (by decide) (hts _ wf_X4_40) (fun _ h9 => h9) rfl (tyX2_ok 3 (by decide)) rfl rfl (Nat.le_of_ble_eq_true rfl) dX4_advance_57 (fun H locs hP hD hS => ?_)
  have hP := tc_eP (pw2_B_0_3 ca qR qB (.ref (qB 0)) (rR11) (rR12) SR SB (gi SR 2)) hP
  have hD := tc_eD (pw2_B_0_3 ca qR qB (.ref (qB 0)) (rR11) (rR12) SR SB (gi SR 2)) hD
  refine lv_aload_n hx hb dX4_advance_60 rfl (lv_at hl 0 rfl) ?_
  refine lv_iconst (v := (0 : Int32)) hx hb dX4_advance_61 (by decide) ?_
  refine va_put (D := (dC, dI)) (ci := 2) (v := .int ((0 : Int32))) (ty := .int) (C := RX2) (T := TX2) (N := 15) hx hb hts i_X2 tyX2 tyX2_ok nmX2 hown hK hP hD hS 0 rfl rfl 5 (by decide) (hts _ wf_X4_43) (fun _ h9 => h9) rfl (tyX2_ok 5 (by decide)) rfl rfl (Nat.le_of_ble_eq_true rfl) dX4_advance_62 (fun H locs hP hD hS => ?_)
  have hP := tc_eP (pw2_B_0_5 ca qR qB (.ref (qB 0)) (rR11) (rR12) (si SR 3 (gi SR 2)) SB (0 : Int32)) hP
  have hD := tc_eD (pw2_B_0_5 ca qR qB (.ref (qB 0)) (rR11) (rR12) (si SR 3 (gi SR 2)) SB (0 : Int32)) hD
  refine lv_aload_n hx hb dX4_advance_65 rfl (lv_at hl 0 rfl) ?_
  refine lv_iconst (v := (-1 : Int32)) hx hb dX4_advance_66 (by decide) ?_
  refine va_put (D := (dC, dI)) (ci := 2) (v := .int ((-1 : Int32))) (ty := .int) (C := RX2) (T := TX2) (N := 15) hx hb hts i_X2 tyX2 tyX2_ok nmX2 hown hK hP hD hS 0 rfl rfl 7 (by decide) (hts _ wf_X4_46) (fun _ h9 => h9) rfl (tyX2_ok 7 (by decide)) rfl rfl (Nat.le_of_ble_eq_true rfl) dX4_advance_67 (fun H locs hP hD hS => ?_)
  have hP := tc_eP (pw2_B_0_7 ca qR qB (.ref (qB 0)) (rR11) (rR12) (si (si SR 3 (gi SR 2)) 5 (0 : Int32)) SB (-1 : Int32)) hP
  have hD := tc_eD (pw2_B_0_7 ca qR qB (.ref (qB 0)) (rR11) (rR12) (si (si SR 3 (gi SR 2)) 5 (0 : Int32)) SB (-1 : Int32)) hD
  refine lv_aload_n hx hb dX4_advance_70 rfl (lv_at hl 0 rfl) ?_
  refine lv_lconst (v := (0 : Int64)) hx hb dX4_advance_71 (by decide) ?_
  refine va_put (D := (dC, dI)) (ci := 2) (v := .long ((0 : Int64))) (ty := .long) (C := RX2) (T := TX2) (N := 15) hx hb hts i_X2 tyX2 tyX2_ok nmX2 hown hK hP hD hS 0 rfl rfl 8 (by decide) (hts _ wf_X4_49) (fun _ h9 => h9) rfl (tyX2_ok 8 (by decide)) rfl rfl (Nat.le_of_ble_eq_true rfl) dX4_advance_72 (fun H locs hP hD hS => ?_)
  have hP := tc_eP (pw2_B_0_8 ca qR qB (.ref (qB 0)) (rR11) (rR12) (si (si (si SR 3 (gi SR 2)) 5 (0 : Int32)) 7 (-1 : Int32)) SB (0 : Int64)) hP
  have hD := tc_eD (pw2_B_0_8 ca qR qB (.ref (qB 0)) (rR11) (rR12) (si (si (si SR 3 (gi SR 2)) 5 (0 : Int32)) 7 (-1 : Int32)) SB (0 : Int64)) hD
  exact tX4_advanceE_75 X z SB FU (sl (si (si (si SR 3 (gi SR 2)) 5 (0 : Int32)) 7 (-1 : Int32)) 8 (0 : Int64)) hf _ _ _ hP hD hS (lv_sub hl [0] rfl)
set_option maxRecDepth 20000 in
theorem tX4_advanceE_0 {qR : Nat → Nat} {qB : Nat → Nat} {rR11 : Value} {rR12 : Value} (X : tc_X dC dI ca A RX4 cX4_advance 1 none p s m args meth c) (z : ms_T)  (SB : ms_T)   : ∀ n : Nat, ∀ (SR : ms_T), fX4_advanceE_0 SB n SR = some z → ∀ (H : Heap) (locs : List Loc) (ls : Array Slot), va_P (dC, dI) classes (w2 ca qR (.ref (qB 0)) (rR11) (rR12) SR ++ wLB ca qB SB) H → va_D A (w2 ca qR (.ref (qB 0)) (rR11) (rR12) SR ++ wLB ca qB SB) → va_S A s.heap H locs → lv_has ls 1 [(0, .ref (qR 0))] → W p l e rmX4_advanceE s m args below meth c H locs 0 0 (MQ below (tc_QV dC dI ca A (w2 ca qR (.ref (qB 0)) (rR11) (rR12) z ++ wLB ca qB SB)) args s 0 0 A) (F0 m 0 ls []) := by
  obtain ⟨hx, hb, hr, hml, hown, hts, hlk, hK, hA, hG⟩ := id X
  intro n
  induction n with
  | zero => intro SR hf; exact absurd (show none = some z from hf) (fun h => by cases h)
  | succ n ih =>
    intro SR hf H locs ls hP hD hS hl
    rw [fX4_advanceE_0] at hf
    refine lv_aload_n hx hb dX4_advance_0 rfl (lv_at hl 0 rfl) ?_
    refine va_get (D := (dC, dI)) (ci := 2) (v := .int (gi SR 2)) (C := RX2) (T := TX2) (N := 15) hx hb hts i_X2 hown hK hP 0 rfl rfl 2 (by decide) (hts _ wf_X4_28) (fun _ h9 => h9) rfl dX4_advance_1 ?_
    refine lv_aload_n hx hb dX4_advance_4 rfl (lv_at hl 0 rfl) ?_
    refine va_get (D := (dC, dI)) (ci := 2) (v := .int (gi SR 1)) (C := RX2) (T := TX2) (N := 15) hx hb hts i_X2 hown hK hP 0 rfl rfl 1 (by decide) (hts _ wf_X4_24) (fun _ h9 => h9) rfl dX4_advance_5 ?_
    refine lv_icmp_ge (tgt := 52) hx hb dX4_advance_8 (by decide) (fun hc => ?_) (fun hc => ?_)
    · have hf := tc_pos hc hf
      exact tX4_advanceE_52 X z SB SR hf _ _ _ hP hD hS (lv_sub hl [0] rfl)
    · have hf := tc_neg hc hf
      refine lv_aload_n hx hb dX4_advance_11 rfl (lv_at hl 0 rfl) ?_
      refine va_get (D := (dC, dI)) (ci := 2) (v := .ref (qB 0)) (C := RX2) (T := TX2) (N := 15) hx hb hts i_X2 hown hK hP 0 rfl rfl 0 (by decide) (hts _ wf_X4_9) (fun _ h9 => h9) rfl dX4_advance_12 ?_
      refine lv_aload_n hx hb dX4_advance_15 rfl (lv_at hl 0 rfl) ?_
      refine va_get (D := (dC, dI)) (ci := 2) (v := .int (gi SR 2)) (C := RX2) (T := TX2) (N := 15) hx hb hts i_X2 hown hK hP 0 rfl rfl 2 (by decide) (hts _ wf_X4_28) (fun _ h9 => h9) rfl dX4_advance_16 ?_
      obtain ⟨hi9, hf⟩ := tc_in hf
      refine va_bald hx hb hK hP 2 0 rfl rfl hi9 dX4_advance_19 ?_
      refine lv_bipush (v := (32 : Int32)) hx hb dX4_advance_20 (by decide) ?_
      refine lv_icmp_eq (tgt := 39) hx hb dX4_advance_22 (by decide) (fun hc => ?_) (fun hc => ?_)
      · have hf := tc_pos hc hf
        refine lv_aload_n hx hb dX4_advance_39 rfl (lv_at hl 0 rfl) ?_
        refine lv_dup hx hb dX4_advance_40 rfl ?_
        refine va_get (D := (dC, dI)) (ci := 2) (v := .int (gi SR 2)) (C := RX2) (T := TX2) (N := 15) hx hb hts i_X2 hown hK hP 0 rfl rfl 2 (by decide) (hts _ wf_X4_28) (fun _ h9 => h9) rfl dX4_advance_41 ?_
        refine lv_iconst (v := (1 : Int32)) hx hb dX4_advance_44 (by decide) ?_
        refine lv_iadd hx hb dX4_advance_45 ?_
        refine va_put (D := (dC, dI)) (ci := 2) (v := .int ((gi SR 2) + (1 : Int32))) (ty := .int) (C := RX2) (T := TX2) (N := 15) hx hb hts i_X2 tyX2 tyX2_ok nmX2 hown hK hP hD hS 0 rfl rfl 2 (by decide) (hts _ wf_X4_28) (fun _ h9 => h9) rfl (tyX2_ok 2 (by decide)) rfl rfl (Nat.le_of_ble_eq_true rfl) dX4_advance_46 (fun H locs hP hD hS => ?_)
        have hP := tc_eP (pw2_B_0_2 ca qR qB (.ref (qB 0)) (rR11) (rR12) SR SB ((gi SR 2) + (1 : Int32))) hP
        have hD := tc_eD (pw2_B_0_2 ca qR qB (.ref (qB 0)) (rR11) (rR12) SR SB ((gi SR 2) + (1 : Int32))) hD
        refine lv_goto (tgt := 0) hx hb dX4_advance_49 (by decide) ?_
        exact ih (si SR 2 ((gi SR 2) + (1 : Int32))) hf _ _ _ hP hD hS (lv_sub hl [0] rfl)
      · have hf := tc_neg hc hf
        refine lv_aload_n hx hb dX4_advance_25 rfl (lv_at hl 0 rfl) ?_
        refine va_get (D := (dC, dI)) (ci := 2) (v := .ref (qB 0)) (C := RX2) (T := TX2) (N := 15) hx hb hts i_X2 hown hK hP 0 rfl rfl 0 (by decide) (hts _ wf_X4_9) (fun _ h9 => h9) rfl dX4_advance_26 ?_
        refine lv_aload_n hx hb dX4_advance_29 rfl (lv_at hl 0 rfl) ?_
        refine va_get (D := (dC, dI)) (ci := 2) (v := .int (gi SR 2)) (C := RX2) (T := TX2) (N := 15) hx hb hts i_X2 hown hK hP 0 rfl rfl 2 (by decide) (hts _ wf_X4_28) (fun _ h9 => h9) rfl dX4_advance_30 ?_
        obtain ⟨hi10, hf⟩ := tc_in hf
        refine va_bald hx hb hK hP 2 0 rfl rfl hi10 dX4_advance_33 ?_
        refine lv_bipush (v := (10 : Int32)) hx hb dX4_advance_34 (by decide) ?_
        refine lv_icmp_ne (tgt := 52) hx hb dX4_advance_36 (by decide) (fun hc => ?_) (fun hc => ?_)
        · have hf := tc_neg hc hf
          exact tX4_advanceE_52 X z SB SR hf _ _ _ hP hD hS (lv_sub hl [0] rfl)
        · have hf := tc_pos hc hf
          refine lv_aload_n hx hb dX4_advance_39 rfl (lv_at hl 0 rfl) ?_
          refine lv_dup hx hb dX4_advance_40 rfl ?_
          refine va_get (D := (dC, dI)) (ci := 2) (v := .int (gi SR 2)) (C := RX2) (T := TX2) (N := 15) hx hb hts i_X2 hown hK hP 0 rfl rfl 2 (by decide) (hts _ wf_X4_28) (fun _ h9 => h9) rfl dX4_advance_41 ?_
          refine lv_iconst (v := (1 : Int32)) hx hb dX4_advance_44 (by decide) ?_
          refine lv_iadd hx hb dX4_advance_45 ?_
          refine va_put (D := (dC, dI)) (ci := 2) (v := .int ((gi SR 2) + (1 : Int32))) (ty := .int) (C := RX2) (T := TX2) (N := 15) hx hb hts i_X2 tyX2 tyX2_ok nmX2 hown hK hP hD hS 0 rfl rfl 2 (by decide) (hts _ wf_X4_28) (fun _ h9 => h9) rfl (tyX2_ok 2 (by decide)) rfl rfl (Nat.le_of_ble_eq_true rfl) dX4_advance_46 (fun H locs hP hD hS => ?_)
          have hP := tc_eP (pw2_B_0_2 ca qR qB (.ref (qB 0)) (rR11) (rR12) SR SB ((gi SR 2) + (1 : Int32))) hP
          have hD := tc_eD (pw2_B_0_2 ca qR qB (.ref (qB 0)) (rR11) (rR12) SR SB ((gi SR 2) + (1 : Int32))) hD
          refine lv_goto (tgt := 0) hx hb dX4_advance_49 (by decide) ?_
          exact ih (si SR 2 ((gi SR 2) + (1 : Int32))) hf _ _ _ hP hD hS (lv_sub hl [0] rfl)
set_option maxRecDepth 20000 in
theorem mX4_advanceE {qR : Nat → Nat} {qB : Nat → Nat} {rR11 : Value} {rR12 : Value} {SR : ms_T} {SB : ms_T}  {z : ms_T}  (hf : fX4_advanceE SR SB = some z) : tc_MV l dC dI ca yX4_advance cX4_advance 1 none rmX4_advanceE [.ref (qR 0)] (w2 ca qR (.ref (qB 0)) (rR11) (rR12) SR ++ wLB ca qB SB) (w2 ca qR (.ref (qB 0)) (rR11) (rR12) z ++ wLB ca qB SB) := by
  refine tc_metV (own := RX4) (by decide) rfl ?_ (Nat.le_of_ble_eq_true rfl)
  intro p e s m below meth c A X hP hD hS ls hl
  obtain ⟨hx, hb, hr, hml, hown, hts, hlk, hK, hA, hG⟩ := id X
  unfold fX4_advanceE at hf
  have hl : lv_has ls 1 [(0, .ref (qR 0))] := hl
  exact tX4_advanceE_0 X z SB FU SR hf _ _ _ hP hD hS (lv_sub hl [0] rfl)
theorem pw8_B_0_1 (ca : Nat → ClassId) (q0 q1 : Nat → Nat) (r0_0 r0_11 : Value) (S0 S1 : ms_T) (v : Int32) : (w8 ca q0 r0_0 r0_11 S0 ++ wLB ca q1 S1 : va_W).set 0 (q0 0, .inr (8, List.set (r0_0 :: .int (gi S0 1) :: .int (gi S0 2) :: .int (gi S0 3) :: .int (gi S0 4) :: .int (gi S0 5) :: .int (gi S0 6) :: .int (gi S0 7) :: .long (gl S0 8) :: .int (gi S0 9) :: .int (gi S0 10) :: r0_11 :: .int (gi S0 12) :: []) 1 (.int v))) = w8 ca q0 r0_0 r0_11 (si S0 1 v) ++ wLB ca q1 S1 := rfl
theorem pw8_B_0_9 (ca : Nat → ClassId) (q0 q1 : Nat → Nat) (r0_0 r0_11 : Value) (S0 S1 : ms_T) (v : Int32) : (w8 ca q0 r0_0 r0_11 S0 ++ wLB ca q1 S1 : va_W).set 0 (q0 0, .inr (8, List.set (r0_0 :: .int (gi S0 1) :: .int (gi S0 2) :: .int (gi S0 3) :: .int (gi S0 4) :: .int (gi S0 5) :: .int (gi S0 6) :: .int (gi S0 7) :: .long (gl S0 8) :: .int (gi S0 9) :: .int (gi S0 10) :: r0_11 :: .int (gi S0 12) :: []) 9 (.int v))) = w8 ca q0 r0_0 r0_11 (si S0 9 v) ++ wLB ca q1 S1 := rfl
theorem pw8_B_0_10 (ca : Nat → ClassId) (q0 q1 : Nat → Nat) (r0_0 r0_11 : Value) (S0 S1 : ms_T) (v : Int32) : (w8 ca q0 r0_0 r0_11 S0 ++ wLB ca q1 S1 : va_W).set 0 (q0 0, .inr (8, List.set (r0_0 :: .int (gi S0 1) :: .int (gi S0 2) :: .int (gi S0 3) :: .int (gi S0 4) :: .int (gi S0 5) :: .int (gi S0 6) :: .int (gi S0 7) :: .long (gl S0 8) :: .int (gi S0 9) :: .int (gi S0 10) :: r0_11 :: .int (gi S0 12) :: []) 10 (.int v))) = w8 ca q0 r0_0 r0_11 (si S0 10 v) ++ wLB ca q1 S1 := rfl
def fX4_beginT  (SR : ms_T) (SB : ms_T) (a1 : Int32) : Option (ms_T) :=
  (fX4_advanceT (si (si (si (si SR 1 (jmax (0 : Int32) (jmin a1 (900 : Int32)))) 2 (0 : Int32)) 9 (0 : Int32)) 10 (-1 : Int32)) SB).bind fun z1 =>
  some (z1)
abbrev rmX4_beginT : Room := { frames := 10, cells := 0, slots := 0, locals := 445 }
theorem okX4_begin : tc_ok yX4_begin cX4_begin 2 none 1 := ⟨wc_X4_begin, wn_X4, by decide, by decide, by decide +kernel⟩
set_option maxRecDepth 20000 in
theorem mX4_beginT {qR : Nat → Nat} {qB : Nat → Nat} {rR11 : Value} {SR : ms_T} {SB : ms_T} {a1 : Int32} {z : ms_T}  (hf : fX4_beginT SR SB a1 = some z) : tc_MV l dC dI ca yX4_begin cX4_begin 2 none rmX4_beginT [.ref (qR 0), .int (a1)] (w8 ca qR (.ref (qB 0)) (rR11) SR ++ wLB ca qB SB) (w8 ca qR (.ref (qB 0)) (rR11) z ++ wLB ca qB SB) := by
  refine tc_metV (own := RX4) (by decide) rfl ?_ (Nat.le_of_ble_eq_true rfl)
  intro p e s m below meth c A X hP hD hS ls hl
  obtain ⟨hx, hb, hr, hml, hown, hts, hlk, hK, hA, hG⟩ := id X
  unfold fX4_beginT at hf
  have hl : lv_has ls 2 [(0, .ref (qR 0)), (1, .int (a1))] := hl
  refine lv_aload_n hx hb dX4_begin_0 rfl (lv_at hl 0 rfl) ?_
  refine lv_iconst (v := (0 : Int32)) hx hb dX4_begin_1 (by decide) ?_
  refine lv_iload_n hx hb dX4_begin_2 rfl (lv_at hl 1 rfl) ?_
  refine lv_aload_n hx hb dX4_begin_3 rfl (lv_at hl 0 rfl) ?_
  refine va_get (D := (dC, dI)) (ci := 8) (v := .ref (qB 0)) (C := RX8) (T := TX8) (N := 13) hx hb hts i_X8 hown hK hP 0 rfl rfl 0 (by decide) (hts _ wf_X4_9) (fun _ h9 => h9) rfl dX4_begin_4 ?_
  refine va_alen (v := (900 : Int32)) hx hb hK hP 1 0 rfl rfl rfl dX4_begin_7 ?_
  refine tc_mmin (rest := [.int ((0 : Int32)), .ref (qR 0)]) X hl.1 wl_X4_15 (Nat.le_of_ble_eq_true rfl) (Nat.le_of_ble_eq_true rfl) dX4_begin_8 ?_
  refine tc_mmax (rest := [.ref (qR 0)]) X hl.1 wl_X4_21 (Nat.le_of_ble_eq_true rfl) (Nat.le_of_ble_eq_true rfl) dX4_begin_11 ?_
  refine va_put (D := (dC, dI)) (ci := 8) (v := .int (jmax (0 : Int32) (jmin a1 (900 : Int32)))) (ty := .int) (C := RX8) (T := TX8) (N := 13) hx hb hts i_X8 tyX8 tyX8_ok nmX8 hown hK hP hD hS 0 rfl rfl 1 (by decide) (hts _ wf_X4_24) (fun _ h9 => h9) rfl (tyX8_ok 1 (by decide)) rfl rfl (Nat.le_of_ble_eq_true rfl) dX4_begin_14 (fun H locs hP hD hS => ?_)
  have hP := tc_eP (pw8_B_0_1 ca qR qB (.ref (qB 0)) (rR11) SR SB (jmax (0 : Int32) (jmin a1 (900 : Int32)))) hP
  have hD := tc_eD (pw8_B_0_1 ca qR qB (.ref (qB 0)) (rR11) SR SB (jmax (0 : Int32) (jmin a1 (900 : Int32)))) hD
  refine lv_aload_n hx hb dX4_begin_17 rfl (lv_at hl 0 rfl) ?_
  refine lv_iconst (v := (0 : Int32)) hx hb dX4_begin_18 (by decide) ?_
  refine va_put (D := (dC, dI)) (ci := 8) (v := .int ((0 : Int32))) (ty := .int) (C := RX8) (T := TX8) (N := 13) hx hb hts i_X8 tyX8 tyX8_ok nmX8 hown hK hP hD hS 0 rfl rfl 2 (by decide) (hts _ wf_X4_28) (fun _ h9 => h9) rfl (tyX8_ok 2 (by decide)) rfl rfl (Nat.le_of_ble_eq_true rfl) dX4_begin_19 (fun H locs hP hD hS => ?_)
  have hP := tc_eP (pw8_B_0_2 ca qR qB (.ref (qB 0)) (rR11) (si SR 1 (jmax (0 : Int32) (jmin a1 (900 : Int32)))) SB (0 : Int32)) hP
  have hD := tc_eD (pw8_B_0_2 ca qR qB (.ref (qB 0)) (rR11) (si SR 1 (jmax (0 : Int32) (jmin a1 (900 : Int32)))) SB (0 : Int32)) hD
  refine lv_aload_n hx hb dX4_begin_22 rfl (lv_at hl 0 rfl) ?_
  refine lv_iconst (v := (0 : Int32)) hx hb dX4_begin_23 (by decide) ?_
  refine va_put (D := (dC, dI)) (ci := 8) (v := .int ((0 : Int32))) (ty := .int) (C := RX8) (T := TX8) (N := 13) hx hb hts i_X8 tyX8 tyX8_ok nmX8 hown hK hP hD hS 0 rfl rfl 9 (by decide) (hts _ wf_X4_31) (fun _ h9 => h9) rfl (tyX8_ok 9 (by decide)) rfl rfl (Nat.le_of_ble_eq_true rfl) dX4_begin_24 (fun H locs hP hD hS => ?_)
  have hP := tc_eP (pw8_B_0_9 ca qR qB (.ref (qB 0)) (rR11) (si (si SR 1 (jmax (0 : Int32) (jmin a1 (900 : Int32)))) 2 (0 : Int32)) SB (0 : Int32)) hP
  have hD := tc_eD (pw8_B_0_9 ca qR qB (.ref (qB 0)) (rR11) (si (si SR 1 (jmax (0 : Int32) (jmin a1 (900 : Int32)))) 2 (0 : Int32)) SB (0 : Int32)) hD
  refine lv_aload_n hx hb dX4_begin_27 rfl (lv_at hl 0 rfl) ?_
  refine lv_iconst (v := (-1 : Int32)) hx hb dX4_begin_28 (by decide) ?_
  refine va_put (D := (dC, dI)) (ci := 8) (v := .int ((-1 : Int32))) (ty := .int) (C := RX8) (T := TX8) (N := 13) hx hb hts i_X8 tyX8 tyX8_ok nmX8 hown hK hP hD hS 0 rfl rfl 10 (by decide) (hts _ wf_X4_34) (fun _ h9 => h9) rfl (tyX8_ok 10 (by decide)) rfl rfl (Nat.le_of_ble_eq_true rfl) dX4_begin_29 (fun H locs hP hD hS => ?_)
  have hP := tc_eP (pw8_B_0_10 ca qR qB (.ref (qB 0)) (rR11) (si (si (si SR 1 (jmax (0 : Int32) (jmin a1 (900 : Int32)))) 2 (0 : Int32)) 9 (0 : Int32)) SB (-1 : Int32)) hP
  have hD := tc_eD (pw8_B_0_10 ca qR qB (.ref (qB 0)) (rR11) (si (si (si SR 1 (jmax (0 : Int32) (jmin a1 (900 : Int32)))) 2 (0 : Int32)) 9 (0 : Int32)) SB (-1 : Int32)) hD
  refine lv_aload_n hx hb dX4_begin_32 rfl (lv_at hl 0 rfl) ?_
  obtain ⟨z1, hg, hf⟩ := tc_bi hf
  refine tc_vVs (As := []) (rest := []) (b := qR 0) X hP hD hS (mX4_advanceT hg) okX4_advance wl_X4_37 wi_X4_advance ws_X8_X4_advance_X4_advance ⟨rfl, rfl, Nat.le_of_ble_eq_true rfl, Nat.le_of_ble_eq_true rfl⟩ 8 0 rfl rfl rfl hl.1 (Nat.le_of_ble_eq_true rfl) dX4_begin_33 (fun H locs hP hD hS => ?_)
  obtain rfl := Option.some.inj hf
  exact tc_rv X hP hD hS rfl dX4_begin_36 rfl
theorem pw2_B_0_1 (ca : Nat → ClassId) (q0 q1 : Nat → Nat) (r0_0 r0_11 r0_12 : Value) (S0 S1 : ms_T) (v : Int32) : (w2 ca q0 r0_0 r0_11 r0_12 S0 ++ wLB ca q1 S1 : va_W).set 0 (q0 0, .inr (2, List.set (r0_0 :: .int (gi S0 1) :: .int (gi S0 2) :: .int (gi S0 3) :: .int (gi S0 4) :: .int (gi S0 5) :: .int (gi S0 6) :: .int (gi S0 7) :: .long (gl S0 8) :: .int (gi S0 9) :: .int (gi S0 10) :: r0_11 :: r0_12 :: .int (gi S0 13) :: .ref (q0 1) :: []) 1 (.int v))) = w2 ca q0 r0_0 r0_11 r0_12 (si S0 1 v) ++ wLB ca q1 S1 := rfl
theorem pw2_B_0_9 (ca : Nat → ClassId) (q0 q1 : Nat → Nat) (r0_0 r0_11 r0_12 : Value) (S0 S1 : ms_T) (v : Int32) : (w2 ca q0 r0_0 r0_11 r0_12 S0 ++ wLB ca q1 S1 : va_W).set 0 (q0 0, .inr (2, List.set (r0_0 :: .int (gi S0 1) :: .int (gi S0 2) :: .int (gi S0 3) :: .int (gi S0 4) :: .int (gi S0 5) :: .int (gi S0 6) :: .int (gi S0 7) :: .long (gl S0 8) :: .int (gi S0 9) :: .int (gi S0 10) :: r0_11 :: r0_12 :: .int (gi S0 13) :: .ref (q0 1) :: []) 9 (.int v))) = w2 ca q0 r0_0 r0_11 r0_12 (si S0 9 v) ++ wLB ca q1 S1 := rfl
theorem pw2_B_0_10 (ca : Nat → ClassId) (q0 q1 : Nat → Nat) (r0_0 r0_11 r0_12 : Value) (S0 S1 : ms_T) (v : Int32) : (w2 ca q0 r0_0 r0_11 r0_12 S0 ++ wLB ca q1 S1 : va_W).set 0 (q0 0, .inr (2, List.set (r0_0 :: .int (gi S0 1) :: .int (gi S0 2) :: .int (gi S0 3) :: .int (gi S0 4) :: .int (gi S0 5) :: .int (gi S0 6) :: .int (gi S0 7) :: .long (gl S0 8) :: .int (gi S0 9) :: .int (gi S0 10) :: r0_11 :: r0_12 :: .int (gi S0 13) :: .ref (q0 1) :: []) 10 (.int v))) = w2 ca q0 r0_0 r0_11 r0_12 (si S0 10 v) ++ wLB ca q1 S1 := rfl
def fX4_beginE  (SR : ms_T) (SB : ms_T) (a1 : Int32) : Option (ms_T) :=
  (fX4_advanceE (si (si (si (si SR 1 (jmax (0 : Int32) (jmin a1 (900 : Int32)))) 2 (0 : Int32)) 9 (0 : Int32)) 10 (-1 : Int32)) SB).bind fun z1 =>
  some (z1)
abbrev rmX4_beginE : Room := { frames := 10, cells := 0, slots := 0, locals := 445 }
set_option maxRecDepth 20000 in
theorem mX4_beginE {qR : Nat → Nat} {qB : Nat → Nat} {rR11 : Value} {rR12 : Value} {SR : ms_T} {SB : ms_T} {a1 : Int32} {z : ms_T}  (hf : fX4_beginE SR SB a1 = some z) : tc_MV l dC dI ca yX4_begin cX4_begin 2 none rmX4_beginE [.ref (qR 0), .int (a1)] (w2 ca qR (.ref (qB 0)) (rR11) (rR12) SR ++ wLB ca qB SB) (w2 ca qR (.ref (qB 0)) (rR11) (rR12) z ++ wLB ca qB SB) := by
  refine tc_metV (own := RX4) (by decide) rfl ?_ (Nat.le_of_ble_eq_true rfl)
  intro p e s m below meth c A X hP hD hS ls hl
  obtain ⟨hx, hb, hr, hml, hown, hts, hlk, hK, hA, hG⟩ := id X
  unfold fX4_beginE at hf
  have hl : lv_has ls 2 [(0, .ref (qR 0)), (1, .int (a1))] := hl
  refine lv_aload_n hx hb dX4_begin_0 rfl (lv_at hl 0 rfl) ?_
  refine lv_iconst (v := (0 : Int32)) hx hb dX4_begin_1 (by decide) ?_
  refine lv_iload_n hx hb dX4_begin_2 rfl (lv_at hl 1 rfl) ?_
  refine lv_aload_n hx hb dX4_begin_3 rfl (lv_at hl 0 rfl) ?_
  refine va_get (D := (dC, dI)) (ci := 2) (v := .ref (qB 0)) (C := RX2) (T := TX2) (N := 15) hx hb hts i_X2 hown hK hP 0 rfl rfl 0 (by decide) (hts _ wf_X4_9) (fun _ h9 => h9) rfl dX4_begin_4 ?_
  refine va_alen (v := (900 : Int32)) hx hb hK hP 2 0 rfl rfl rfl dX4_begin_7 ?_
  refine tc_mmin (rest := [.int ((0 : Int32)), .ref (qR 0)]) X hl.1 wl_X4_15 (Nat.le_of_ble_eq_true rfl) (Nat.le_of_ble_eq_true rfl) dX4_begin_8 ?_
  refine tc_mmax (rest := [.ref (qR 0)]) X hl.1 wl_X4_21 (Nat.le_of_ble_eq_true rfl) (Nat.le_of_ble_eq_true rfl) dX4_begin_11 ?_
  refine va_put (D := (dC, dI)) (ci := 2) (v := .int (jmax (0 : Int32) (jmin a1 (900 : Int32)))) (ty := .int) (C := RX2) (T := TX2) (N := 15) hx hb hts i_X2 tyX2 tyX2_ok nmX2 hown hK hP hD hS 0 rfl rfl 1 (by decide) (hts _ wf_X4_24) (fun _ h9 => h9) rfl (tyX2_ok 1 (by decide)) rfl rfl (Nat.le_of_ble_eq_true rfl) dX4_begin_14 (fun H locs hP hD hS => ?_)
  have hP := tc_eP (pw2_B_0_1 ca qR qB (.ref (qB 0)) (rR11) (rR12) SR SB (jmax (0 : Int32) (jmin a1 (900 : Int32)))) hP
  have hD := tc_eD (pw2_B_0_1 ca qR qB (.ref (qB 0)) (rR11) (rR12) SR SB (jmax (0 : Int32) (jmin a1 (900 : Int32)))) hD
  refine lv_aload_n hx hb dX4_begin_17 rfl (lv_at hl 0 rfl) ?_
  refine lv_iconst (v := (0 : Int32)) hx hb dX4_begin_18 (by decide) ?_
  refine va_put (D := (dC, dI)) (ci := 2) (v := .int ((0 : Int32))) (ty := .int) (C := RX2) (T := TX2) (N := 15) hx hb hts i_X2 tyX2 tyX2_ok nmX2 hown hK hP hD hS 0 rfl rfl 2 (by decide) (hts _ wf_X4_28) (fun _ h9 => h9) rfl (tyX2_ok 2 (by decide)) rfl rfl (Nat.le_of_ble_eq_true rfl) dX4_begin_19 (fun H locs hP hD hS => ?_)
  have hP := tc_eP (pw2_B_0_2 ca qR qB (.ref (qB 0)) (rR11) (rR12) (si SR 1 (jmax (0 : Int32) (jmin a1 (900 : Int32)))) SB (0 : Int32)) hP
  have hD := tc_eD (pw2_B_0_2 ca qR qB (.ref (qB 0)) (rR11) (rR12) (si SR 1 (jmax (0 : Int32) (jmin a1 (900 : Int32)))) SB (0 : Int32)) hD
  refine lv_aload_n hx hb dX4_begin_22 rfl (lv_at hl 0 rfl) ?_
  refine lv_iconst (v := (0 : Int32)) hx hb dX4_begin_23 (by decide) ?_
  refine va_put (D := (dC, dI)) (ci := 2) (v := .int ((0 : Int32))) (ty := .int) (C := RX2) (T := TX2) (N := 15) hx hb hts i_X2 tyX2 tyX2_ok nmX2 hown hK hP hD hS 0 rfl rfl 9 (by decide) (hts _ wf_X4_31) (fun _ h9 => h9) rfl (tyX2_ok 9 (by decide)) rfl rfl (Nat.le_of_ble_eq_true rfl) dX4_begin_24 (fun H locs hP hD hS => ?_)
  have hP := tc_eP (pw2_B_0_9 ca qR qB (.ref (qB 0)) (rR11) (rR12) (si (si SR 1 (jmax (0 : Int32) (jmin a1 (900 : Int32)))) 2 (0 : Int32)) SB (0 : Int32)) hP
  have hD := tc_eD (pw2_B_0_9 ca qR qB (.ref (qB 0)) (rR11) (rR12) (si (si SR 1 (jmax (0 : Int32) (jmin a1 (900 : Int32)))) 2 (0 : Int32)) SB (0 : Int32)) hD
  refine lv_aload_n hx hb dX4_begin_27 rfl (lv_at hl 0 rfl) ?_
  refine lv_iconst (v := (-1 : Int32)) hx hb dX4_begin_28 (by decide) ?_
  refine va_put (D := (dC, dI)) (ci := 2) (v := .int ((-1 : Int32))) (ty := .int) (C := RX2) (T := TX2) (N := 15) hx hb hts i_X2 tyX2 tyX2_ok nmX2 hown hK hP hD hS 0 rfl rfl 10 (by decide) (hts _ wf_X4_34) (fun _ h9 => h9) rfl (tyX2_ok 10 (by decide)) rfl rfl (Nat.le_of_ble_eq_true rfl) dX4_begin_29 (fun H locs hP hD hS => ?_)
  have hP := tc_eP (pw2_B_0_10 ca qR qB (.ref (qB 0)) (rR11) (rR12) (si (si (si SR 1 (jmax (0 : Int32) (jmin a1 (900 : Int32)))) 2 (0 : Int32)) 9 (0 : Int32)) SB (-1 : Int32)) hP
  have hD := tc_eD (pw2_B_0_10 ca qR qB (.ref (qB 0)) (rR11) (rR12) (si (si (si SR 1 (jmax (0 : Int32) (jmin a1 (900 : Int32)))) 2 (0 : Int32)) 9 (0 : Int32)) SB (-1 : Int32)) hD
  refine lv_aload_n hx hb dX4_begin_32 rfl (lv_at hl 0 rfl) ?_
  obtain ⟨z1, hg, hf⟩ := tc_bi hf
  refine tc_vVs (As := []) (rest := []) (b := qR 0) X hP hD hS (mX4_advanceE hg) okX4_advance wl_X4_37 wi_X4_advance ws_X2_X4_advance_X4_advance ⟨rfl, rfl, Nat.le_of_ble_eq_true rfl, Nat.le_of_ble_eq_true rfl⟩ 2 0 rfl rfl rfl hl.1 (Nat.le_of_ble_eq_true rfl) dX4_begin_33 (fun H locs hP hD hS => ?_)
  obtain rfl := Option.some.inj hf
  exact tc_rv X hP hD hS rfl dX4_begin_36 rfl
theorem pw8_0_9 (ca : Nat → ClassId) (q0 : Nat → Nat) (r0_0 r0_11 : Value) (S0 : ms_T) (v : Int32) : (w8 ca q0 r0_0 r0_11 S0 : va_W).set 0 (q0 0, .inr (8, List.set (r0_0 :: .int (gi S0 1) :: .int (gi S0 2) :: .int (gi S0 3) :: .int (gi S0 4) :: .int (gi S0 5) :: .int (gi S0 6) :: .int (gi S0 7) :: .long (gl S0 8) :: .int (gi S0 9) :: .int (gi S0 10) :: r0_11 :: .int (gi S0 12) :: []) 9 (.int v))) = w8 ca q0 r0_0 r0_11 (si S0 9 v) := rfl
theorem pw8_0_10 (ca : Nat → ClassId) (q0 : Nat → Nat) (r0_0 r0_11 : Value) (S0 : ms_T) (v : Int32) : (w8 ca q0 r0_0 r0_11 S0 : va_W).set 0 (q0 0, .inr (8, List.set (r0_0 :: .int (gi S0 1) :: .int (gi S0 2) :: .int (gi S0 3) :: .int (gi S0 4) :: .int (gi S0 5) :: .int (gi S0 6) :: .int (gi S0 7) :: .long (gl S0 8) :: .int (gi S0 9) :: .int (gi S0 10) :: r0_11 :: .int (gi S0 12) :: []) 10 (.int v))) = w8 ca q0 r0_0 r0_11 (si S0 10 v) := rfl
def fX4_refuseHereT  (S : ms_T) (a1 : Int32) : Option (Int32 × ms_T) :=
  if (gi S 4) = (4 : Int32) then
    some ((0 : Int32), si (si S 9 (1 : Int32)) 10 (gi (si S 9 (1 : Int32)) 3))
  else
    some ((0 : Int32), si (si S 9 a1) 10 (gi (si S 9 a1) 3))
abbrev rmX4_refuseHereT : Room := { frames := 0, cells := 0, slots := 0, locals := 0 }
theorem okX4_refuseHere : tc_ok yX4_refuseHere cX4_refuseHere 2 (some .boolean) 1 := ⟨wc_X4_refuseHere, wn_X4, by decide, by decide, by decide +kernel⟩
set_option maxRecDepth 20000 in
theorem mX4_refuseHereT {q : Nat → Nat} {rR0 : Value} {rR11 : Value} {S : ms_T} {a1 : Int32} {z : Int32 × ms_T}  (hf : fX4_refuseHereT S a1 = some z) : tc_MI l dC dI ca yX4_refuseHere cX4_refuseHere 2 (some .boolean) rmX4_refuseHereT [.ref (q 0), .int (a1)] (w8 ca q (rR0) (rR11) S) (w8 ca q (rR0) (rR11) z.2) (z.1) := by
  refine tc_metI (own := RX4) (by decide) rfl ?_ (Nat.le_of_ble_eq_true rfl)
  intro p e s m below meth c A X hP hD hS ls hl
  obtain ⟨hx, hb, hr, hml, hown, hts, hlk, hK, hA, hG⟩ := id X
  unfold fX4_refuseHereT at hf
  have hl : lv_has ls 2 [(0, .ref (q 0)), (1, .int (a1))] := hl
  refine lv_aload_n hx hb dX4_refuseHere_0 rfl (lv_at hl 0 rfl) ?_
  refine lv_aload_n hx hb dX4_refuseHere_1 rfl (lv_at hl 0 rfl) ?_
  refine va_get (D := (dC, dI)) (ci := 8) (v := .int (gi S 4)) (C := RX8) (T := TX8) (N := 13) hx hb hts i_X8 hown hK hP 0 rfl rfl 4 (by decide) (hts _ wf_X4_55) (fun _ h9 => h9) rfl dX4_refuseHere_2 ?_
  refine lv_iconst (v := (4 : Int32)) hx hb dX4_refuseHere_5 (by decide) ?_
  refine lv_icmp_ne (tgt := 13) hx hb dX4_refuseHere_6 (by decide) (fun hc => ?_) (fun hc => ?_)
  · have hf := tc_neg hc hf
    refine lv_iload_n hx hb dX4_refuseHere_13 rfl (lv_at hl 1 rfl) ?_
    refine va_put (D := (dC, dI)) (ci := 8) (v := .int (a1)) (ty := .int) (C := RX8) (T := TX8) (N := 13) hx hb hts i_X8 tyX8 tyX8_ok nmX8 hown hK hP hD hS 0 rfl rfl 9 (by decide) (hts _ wf_X4_31) (fun _ h9 => h9) rfl (tyX8_ok 9 (by decide)) rfl rfl (Nat.le_of_ble_eq_true rfl) dX4_refuseHere_14 (fun H locs hP hD hS => ?_)
    have hP := tc_eP (pw8_0_9 ca q (rR0) (rR11) S a1) hP
    have hD := tc_eD (pw8_0_9 ca q (rR0) (rR11) S a1) hD
    refine lv_aload_n hx hb dX4_refuseHere_17 rfl (lv_at hl 0 rfl) ?_
    refine lv_aload_n hx hb dX4_refuseHere_18 rfl (lv_at hl 0 rfl) ?_
    refine va_get (D := (dC, dI)) (ci := 8) (v := .int (gi (si S 9 a1) 3)) (C := RX8) (T := TX8) (N := 13) hx hb hts i_X8 hown hK hP 0 rfl rfl 3 (by decide) (hts _ wf_X4_40) (fun _ h9 => h9) rfl dX4_refuseHere_19 ?_
    refine va_put (D := (dC, dI)) (ci := 8) (v := .int (gi (si S 9 a1) 3)) (ty := .int) (C := RX8) (T := TX8) (N := 13) hx hb hts i_X8 tyX8 tyX8_ok nmX8 hown hK hP hD hS 0 rfl rfl 10 (by decide) (hts _ wf_X4_34) (fun _ h9 => h9) rfl (tyX8_ok 10 (by decide)) rfl rfl (Nat.le_of_ble_eq_true rfl) dX4_refuseHere_22 (fun H locs hP hD hS => ?_)
    have hP := tc_eP (pw8_0_10 ca q (rR0) (rR11) (si S 9 a1) (gi (si S 9 a1) 3)) hP
    have hD := tc_eD (pw8_0_10 ca q (rR0) (rR11) (si S 9 a1) (gi (si S 9 a1) 3)) hD
    refine lv_iconst (v := (0 : Int32)) hx hb dX4_refuseHere_25 (by decide) ?_
    obtain rfl := Option.some.inj hf
    exact tc_rz X hP hD hS rfl dX4_refuseHere_26 (by decide) rfl rfl
  · have hf := tc_pos hc hf
    refine lv_iconst (v := (1 : Int32)) hx hb dX4_refuseHere_9 (by decide) ?_
    refine lv_goto (tgt := 14) hx hb dX4_refuseHere_10 (by decide) ?_
    refine va_put (D := (dC, dI)) (ci := 8) (v := .int ((1 : Int32))) (ty := .int) (C := RX8) (T := TX8) (N := 13) hx hb hts i_X8 tyX8 tyX8_ok nmX8 hown hK hP hD hS 0 rfl rfl 9 (by decide) (hts _ wf_X4_31) (fun _ h9 => h9) rfl (tyX8_ok 9 (by decide)) rfl rfl (Nat.le_of_ble_eq_true rfl) dX4_refuseHere_14 (fun H locs hP hD hS => ?_)
    have hP := tc_eP (pw8_0_9 ca q (rR0) (rR11) S (1 : Int32)) hP
    have hD := tc_eD (pw8_0_9 ca q (rR0) (rR11) S (1 : Int32)) hD
    refine lv_aload_n hx hb dX4_refuseHere_17 rfl (lv_at hl 0 rfl) ?_
    refine lv_aload_n hx hb dX4_refuseHere_18 rfl (lv_at hl 0 rfl) ?_
    refine va_get (D := (dC, dI)) (ci := 8) (v := .int (gi (si S 9 (1 : Int32)) 3)) (C := RX8) (T := TX8) (N := 13) hx hb hts i_X8 hown hK hP 0 rfl rfl 3 (by decide) (hts _ wf_X4_40) (fun _ h9 => h9) rfl dX4_refuseHere_19 ?_
    refine va_put (D := (dC, dI)) (ci := 8) (v := .int (gi (si S 9 (1 : Int32)) 3)) (ty := .int) (C := RX8) (T := TX8) (N := 13) hx hb hts i_X8 tyX8 tyX8_ok nmX8 hown hK hP hD hS 0 rfl rfl 10 (by decide) (hts _ wf_X4_34) (fun _ h9 => h9) rfl (tyX8_ok 10 (by decide)) rfl rfl (Nat.le_of_ble_eq_true rfl) dX4_refuseHere_22 (fun H locs hP hD hS => ?_)
    have hP := tc_eP (pw8_0_10 ca q (rR0) (rR11) (si S 9 (1 : Int32)) (gi (si S 9 (1 : Int32)) 3)) hP
    have hD := tc_eD (pw8_0_10 ca q (rR0) (rR11) (si S 9 (1 : Int32)) (gi (si S 9 (1 : Int32)) 3)) hD
    refine lv_iconst (v := (0 : Int32)) hx hb dX4_refuseHere_25 (by decide) ?_
    obtain rfl := Option.some.inj hf
    exact tc_rz X hP hD hS rfl dX4_refuseHere_26 (by decide) rfl rfl
theorem pw2_0_9 (ca : Nat → ClassId) (q0 : Nat → Nat) (r0_0 r0_11 r0_12 : Value) (S0 : ms_T) (v : Int32) : (w2 ca q0 r0_0 r0_11 r0_12 S0 : va_W).set 0 (q0 0, .inr (2, List.set (r0_0 :: .int (gi S0 1) :: .int (gi S0 2) :: .int (gi S0 3) :: .int (gi S0 4) :: .int (gi S0 5) :: .int (gi S0 6) :: .int (gi S0 7) :: .long (gl S0 8) :: .int (gi S0 9) :: .int (gi S0 10) :: r0_11 :: r0_12 :: .int (gi S0 13) :: .ref (q0 1) :: []) 9 (.int v))) = w2 ca q0 r0_0 r0_11 r0_12 (si S0 9 v) := rfl
theorem pw2_0_10 (ca : Nat → ClassId) (q0 : Nat → Nat) (r0_0 r0_11 r0_12 : Value) (S0 : ms_T) (v : Int32) : (w2 ca q0 r0_0 r0_11 r0_12 S0 : va_W).set 0 (q0 0, .inr (2, List.set (r0_0 :: .int (gi S0 1) :: .int (gi S0 2) :: .int (gi S0 3) :: .int (gi S0 4) :: .int (gi S0 5) :: .int (gi S0 6) :: .int (gi S0 7) :: .long (gl S0 8) :: .int (gi S0 9) :: .int (gi S0 10) :: r0_11 :: r0_12 :: .int (gi S0 13) :: .ref (q0 1) :: []) 10 (.int v))) = w2 ca q0 r0_0 r0_11 r0_12 (si S0 10 v) := rfl
def fX4_refuseHereE  (S : ms_T) (a1 : Int32) : Option (Int32 × ms_T) :=
  if (gi S 4) = (4 : Int32) then
    some ((0 : Int32), si (si S 9 (1 : Int32)) 10 (gi (si S 9 (1 : Int32)) 3))
  else
    some ((0 : Int32), si (si S 9 a1) 10 (gi (si S 9 a1) 3))
abbrev rmX4_refuseHereE : Room := { frames := 0, cells := 0, slots := 0, locals := 0 }
set_option maxRecDepth 20000 in
theorem mX4_refuseHereE {q : Nat → Nat} {rR0 : Value} {rR11 : Value} {rR12 : Value} {S : ms_T} {a1 : Int32} {z : Int32 × ms_T}  (hf : fX4_refuseHereE S a1 = some z) : tc_MI l dC dI ca yX4_refuseHere cX4_refuseHere 2 (some .boolean) rmX4_refuseHereE [.ref (q 0), .int (a1)] (w2 ca q (rR0) (rR11) (rR12) S) (w2 ca q (rR0) (rR11) (rR12) z.2) (z.1) := by
  refine tc_metI (own := RX4) (by decide) rfl ?_ (Nat.le_of_ble_eq_true rfl)
  intro p e s m below meth c A X hP hD hS ls hl
  obtain ⟨hx, hb, hr, hml, hown, hts, hlk, hK, hA, hG⟩ := id X
  unfold fX4_refuseHereE at hf
  have hl : lv_has ls 2 [(0, .ref (q 0)), (1, .int (a1))] := hl
  refine lv_aload_n hx hb dX4_refuseHere_0 rfl (lv_at hl 0 rfl) ?_
  refine lv_aload_n hx hb dX4_refuseHere_1 rfl (lv_at hl 0 rfl) ?_
  refine va_get (D := (dC, dI)) (ci := 2) (v := .int (gi S 4)) (C := RX2) (T := TX2) (N := 15) hx hb hts i_X2 hown hK hP 0 rfl rfl 4 (by decide) (hts _ wf_X4_55) (fun _ h9 => h9) rfl dX4_refuseHere_2 ?_
  refine lv_iconst (v := (4 : Int32)) hx hb dX4_refuseHere_5 (by decide) ?_
  refine lv_icmp_ne (tgt := 13) hx hb dX4_refuseHere_6 (by decide) (fun hc => ?_) (fun hc => ?_)
  · have hf := tc_neg hc hf
    refine lv_iload_n hx hb dX4_refuseHere_13 rfl (lv_at hl 1 rfl) ?_
    refine va_put (D := (dC, dI)) (ci := 2) (v := .int (a1)) (ty := .int) (C := RX2) (T := TX2) (N := 15) hx hb hts i_X2 tyX2 tyX2_ok nmX2 hown hK hP hD hS 0 rfl rfl 9 (by decide) (hts _ wf_X4_31) (fun _ h9 => h9) rfl (tyX2_ok 9 (by decide)) rfl rfl (Nat.le_of_ble_eq_true rfl) dX4_refuseHere_14 (fun H locs hP hD hS => ?_)
    have hP := tc_eP (pw2_0_9 ca q (rR0) (rR11) (rR12) S a1) hP
    have hD := tc_eD (pw2_0_9 ca q (rR0) (rR11) (rR12) S a1) hD
    refine lv_aload_n hx hb dX4_refuseHere_17 rfl (lv_at hl 0 rfl) ?_
    refine lv_aload_n hx hb dX4_refuseHere_18 rfl (lv_at hl 0 rfl) ?_
    refine va_get (D := (dC, dI)) (ci := 2) (v := .int (gi (si S 9 a1) 3)) (C := RX2) (T := TX2) (N := 15) hx hb hts i_X2 hown hK hP 0 rfl rfl 3 (by decide) (hts _ wf_X4_40) (fun _ h9 => h9) rfl dX4_refuseHere_19 ?_
    refine va_put (D := (dC, dI)) (ci := 2) (v := .int (gi (si S 9 a1) 3)) (ty := .int) (C := RX2) (T := TX2) (N := 15) hx hb hts i_X2 tyX2 tyX2_ok nmX2 hown hK hP hD hS 0 rfl rfl 10 (by decide) (hts _ wf_X4_34) (fun _ h9 => h9) rfl (tyX2_ok 10 (by decide)) rfl rfl (Nat.le_of_ble_eq_true rfl) dX4_refuseHere_22 (fun H locs hP hD hS => ?_)
    have hP := tc_eP (pw2_0_10 ca q (rR0) (rR11) (rR12) (si S 9 a1) (gi (si S 9 a1) 3)) hP
    have hD := tc_eD (pw2_0_10 ca q (rR0) (rR11) (rR12) (si S 9 a1) (gi (si S 9 a1) 3)) hD
    refine lv_iconst (v := (0 : Int32)) hx hb dX4_refuseHere_25 (by decide) ?_
    obtain rfl := Option.some.inj hf
    exact tc_rz X hP hD hS rfl dX4_refuseHere_26 (by decide) rfl rfl
  · have hf := tc_pos hc hf
    refine lv_iconst (v := (1 : Int32)) hx hb dX4_refuseHere_9 (by decide) ?_
    refine lv_goto (tgt := 14) hx hb dX4_refuseHere_10 (by decide) ?_
    refine va_put (D := (dC, dI)) (ci := 2) (v := .int ((1 : Int32))) (ty := .int) (C := RX2) (T := TX2) (N := 15) hx hb hts i_X2 tyX2 tyX2_ok nmX2 hown hK hP hD hS 0 rfl rfl 9 (by decide) (hts _ wf_X4_31) (fun _ h9 => h9) rfl (tyX2_ok 9 (by decide)) rfl rfl (Nat.le_of_ble_eq_true rfl) dX4_refuseHere_14 (fun H locs hP hD hS => ?_)
    have hP := tc_eP (pw2_0_9 ca q (rR0) (rR11) (rR12) S (1 : Int32)) hP
    have hD := tc_eD (pw2_0_9 ca q (rR0) (rR11) (rR12) S (1 : Int32)) hD
    refine lv_aload_n hx hb dX4_refuseHere_17 rfl (lv_at hl 0 rfl) ?_
    refine lv_aload_n hx hb dX4_refuseHere_18 rfl (lv_at hl 0 rfl) ?_
    refine va_get (D := (dC, dI)) (ci := 2) (v := .int (gi (si S 9 (1 : Int32)) 3)) (C := RX2) (T := TX2) (N := 15) hx hb hts i_X2 hown hK hP 0 rfl rfl 3 (by decide) (hts _ wf_X4_40) (fun _ h9 => h9) rfl dX4_refuseHere_19 ?_
    refine va_put (D := (dC, dI)) (ci := 2) (v := .int (gi (si S 9 (1 : Int32)) 3)) (ty := .int) (C := RX2) (T := TX2) (N := 15) hx hb hts i_X2 tyX2 tyX2_ok nmX2 hown hK hP hD hS 0 rfl rfl 10 (by decide) (hts _ wf_X4_34) (fun _ h9 => h9) rfl (tyX2_ok 10 (by decide)) rfl rfl (Nat.le_of_ble_eq_true rfl) dX4_refuseHere_22 (fun H locs hP hD hS => ?_)
    have hP := tc_eP (pw2_0_10 ca q (rR0) (rR11) (rR12) (si S 9 (1 : Int32)) (gi (si S 9 (1 : Int32)) 3)) hP
    have hD := tc_eD (pw2_0_10 ca q (rR0) (rR11) (rR12) (si S 9 (1 : Int32)) (gi (si S 9 (1 : Int32)) 3)) hD
    refine lv_iconst (v := (0 : Int32)) hx hb dX4_refuseHere_25 (by decide) ?_
    obtain rfl := Option.some.inj hf
    exact tc_rz X hP hD hS rfl dX4_refuseHere_26 (by decide) rfl rfl
theorem pw2_B_1_0_13 (ca : Nat → ClassId) (q0 q1 q2 : Nat → Nat) (r0_0 r0_11 r0_12 : Value) (S0 S1 S2 : ms_T) (v : Int32) : (w2 ca q0 r0_0 r0_11 r0_12 S0 ++ wLB ca q1 S1 ++ w1 ca q2 S2 : va_W).set 0 (q0 0, .inr (2, List.set (r0_0 :: .int (gi S0 1) :: .int (gi S0 2) :: .int (gi S0 3) :: .int (gi S0 4) :: .int (gi S0 5) :: .int (gi S0 6) :: .int (gi S0 7) :: .long (gl S0 8) :: .int (gi S0 9) :: .int (gi S0 10) :: r0_11 :: r0_12 :: .int (gi S0 13) :: .ref (q0 1) :: []) 13 (.int v))) = w2 ca q0 r0_0 r0_11 r0_12 (si S0 13 v) ++ wLB ca q1 S1 ++ w1 ca q2 S2 := rfl
theorem aw2_B_1_2_1 (ca : Nat → ClassId) (q0 q1 q2 : Nat → Nat) (r0_0 r0_11 r0_12 : Value) (S0 S1 S2 : ms_T) (i v : Int32) : (w2 ca q0 r0_0 r0_11 r0_12 S0 ++ wLB ca q1 S1 ++ w1 ca q2 S2 : va_W).set 4 (q2 1, .inl (ca 1, 60, .inl (upd (ra S2 1) i.toNatClampNeg v))) = w2 ca q0 r0_0 r0_11 r0_12 S0 ++ wLB ca q1 S1 ++ w1 ca q2 (sa S2 1 i v) := rfl
theorem aw2_B_1_2_5 (ca : Nat → ClassId) (q0 q1 q2 : Nat → Nat) (r0_0 r0_11 r0_12 : Value) (S0 S1 S2 : ms_T) (i v : Int32) : (w2 ca q0 r0_0 r0_11 r0_12 S0 ++ wLB ca q1 S1 ++ w1 ca q2 S2 : va_W).set 8 (q2 5, .inl (ca 1, 60, .inl (upd (ra S2 5) i.toNatClampNeg v))) = w2 ca q0 r0_0 r0_11 r0_12 S0 ++ wLB ca q1 S1 ++ w1 ca q2 (sa S2 5 i v) := rfl
theorem pw2_B_1_2_2 (ca : Nat → ClassId) (q0 q1 q2 : Nat → Nat) (r0_0 r0_11 r0_12 : Value) (S0 S1 S2 : ms_T) (v : Int32) : (w2 ca q0 r0_0 r0_11 r0_12 S0 ++ wLB ca q1 S1 ++ w1 ca q2 S2 : va_W).set 3 (q2 0, .inr (1, List.set (.int (gi S2 0) :: .int (gi S2 1) :: .int (gi S2 2) :: .ref (q2 1) :: .ref (q2 2) :: .ref (q2 3) :: .ref (q2 4) :: .ref (q2 5) :: []) 2 (.int v))) = w2 ca q0 r0_0 r0_11 r0_12 S0 ++ wLB ca q1 S1 ++ w1 ca q2 (si S2 2 v) := rfl
def fX2_readEnd  (SR : ms_T) (SB : ms_T) (SE : ms_T)  : Option (Int32 × ms_T × ms_T) :=
  if (gi SR 13) = 0 then
    (fX4_refuseHereE SR (2 : Int32)).bind fun z6 =>
    if z6.1 &&& 1 = z6.1 then
      some (z6.1, z6.2, SE)
    else none
  else
    if inb (gi (si SR 13 ((gi SR 13) - (1 : Int32))) 13) 3 = true then
      if inb (gi SE 2) 60 = true then
        if inb (gi (sa SE 1 (gi SE 2) (24 : Int32)) 2) 60 = true then
          if inb (ia (si SR 13 ((gi SR 13) - (1 : Int32))) 1 (gi (si SR 13 ((gi SR 13) - (1 : Int32))) 13)) 60 = true then
            (fX4_advanceE (si SR 13 ((gi SR 13) - (1 : Int32))) SB).bind fun z5 =>
            some ((1 : Int32), z5, si (sa (sa (sa SE 1 (gi SE 2) (24 : Int32)) 5 (gi (sa SE 1 (gi SE 2) (24 : Int32)) 2) (ia (si SR 13 ((gi SR 13) - (1 : Int32))) 1 (gi (si SR 13 ((gi SR 13) - (1 : Int32))) 13))) 5 (ia (si SR 13 ((gi SR 13) - (1 : Int32))) 1 (gi (si SR 13 ((gi SR 13) - (1 : Int32))) 13)) (gi (sa (sa SE 1 (gi SE 2) (24 : Int32)) 5 (gi (sa SE 1 (gi SE 2) (24 : Int32)) 2) (ia (si SR 13 ((gi SR 13) - (1 : Int32))) 1 (gi (si SR 13 ((gi SR 13) - (1 : Int32))) 13))) 2)) 2 ((gi (sa (sa (sa SE 1 (gi SE 2) (24 : Int32)) 5 (gi (sa SE 1 (gi SE 2) (24 : Int32)) 2) (ia (si SR 13 ((gi SR 13) - (1 : Int32))) 1 (gi (si SR 13 ((gi SR 13) - (1 : Int32))) 13))) 5 (ia (si SR 13 ((gi SR 13) - (1 : Int32))) 1 (gi (si SR 13 ((gi SR 13) - (1 : Int32))) 13)) (gi (sa (sa SE 1 (gi SE 2) (24 : Int32)) 5 (gi (sa SE 1 (gi SE 2) (24 : Int32)) 2) (ia (si SR 13 ((gi SR 13) - (1 : Int32))) 1 (gi (si SR 13 ((gi SR 13) - (1 : Int32))) 13))) 2)) 2) + (1 : Int32)))
          else none
        else none
      else none
    else none
abbrev rmX2_readEnd : Room := { frames := 10, cells := 0, slots := 0, locals := 445 }
theorem okX2_readEnd : tc_ok yX2_readEnd cX2_readEnd 2 (some .boolean) 0 := ⟨wc_X2_readEnd, wn_X2, by decide, by decide, by decide +kernel⟩
set_option maxRecDepth 20000 in
theorem mX2_readEnd {qR : Nat → Nat} {qB : Nat → Nat} {qE : Nat → Nat} {rR11 : Value} {SR : ms_T} {SB : ms_T} {SE : ms_T}  {z : Int32 × ms_T × ms_T}  (hf : fX2_readEnd SR SB SE = some z) : tc_MI l dC dI ca yX2_readEnd cX2_readEnd 2 (some .boolean) rmX2_readEnd [.ref (qR 0)] (w2 ca qR (.ref (qB 0)) (rR11) (.ref (qE 0)) SR ++ wLB ca qB SB ++ w1 ca qE SE) (w2 ca qR (.ref (qB 0)) (rR11) (.ref (qE 0)) z.2.1 ++ wLB ca qB SB ++ w1 ca qE z.2.2) (z.1) := by
  refine tc_metI (own := RX2) (by decide) rfl ?_ (Nat.le_of_ble_eq_true rfl)
  intro p e s m below meth c A X hP hD hS ls hl
  obtain ⟨hx, hb, hr, hml, hown, hts, hlk, hK, hA, hG⟩ := id X
  unfold fX2_readEnd at hf
  have hl : lv_has ls 2 [(0, .ref (qR 0))] := hl
  refine lv_aload_n hx hb dX2_readEnd_0 rfl (lv_at hl 0 rfl) ?_
  refine va_get (D := (dC, dI)) (ci := 2) (v := .int (gi SR 13)) (C := RX2) (T := TX2) (N := 15) hx hb hts i_X2 hown hK hP 0 rfl rfl 13 (by decide) (hts _ wf_X2_29) (fun _ h9 => h9) rfl dX2_readEnd_1 ?_
  refine lv_if_ne (tgt := 13) hx hb dX2_readEnd_4 (by decide) (fun hc => ?_) (fun hc => ?_)
  · have hf := tc_neg hc hf
    refine lv_aload_n hx hb dX2_readEnd_13 rfl (lv_at hl 0 rfl) ?_
    refine lv_dup hx hb dX2_readEnd_14 rfl ?_
    refine va_get (D := (dC, dI)) (ci := 2) (v := .int (gi SR 13)) (C := RX2) (T := TX2) (N := 15) hx hb hts i_X2 hown hK hP 0 rfl rfl 13 (by decide) (hts _ wf_X2_29) (fun _ h9 => h9) rfl dX2_readEnd_15 ?_
    refine lv_iconst (v := (1 : Int32)) hx hb dX2_readEnd_18 (by decide) ?_
    refine lv_isub hx hb dX2_readEnd_19 ?_
    refine va_put (D := (dC, dI)) (ci := 2) (v := .int ((gi SR 13) - (1 : Int32))) (ty := .int) (C := RX2) (T := TX2) (N := 15) hx hb hts i_X2 tyX2 tyX2_ok nmX2 hown hK hP hD hS 0 rfl rfl 13 (by decide) (hts _ wf_X2_29) (fun _ h9 => h9) rfl (tyX2_ok 13 (by decide)) rfl rfl (Nat.le_of_ble_eq_true rfl) dX2_readEnd_20 (fun H locs hP hD hS => ?_)
    have hP := tc_eP (pw2_B_1_0_13 ca qR qB qE (.ref (qB 0)) (rR11) (.ref (qE 0)) SR SB SE ((gi SR 13) - (1 : Int32))) hP
    have hD := tc_eD (pw2_B_1_0_13 ca qR qB qE (.ref (qB 0)) (rR11) (.ref (qE 0)) SR SB SE ((gi SR 13) - (1 : Int32))) hD
    refine lv_aload_n hx hb dX2_readEnd_23 rfl (lv_at hl 0 rfl) ?_
    refine va_get (D := (dC, dI)) (ci := 2) (v := .ref (qR 1)) (C := RX2) (T := TX2) (N := 15) hx hb hts i_X2 hown hK hP 0 rfl rfl 14 (by decide) (hts _ wf_X2_11) (fun _ h9 => h9) rfl dX2_readEnd_24 ?_
    refine lv_aload_n hx hb dX2_readEnd_27 rfl (lv_at hl 0 rfl) ?_
    refine va_get (D := (dC, dI)) (ci := 2) (v := .int (gi (si SR 13 ((gi SR 13) - (1 : Int32))) 13)) (C := RX2) (T := TX2) (N := 15) hx hb hts i_X2 hown hK hP 0 rfl rfl 13 (by decide) (hts _ wf_X2_29) (fun _ h9 => h9) rfl dX2_readEnd_28 ?_
    obtain ⟨hi1, hf⟩ := tc_in hf
    refine va_iald hx hb hK hP 1 1 rfl rfl hi1 dX2_readEnd_31 ?_
    refine lv_istore_n (lv' := [(1, .int (ia (si SR 13 ((gi SR 13) - (1 : Int32))) 1 (gi (si SR 13 ((gi SR 13) - (1 : Int32))) 13))), (0, .ref (qR 0))]) hx hb dX2_readEnd_32 rfl hl (by decide) rfl (fun ls hl => ?_)
    refine lv_aload_n hx hb dX2_readEnd_33 rfl (lv_at hl 1 rfl) ?_
    refine va_get (D := (dC, dI)) (ci := 2) (v := .ref (qE 0)) (C := RX2) (T := TX2) (N := 15) hx hb hts i_X2 hown hK hP 0 rfl rfl 12 (by decide) (hts _ wf_X2_21) (fun _ h9 => h9) rfl dX2_readEnd_34 ?_
    refine va_get (D := (dC, dI)) (ci := 1) (v := .ref (qE 1)) (C := RX1) (T := TX1) (N := 8) hx hb hts i_X1 hown hK hP 3 rfl rfl 3 (by decide) (hts _ wf_X2_61) (fun _ h9 => h9) rfl dX2_readEnd_37 ?_
    refine lv_aload_n hx hb dX2_readEnd_40 rfl (lv_at hl 1 rfl) ?_
    refine va_get (D := (dC, dI)) (ci := 2) (v := .ref (qE 0)) (C := RX2) (T := TX2) (N := 15) hx hb hts i_X2 hown hK hP 0 rfl rfl 12 (by decide) (hts _ wf_X2_21) (fun _ h9 => h9) rfl dX2_readEnd_41 ?_
    refine va_get (D := (dC, dI)) (ci := 1) (v := .int (gi SE 2)) (C := RX1) (T := TX1) (N := 8) hx hb hts i_X1 hown hK hP 3 rfl rfl 2 (by decide) (hts _ wf_X2_64) (fun _ h9 => h9) rfl dX2_readEnd_44 ?_
    refine lv_bipush (v := (24 : Int32)) hx hb dX2_readEnd_47 (by decide) ?_
    obtain ⟨hi2, hf⟩ := tc_in hf
    refine va_iast hx hb hK hP hD hS 4 1 rfl rfl hi2 dX2_readEnd_49 (fun H locs hP hD hS => ?_)
    have hP := tc_eP (aw2_B_1_2_1 ca qR qB qE (.ref (qB 0)) (rR11) (.ref (qE 0)) (si SR 13 ((gi SR 13) - (1 : Int32))) SB SE (gi SE 2) (24 : Int32)) hP
    have hD := tc_eD (aw2_B_1_2_1 ca qR qB qE (.ref (qB 0)) (rR11) (.ref (qE 0)) (si SR 13 ((gi SR 13) - (1 : Int32))) SB SE (gi SE 2) (24 : Int32)) hD
    refine lv_aload_n hx hb dX2_readEnd_50 rfl (lv_at hl 1 rfl) ?_
    refine va_get (D := (dC, dI)) (ci := 2) (v := .ref (qE 0)) (C := RX2) (T := TX2) (N := 15) hx hb hts i_X2 hown hK hP 0 rfl rfl 12 (by decide) (hts _ wf_X2_21) (fun _ h9 => h9) rfl dX2_readEnd_51 ?_
    refine va_get (D := (dC, dI)) (ci := 1) (v := .ref (qE 5)) (C := RX1) (T := TX1) (N := 8) hx hb hts i_X1 hown hK hP 3 rfl rfl 7 (by decide) (hts _ wf_X2_67) (fun _ h9 => h9) rfl dX2_readEnd_54 ?_
    refine lv_aload_n hx hb dX2_readEnd_57 rfl (lv_at hl 1 rfl) ?_
    refine va_get (D := (dC, dI)) (ci := 2) (v := .ref (qE 0)) (C := RX2) (T := TX2) (N := 15) hx hb hts i_X2 hown hK hP 0 rfl rfl 12 (by decide) (hts _ wf_X2_21) (fun _ h9 => h9) rfl dX2_readEnd_58 ?_
    refine va_get (D := (dC, dI)) (ci := 1) (v := .int (gi (sa SE 1 (gi SE 2) (24 : Int32)) 2)) (C := RX1) (T := TX1) (N := 8) hx hb hts i_X1 hown hK hP 3 rfl rfl 2 (by decide) (hts _ wf_X2_64) (fun _ h9 => h9) rfl dX2_readEnd_61 ?_
    refine lv_iload_n hx hb dX2_readEnd_64 rfl (lv_at hl 0 rfl) ?_
    obtain ⟨hi3, hf⟩ := tc_in hf
    refine va_iast hx hb hK hP hD hS 8 1 rfl rfl hi3 dX2_readEnd_65 (fun H locs hP hD hS => ?_)
    have hP := tc_eP (aw2_B_1_2_5 ca qR qB qE (.ref (qB 0)) (rR11) (.ref (qE 0)) (si SR 13 ((gi SR 13) - (1 : Int32))) SB (sa SE 1 (gi SE 2) (24 : Int32)) (gi (sa SE 1 (gi SE 2) (24 : Int32)) 2) (ia (si SR 13 ((gi SR 13) - (1 : Int32))) 1 (gi (si SR 13 ((gi SR 13) - (1 : Int32))) 13))) hP
    have hD := tc_eD (aw2_B_1_2_5 ca qR qB qE (.ref (qB 0)) (rR11) (.ref (qE 0)) (si SR 13 ((gi SR 13) - (1 : Int32))) SB (sa SE 1 (gi SE 2) (24 : Int32)) (gi (sa SE 1 (gi SE 2) (24 : Int32)) 2) (ia (si SR 13 ((gi SR 13) - (1 : Int32))) 1 (gi (si SR 13 ((gi SR 13) - (1 : Int32))) 13))) hD
    refine lv_aload_n hx hb dX2_readEnd_66 rfl (lv_at hl 1 rfl) ?_
    refine va_get (D := (dC, dI)) (ci := 2) (v := .ref (qE 0)) (C := RX2) (T := TX2) (N := 15) hx hb hts i_X2 hown hK hP 0 rfl rfl 12 (by decide) (hts _ wf_X2_21) (fun _ h9 => h9) rfl dX2_readEnd_67 ?_
    refine va_get (D := (dC, dI)) (ci := 1) (v := .ref (qE 5)) (C := RX1) (T := TX1) (N := 8) hx hb hts i_X1 hown hK hP 3 rfl rfl 7 (by decide) (hts _ wf_X2_67) (fun _ h9 => h9) rfl dX2_readEnd_70 ?_
    refine lv_iload_n hx hb dX2_readEnd_73 rfl (lv_at hl 0 rfl) ?_
    refine lv_aload_n hx hb dX2_readEnd_74 rfl (lv_at hl 1 rfl) ?_
    refine va_get (D := (dC, dI)) (ci := 2) (v := .ref (qE 0)) (C := RX2) (T := TX2) (N := 15) hx hb hts i_X2 hown hK hP 0 rfl rfl 12 (by decide) (hts _ wf_X2_21) (fun _ h9 => h9) rfl dX2_readEnd_75 ?_
    refine va_get (D := (dC, dI)) (ci := 1) (v := .int (gi (sa (sa SE 1 (gi SE 2) (24 : Int32)) 5 (gi (sa SE 1 (gi SE 2) (24 : Int32)) 2) (ia (si SR 13 ((gi SR 13) - (1 : Int32))) 1 (gi (si SR 13 ((gi SR 13) - (1 : Int32))) 13))) 2)) (C := RX1) (T := TX1) (N := 8) hx hb hts i_X1 hown hK hP 3 rfl rfl 2 (by decide) (hts _ wf_X2_64) (fun _ h9 => h9) rfl dX2_readEnd_78 ?_
    obtain ⟨hi4, hf⟩ := tc_in hf
    refine va_iast hx hb hK hP hD hS 8 1 rfl rfl hi4 dX2_readEnd_81 (fun H locs hP hD hS => ?_)
    have hP := tc_eP (aw2_B_1_2_5 ca qR qB qE (.ref (qB 0)) (rR11) (.ref (qE 0)) (si SR 13 ((gi SR 13) - (1 : Int32))) SB (sa (sa SE 1 (gi SE 2) (24 : Int32)) 5 (gi (sa SE 1 (gi SE 2) (24 : Int32)) 2) (ia (si SR 13 ((gi SR 13) - (1 : Int32))) 1 (gi (si SR 13 ((gi SR 13) - (1 : Int32))) 13))) (ia (si SR 13 ((gi SR 13) - (1 : Int32))) 1 (gi (si SR 13 ((gi SR 13) - (1 : Int32))) 13)) (gi (sa (sa SE 1 (gi SE 2) (24 : Int32)) 5 (gi (sa SE 1 (gi SE 2) (24 : Int32)) 2) (ia (si SR 13 ((gi SR 13) - (1 : Int32))) 1 (gi (si SR 13 ((gi SR 13) - (1 : Int32))) 13))) 2)) hP
    have hD := tc_eD (aw2_B_1_2_5 ca qR qB qE (.ref (qB 0)) (rR11) (.ref (qE 0)) (si SR 13 ((gi SR 13) - (1 : Int32))) SB (sa (sa SE 1 (gi SE 2) (24 : Int32)) 5 (gi (sa SE 1 (gi SE 2) (24 : Int32)) 2) (ia (si SR 13 ((gi SR 13) - (1 : Int32))) 1 (gi (si SR 13 ((gi SR 13) - (1 : Int32))) 13))) (ia (si SR 13 ((gi SR 13) - (1 : Int32))) 1 (gi (si SR 13 ((gi SR 13) - (1 : Int32))) 13)) (gi (sa (sa SE 1 (gi SE 2) (24 : Int32)) 5 (gi (sa SE 1 (gi SE 2) (24 : Int32)) 2) (ia (si SR 13 ((gi SR 13) - (1 : Int32))) 1 (gi (si SR 13 ((gi SR 13) - (1 : Int32))) 13))) 2)) hD
    refine lv_aload_n hx hb dX2_readEnd_82 rfl (lv_at hl 1 rfl) ?_
    refine va_get (D := (dC, dI)) (ci := 2) (v := .ref (qE 0)) (C := RX2) (T := TX2) (N := 15) hx hb hts i_X2 hown hK hP 0 rfl rfl 12 (by decide) (hts _ wf_X2_21) (fun _ h9 => h9) rfl dX2_readEnd_83 ?_
    refine lv_dup hx hb dX2_readEnd_86 rfl ?_
    refine va_get (D := (dC, dI)) (ci := 1) (v := .int (gi (sa (sa (sa SE 1 (gi SE 2) (24 : Int32)) 5 (gi (sa SE 1 (gi SE 2) (24 : Int32)) 2) (ia (si SR 13 ((gi SR 13) - (1 : Int32))) 1 (gi (si SR 13 ((gi SR 13) - (1 : Int32))) 13))) 5 (ia (si SR 13 ((gi SR 13) - (1 : Int32))) 1 (gi (si SR 13 ((gi SR 13) - (1 : Int32))) 13)) (gi (sa (sa SE 1 (gi SE 2) (24 : Int32)) 5 (gi (sa SE 1 (gi SE 2) (24 : Int32)) 2) (ia (si SR 13 ((gi SR 13) - (1 : Int32))) 1 (gi (si SR 13 ((gi SR 13) - (1 : Int32))) 13))) 2)) 2)) (C := RX1) (T := TX1) (N := 8) hx hb hts i_X1 hown hK hP 3 rfl rfl 2 (by decide) (hts _ wf_X2_64) (fun _ h9 => h9) rfl dX2_readEnd_87 ?_
    refine lv_iconst (v := (1 : Int32)) hx hb dX2_readEnd_90 (by decide) ?_
    refine lv_iadd hx hb dX2_readEnd_91 ?_
    refine va_put (D := (dC, dI)) (ci := 1) (v := .int ((gi (sa (sa (sa SE 1 (gi SE 2) (24 : Int32)) 5 (gi (sa SE 1 (gi SE 2) (24 : Int32)) 2) (ia (si SR 13 ((gi SR 13) - (1 : Int32))) 1 (gi (si SR 13 ((gi SR 13) - (1 : Int32))) 13))) 5 (ia (si SR 13 ((gi SR 13) - (1 : Int32))) 1 (gi (si SR 13 ((gi SR 13) - (1 : Int32))) 13)) (gi (sa (sa SE 1 (gi SE 2) (24 : Int32)) 5 (gi (sa SE 1 (gi SE 2) (24 : Int32)) 2) (ia (si SR 13 ((gi SR 13) - (1 : Int32))) 1 (gi (si SR 13 ((gi SR 13) - (1 : Int32))) 13))) 2)) 2) + (1 : Int32))) (ty := .int) (C := RX1) (T := TX1) (N := 8) hx hb hts i_X1 tyX1 tyX1_ok nmX1 hown hK hP hD hS 3 rfl rfl 2 (by decide) (hts _ wf_X2_64) (fun _ h9 => h9) rfl (tyX1_ok 2 (by decide)) rfl rfl (Nat.le_of_ble_eq_true rfl) dX2_readEnd_92 (fun H locs hP hD hS => ?_)
    have hP := tc_eP (pw2_B_1_2_2 ca qR qB qE (.ref (qB 0)) (rR11) (.ref (qE 0)) (si SR 13 ((gi SR 13) - (1 : Int32))) SB (sa (sa (sa SE 1 (gi SE 2) (24 : Int32)) 5 (gi (sa SE 1 (gi SE 2) (24 : Int32)) 2) (ia (si SR 13 ((gi SR 13) - (1 : Int32))) 1 (gi (si SR 13 ((gi SR 13) - (1 : Int32))) 13))) 5 (ia (si SR 13 ((gi SR 13) - (1 : Int32))) 1 (gi (si SR 13 ((gi SR 13) - (1 : Int32))) 13)) (gi (sa (sa SE 1 (gi SE 2) (24 : Int32)) 5 (gi (sa SE 1 (gi SE 2) (24 : Int32)) 2) (ia (si SR 13 ((gi SR 13) - (1 : Int32))) 1 (gi (si SR 13 ((gi SR 13) - (1 : Int32))) 13))) 2)) ((gi (sa (sa (sa SE 1 (gi SE 2) (24 : Int32)) 5 (gi (sa SE 1 (gi SE 2) (24 : Int32)) 2) (ia (si SR 13 ((gi SR 13) - (1 : Int32))) 1 (gi (si SR 13 ((gi SR 13) - (1 : Int32))) 13))) 5 (ia (si SR 13 ((gi SR 13) - (1 : Int32))) 1 (gi (si SR 13 ((gi SR 13) - (1 : Int32))) 13)) (gi (sa (sa SE 1 (gi SE 2) (24 : Int32)) 5 (gi (sa SE 1 (gi SE 2) (24 : Int32)) 2) (ia (si SR 13 ((gi SR 13) - (1 : Int32))) 1 (gi (si SR 13 ((gi SR 13) - (1 : Int32))) 13))) 2)) 2) + (1 : Int32))) hP
    have hD := tc_eD (pw2_B_1_2_2 ca qR qB qE (.ref (qB 0)) (rR11) (.ref (qE 0)) (si SR 13 ((gi SR 13) - (1 : Int32))) SB (sa (sa (sa SE 1 (gi SE 2) (24 : Int32)) 5 (gi (sa SE 1 (gi SE 2) (24 : Int32)) 2) (ia (si SR 13 ((gi SR 13) - (1 : Int32))) 1 (gi (si SR 13 ((gi SR 13) - (1 : Int32))) 13))) 5 (ia (si SR 13 ((gi SR 13) - (1 : Int32))) 1 (gi (si SR 13 ((gi SR 13) - (1 : Int32))) 13)) (gi (sa (sa SE 1 (gi SE 2) (24 : Int32)) 5 (gi (sa SE 1 (gi SE 2) (24 : Int32)) 2) (ia (si SR 13 ((gi SR 13) - (1 : Int32))) 1 (gi (si SR 13 ((gi SR 13) - (1 : Int32))) 13))) 2)) ((gi (sa (sa (sa SE 1 (gi SE 2) (24 : Int32)) 5 (gi (sa SE 1 (gi SE 2) (24 : Int32)) 2) (ia (si SR 13 ((gi SR 13) - (1 : Int32))) 1 (gi (si SR 13 ((gi SR 13) - (1 : Int32))) 13))) 5 (ia (si SR 13 ((gi SR 13) - (1 : Int32))) 1 (gi (si SR 13 ((gi SR 13) - (1 : Int32))) 13)) (gi (sa (sa SE 1 (gi SE 2) (24 : Int32)) 5 (gi (sa SE 1 (gi SE 2) (24 : Int32)) 2) (ia (si SR 13 ((gi SR 13) - (1 : Int32))) 1 (gi (si SR 13 ((gi SR 13) - (1 : Int32))) 13))) 2)) 2) + (1 : Int32))) hD
    refine lv_aload_n hx hb dX2_readEnd_95 rfl (lv_at hl 1 rfl) ?_
    obtain ⟨z5, hg, hf⟩ := tc_bi hf
    refine tc_vU (As := []) (rest := []) (b := qR 0) (wc := w2 ca qR (.ref (qB 0)) (rR11) (.ref (qE 0)) (si SR 13 ((gi SR 13) - (1 : Int32))) ++ wLB ca qB SB) (wr := w1 ca qE (si (sa (sa (sa SE 1 (gi SE 2) (24 : Int32)) 5 (gi (sa SE 1 (gi SE 2) (24 : Int32)) 2) (ia (si SR 13 ((gi SR 13) - (1 : Int32))) 1 (gi (si SR 13 ((gi SR 13) - (1 : Int32))) 13))) 5 (ia (si SR 13 ((gi SR 13) - (1 : Int32))) 1 (gi (si SR 13 ((gi SR 13) - (1 : Int32))) 13)) (gi (sa (sa SE 1 (gi SE 2) (24 : Int32)) 5 (gi (sa SE 1 (gi SE 2) (24 : Int32)) 2) (ia (si SR 13 ((gi SR 13) - (1 : Int32))) 1 (gi (si SR 13 ((gi SR 13) - (1 : Int32))) 13))) 2)) 2 ((gi (sa (sa (sa SE 1 (gi SE 2) (24 : Int32)) 5 (gi (sa SE 1 (gi SE 2) (24 : Int32)) 2) (ia (si SR 13 ((gi SR 13) - (1 : Int32))) 1 (gi (si SR 13 ((gi SR 13) - (1 : Int32))) 13))) 5 (ia (si SR 13 ((gi SR 13) - (1 : Int32))) 1 (gi (si SR 13 ((gi SR 13) - (1 : Int32))) 13)) (gi (sa (sa SE 1 (gi SE 2) (24 : Int32)) 5 (gi (sa SE 1 (gi SE 2) (24 : Int32)) 2) (ia (si SR 13 ((gi SR 13) - (1 : Int32))) 1 (gi (si SR 13 ((gi SR 13) - (1 : Int32))) 13))) 2)) 2) + (1 : Int32)))) X hP hD hS (mX4_advanceE hg) okX4_advance wl_X2_70 wu_X2_advance rfl wi_X4_advance ws_X2_xadvance_X4_advance ⟨rfl, rfl, Nat.le_of_ble_eq_true rfl, Nat.le_of_ble_eq_true rfl⟩ 2 0 rfl rfl [0, 1, 2] [3, 4, 5, 6, 7, 8] ⟨rfl, rfl, rfl, rfl, by decide⟩ rfl hl.1 (Nat.le_of_ble_eq_true rfl) dX2_readEnd_96 (fun H locs hP hD hS => ?_)
    have hP := hP.sub (ws' := (w2 ca qR (.ref (qB 0)) (rR11) (.ref (qE 0)) z5 ++ wLB ca qB SB ++ w1 ca qE (si (sa (sa (sa SE 1 (gi SE 2) (24 : Int32)) 5 (gi (sa SE 1 (gi SE 2) (24 : Int32)) 2) (ia (si SR 13 ((gi SR 13) - (1 : Int32))) 1 (gi (si SR 13 ((gi SR 13) - (1 : Int32))) 13))) 5 (ia (si SR 13 ((gi SR 13) - (1 : Int32))) 1 (gi (si SR 13 ((gi SR 13) - (1 : Int32))) 13)) (gi (sa (sa SE 1 (gi SE 2) (24 : Int32)) 5 (gi (sa SE 1 (gi SE 2) (24 : Int32)) 2) (ia (si SR 13 ((gi SR 13) - (1 : Int32))) 1 (gi (si SR 13 ((gi SR 13) - (1 : Int32))) 13))) 2)) 2 ((gi (sa (sa (sa SE 1 (gi SE 2) (24 : Int32)) 5 (gi (sa SE 1 (gi SE 2) (24 : Int32)) 2) (ia (si SR 13 ((gi SR 13) - (1 : Int32))) 1 (gi (si SR 13 ((gi SR 13) - (1 : Int32))) 13))) 5 (ia (si SR 13 ((gi SR 13) - (1 : Int32))) 1 (gi (si SR 13 ((gi SR 13) - (1 : Int32))) 13)) (gi (sa (sa SE 1 (gi SE 2) (24 : Int32)) 5 (gi (sa SE 1 (gi SE 2) (24 : Int32)) 2) (ia (si SR 13 ((gi SR 13) - (1 : Int32))) 1 (gi (si SR 13 ((gi SR 13) - (1 : Int32))) 13))) 2)) 2) + (1 : Int32))))) [6, 7, 8, 0, 1, 2, 3, 4, 5] rfl
    have hD := hD.sub (ws' := (w2 ca qR (.ref (qB 0)) (rR11) (.ref (qE 0)) z5 ++ wLB ca qB SB ++ w1 ca qE (si (sa (sa (sa SE 1 (gi SE 2) (24 : Int32)) 5 (gi (sa SE 1 (gi SE 2) (24 : Int32)) 2) (ia (si SR 13 ((gi SR 13) - (1 : Int32))) 1 (gi (si SR 13 ((gi SR 13) - (1 : Int32))) 13))) 5 (ia (si SR 13 ((gi SR 13) - (1 : Int32))) 1 (gi (si SR 13 ((gi SR 13) - (1 : Int32))) 13)) (gi (sa (sa SE 1 (gi SE 2) (24 : Int32)) 5 (gi (sa SE 1 (gi SE 2) (24 : Int32)) 2) (ia (si SR 13 ((gi SR 13) - (1 : Int32))) 1 (gi (si SR 13 ((gi SR 13) - (1 : Int32))) 13))) 2)) 2 ((gi (sa (sa (sa SE 1 (gi SE 2) (24 : Int32)) 5 (gi (sa SE 1 (gi SE 2) (24 : Int32)) 2) (ia (si SR 13 ((gi SR 13) - (1 : Int32))) 1 (gi (si SR 13 ((gi SR 13) - (1 : Int32))) 13))) 5 (ia (si SR 13 ((gi SR 13) - (1 : Int32))) 1 (gi (si SR 13 ((gi SR 13) - (1 : Int32))) 13)) (gi (sa (sa SE 1 (gi SE 2) (24 : Int32)) 5 (gi (sa SE 1 (gi SE 2) (24 : Int32)) 2) (ia (si SR 13 ((gi SR 13) - (1 : Int32))) 1 (gi (si SR 13 ((gi SR 13) - (1 : Int32))) 13))) 2)) 2) + (1 : Int32))))) [6, 7, 8, 0, 1, 2, 3, 4, 5] rfl rfl
    refine lv_iconst (v := (1 : Int32)) hx hb dX2_readEnd_99 (by decide) ?_
    obtain rfl := Option.some.inj hf
    exact tc_rz X hP hD hS rfl dX2_readEnd_100 (by decide) rfl rfl
  · have hf := tc_pos hc hf
    refine lv_aload_n hx hb dX2_readEnd_7 rfl (lv_at hl 0 rfl) ?_
    refine lv_iconst (v := (2 : Int32)) hx hb dX2_readEnd_8 (by decide) ?_
    obtain ⟨z6, hg, hf⟩ := tc_bi hf
    refine tc_iU (As := [.int ((2 : Int32))]) (rest := []) (b := qR 0) (wc := w2 ca qR (.ref (qB 0)) (rR11) (.ref (qE 0)) SR) (wr := wLB ca qB SB ++ w1 ca qE SE) X hP hD hS (mX4_refuseHereE hg) okX4_refuseHere wl_X2_53 wu_X2_refuseHere rfl wi_X4_refuseHere ws_X2_xrefuseHere_X4_refuseHere ⟨rfl, rfl, Nat.le_of_ble_eq_true rfl, Nat.le_of_ble_eq_true rfl⟩ 2 0 rfl rfl [0, 1] [2, 3, 4, 5, 6, 7, 8] ⟨rfl, rfl, rfl, rfl, by decide⟩ rfl hl.1 (Nat.le_of_ble_eq_true rfl) dX2_readEnd_9 (fun H locs hP hD hS => ?_)
    have hP := hP.sub (ws' := (w2 ca qR (.ref (qB 0)) (rR11) (.ref (qE 0)) z6.2 ++ wLB ca qB SB ++ w1 ca qE SE)) [7, 8, 0, 1, 2, 3, 4, 5, 6] rfl
    have hD := hD.sub (ws' := (w2 ca qR (.ref (qB 0)) (rR11) (.ref (qE 0)) z6.2 ++ wLB ca qB SB ++ w1 ca qE SE)) [7, 8, 0, 1, 2, 3, 4, 5, 6] rfl rfl
    obtain ⟨hz1, hf⟩ := tc_ck hf
    obtain rfl := Option.some.inj hf
    exact tc_rz X hP hD hS rfl dX2_readEnd_12 hz1 rfl rfl
def fX4_isNameT  (S : ms_T)  : Option (Int32) :=
  if (gi S 4) = (1 : Int32) then
    if (gi S 7) = (-1 : Int32) then
      if (8 : Int32) < ((gi S 2) - (gi S 3)) then
        some ((0 : Int32))
      else
        some ((1 : Int32))
    else
      some ((0 : Int32))
  else
    some ((0 : Int32))
abbrev rmX4_isNameT : Room := { frames := 0, cells := 0, slots := 0, locals := 0 }
theorem okX4_isName : tc_ok yX4_isName cX4_isName 1 (some .boolean) 0 := ⟨wc_X4_isName, wn_X4, by decide, by decide, by decide +kernel⟩
set_option maxRecDepth 20000 in
theorem mX4_isNameT {q : Nat → Nat} {rR0 : Value} {rR11 : Value} {S : ms_T}  {z : Int32}  (hf : fX4_isNameT S = some z) : tc_MI l dC dI ca yX4_isName cX4_isName 1 (some .boolean) rmX4_isNameT [.ref (q 0)] (w8 ca q (rR0) (rR11) S) (w8 ca q (rR0) (rR11) S) (z) := by
  refine tc_metI (own := RX4) (by decide) rfl ?_ (Nat.le_of_ble_eq_true rfl)
  intro p e s m below meth c A X hP hD hS ls hl
  obtain ⟨hx, hb, hr, hml, hown, hts, hlk, hK, hA, hG⟩ := id X
  unfold fX4_isNameT at hf
  have hl : lv_has ls 1 [(0, .ref (q 0))] := hl
  refine lv_aload_n hx hb dX4_isName_0 rfl (lv_at hl 0 rfl) ?_
  refine va_get (D := (dC, dI)) (ci := 8) (v := .int (gi S 4)) (C := RX8) (T := TX8) (N := 13) hx hb hts i_X8 hown hK hP 0 rfl rfl 4 (by decide) (hts _ wf_X4_55) (fun _ h9 => h9) rfl dX4_isName_1 ?_
  refine lv_iconst (v := (1 : Int32)) hx hb dX4_isName_4 (by decide) ?_
  refine lv_icmp_ne (tgt := 34) hx hb dX4_isName_5 (by decide) (fun hc => ?_) (fun hc => ?_)
  · have hf := tc_neg hc hf
    refine lv_iconst (v := (0 : Int32)) hx hb dX4_isName_34 (by decide) ?_
    obtain rfl := Option.some.inj hf
    exact tc_rz X hP hD hS rfl dX4_isName_35 (by decide) rfl rfl
  · have hf := tc_pos hc hf
    refine lv_aload_n hx hb dX4_isName_8 rfl (lv_at hl 0 rfl) ?_
    refine va_get (D := (dC, dI)) (ci := 8) (v := .int (gi S 7)) (C := RX8) (T := TX8) (N := 13) hx hb hts i_X8 hown hK hP 0 rfl rfl 7 (by decide) (hts _ wf_X4_46) (fun _ h9 => h9) rfl dX4_isName_9 ?_
    refine lv_iconst (v := (-1 : Int32)) hx hb dX4_isName_12 (by decide) ?_
    refine lv_icmp_ne (tgt := 34) hx hb dX4_isName_13 (by decide) (fun hc => ?_) (fun hc => ?_)
    · have hf := tc_neg hc hf
      refine lv_iconst (v := (0 : Int32)) hx hb dX4_isName_34 (by decide) ?_
      obtain rfl := Option.some.inj hf
      exact tc_rz X hP hD hS rfl dX4_isName_35 (by decide) rfl rfl
    · have hf := tc_pos hc hf
      refine lv_aload_n hx hb dX4_isName_16 rfl (lv_at hl 0 rfl) ?_
      refine va_get (D := (dC, dI)) (ci := 8) (v := .int (gi S 2)) (C := RX8) (T := TX8) (N := 13) hx hb hts i_X8 hown hK hP 0 rfl rfl 2 (by decide) (hts _ wf_X4_28) (fun _ h9 => h9) rfl dX4_isName_17 ?_
      refine lv_aload_n hx hb dX4_isName_20 rfl (lv_at hl 0 rfl) ?_
      refine va_get (D := (dC, dI)) (ci := 8) (v := .int (gi S 3)) (C := RX8) (T := TX8) (N := 13) hx hb hts i_X8 hown hK hP 0 rfl rfl 3 (by decide) (hts _ wf_X4_40) (fun _ h9 => h9) rfl dX4_isName_21 ?_
      refine lv_isub hx hb dX4_isName_24 ?_
      refine lv_bipush (v := (8 : Int32)) hx hb dX4_isName_25 (by decide) ?_
      refine lv_icmp_gt (tgt := 34) hx hb dX4_isName_27 (by decide) (fun hc => ?_) (fun hc => ?_)
      · have hf := tc_pos hc hf
        refine lv_iconst (v := (0 : Int32)) hx hb dX4_isName_34 (by decide) ?_
        obtain rfl := Option.some.inj hf
        exact tc_rz X hP hD hS rfl dX4_isName_35 (by decide) rfl rfl
      · have hf := tc_neg hc hf
        refine lv_iconst (v := (1 : Int32)) hx hb dX4_isName_30 (by decide) ?_
        refine lv_goto (tgt := 35) hx hb dX4_isName_31 (by decide) ?_
        obtain rfl := Option.some.inj hf
        exact tc_rz X hP hD hS rfl dX4_isName_35 (by decide) rfl rfl
def fX4_isNameE  (S : ms_T)  : Option (Int32) :=
  if (gi S 4) = (1 : Int32) then
    if (gi S 7) = (-1 : Int32) then
      if (8 : Int32) < ((gi S 2) - (gi S 3)) then
        some ((0 : Int32))
      else
        some ((1 : Int32))
    else
      some ((0 : Int32))
  else
    some ((0 : Int32))
abbrev rmX4_isNameE : Room := { frames := 0, cells := 0, slots := 0, locals := 0 }
set_option maxRecDepth 20000 in
theorem mX4_isNameE {q : Nat → Nat} {rR0 : Value} {rR11 : Value} {rR12 : Value} {S : ms_T}  {z : Int32}  (hf : fX4_isNameE S = some z) : tc_MI l dC dI ca yX4_isName cX4_isName 1 (some .boolean) rmX4_isNameE [.ref (q 0)] (w2 ca q (rR0) (rR11) (rR12) S) (w2 ca q (rR0) (rR11) (rR12) S) (z) := by
  refine tc_metI (own := RX4) (by decide) rfl ?_ (Nat.le_of_ble_eq_true rfl)
  intro p e s m below meth c A X hP hD hS ls hl
  obtain ⟨hx, hb, hr, hml, hown, hts, hlk, hK, hA, hG⟩ := id X
  unfold fX4_isNameE at hf
  have hl : lv_has ls 1 [(0, .ref (q 0))] := hl
  refine lv_aload_n hx hb dX4_isName_0 rfl (lv_at hl 0 rfl) ?_
  refine va_get (D := (dC, dI)) (ci := 2) (v := .int (gi S 4)) (C := RX2) (T := TX2) (N := 15) hx hb hts i_X2 hown hK hP 0 rfl rfl 4 (by decide) (hts _ wf_X4_55) (fun _ h9 => h9) rfl dX4_isName_1 ?_
  refine lv_iconst (v := (1 : Int32)) hx hb dX4_isName_4 (by decide) ?_
  refine lv_icmp_ne (tgt := 34) hx hb dX4_isName_5 (by decide) (fun hc => ?_) (fun hc => ?_)
  · have hf := tc_neg hc hf
    refine lv_iconst (v := (0 : Int32)) hx hb dX4_isName_34 (by decide) ?_
    obtain rfl := Option.some.inj hf
    exact tc_rz X hP hD hS rfl dX4_isName_35 (by decide) rfl rfl
  · have hf := tc_pos hc hf
    refine lv_aload_n hx hb dX4_isName_8 rfl (lv_at hl 0 rfl) ?_
    refine va_get (D := (dC, dI)) (ci := 2) (v := .int (gi S 7)) (C := RX2) (T := TX2) (N := 15) hx hb hts i_X2 hown hK hP 0 rfl rfl 7 (by decide) (hts _ wf_X4_46) (fun _ h9 => h9) rfl dX4_isName_9 ?_
    refine lv_iconst (v := (-1 : Int32)) hx hb dX4_isName_12 (by decide) ?_
    refine lv_icmp_ne (tgt := 34) hx hb dX4_isName_13 (by decide) (fun hc => ?_) (fun hc => ?_)
    · have hf := tc_neg hc hf
      refine lv_iconst (v := (0 : Int32)) hx hb dX4_isName_34 (by decide) ?_
      obtain rfl := Option.some.inj hf
      exact tc_rz X hP hD hS rfl dX4_isName_35 (by decide) rfl rfl
    · have hf := tc_pos hc hf
      refine lv_aload_n hx hb dX4_isName_16 rfl (lv_at hl 0 rfl) ?_
      refine va_get (D := (dC, dI)) (ci := 2) (v := .int (gi S 2)) (C := RX2) (T := TX2) (N := 15) hx hb hts i_X2 hown hK hP 0 rfl rfl 2 (by decide) (hts _ wf_X4_28) (fun _ h9 => h9) rfl dX4_isName_17 ?_
      refine lv_aload_n hx hb dX4_isName_20 rfl (lv_at hl 0 rfl) ?_
      refine va_get (D := (dC, dI)) (ci := 2) (v := .int (gi S 3)) (C := RX2) (T := TX2) (N := 15) hx hb hts i_X2 hown hK hP 0 rfl rfl 3 (by decide) (hts _ wf_X4_40) (fun _ h9 => h9) rfl dX4_isName_21 ?_
      refine lv_isub hx hb dX4_isName_24 ?_
      refine lv_bipush (v := (8 : Int32)) hx hb dX4_isName_25 (by decide) ?_
      refine lv_icmp_gt (tgt := 34) hx hb dX4_isName_27 (by decide) (fun hc => ?_) (fun hc => ?_)
      · have hf := tc_pos hc hf
        refine lv_iconst (v := (0 : Int32)) hx hb dX4_isName_34 (by decide) ?_
        obtain rfl := Option.some.inj hf
        exact tc_rz X hP hD hS rfl dX4_isName_35 (by decide) rfl rfl
      · have hf := tc_neg hc hf
        refine lv_iconst (v := (1 : Int32)) hx hb dX4_isName_30 (by decide) ?_
        refine lv_goto (tgt := 35) hx hb dX4_isName_31 (by decide) ?_
        obtain rfl := Option.some.inj hf
        exact tc_rz X hP hD hS rfl dX4_isName_35 (by decide) rfl rfl
def fX7_findName_3  (S : ms_T)  : Nat → Int32 → Int32 → Int64 → Int32 → Option (Int32)
  | 0, _, _, _, _ => none
  | n + 1, v1, v2, v3, v5 =>
    if v2 ≤ v5 then
      some ((-1 : Int32))
    else
      if inb (v1 + v5) 23 = true then
        if (lg_cmp (la S 10 (v1 + v5)) v3) = 0 then
          some (v5)
        else
          fX7_findName_3 S n v1 v2 v3 (v5 + (1 : Int32))
      else none
def fX7_findName  (S : ms_T) (a1 : Int32) (a2 : Int32) (a3 : Int64) : Option (Int32) :=
  fX7_findName_3 S FU a1 a2 a3 (0 : Int32)
abbrev rmX7_findName : Room := { frames := 0, cells := 0, slots := 0, locals := 0 }
theorem okX7_findName : tc_ok yX7_findName cX7_findName 6 (some .int) 3 := ⟨wc_X7_findName, wn_X7, by decide, by decide, by decide +kernel⟩
set_option maxRecDepth 20000 in
theorem tX7_findName_3 {q : Nat → Nat}  (X : tc_X dC dI ca A RX7 cX7_findName 6 (some .int) p s m args meth c) (z : Int32)  (S : ms_T)   : ∀ n : Nat, ∀ (v1 : Int32) (v2 : Int32) (v3 : Int64) (v5 : Int32), fX7_findName_3 S n v1 v2 v3 v5 = some z → ∀ (H : Heap) (locs : List Loc) (ls : Array Slot), va_P (dC, dI) classes (w7 ca q S) H → va_D A (w7 ca q S) → va_S A s.heap H locs → lv_has ls 6 [(0, .ref (q 0)), (1, .int (v1)), (2, .int (v2)), (3, .long (v3)), (5, .int (v5))] → W p l e rmX7_findName s m args below meth c H locs 0 0 (MQ below (tc_QI dC dI ca A (w7 ca q S) (z)) args s 0 0 A) (F0 m 3 ls []) := by
  obtain ⟨hx, hb, hr, hml, hown, hts, hlk, hK, hA, hG⟩ := id X
  intro n
  induction n with
  | zero => intro v1 v2 v3 v5 hf; exact absurd (show none = some z from hf) (fun h => by cases h)
  | succ n ih =>
    intro v1 v2 v3 v5 hf H locs ls hP hD hS hl
    rw [fX7_findName_3] at hf
    refine lv_iload hx hb dX7_findName_3 (lv_at hl 4 rfl) ?_
    refine lv_iload_n hx hb dX7_findName_5 rfl (lv_at hl 2 rfl) ?_
    refine lv_icmp_ge (tgt := 32) hx hb dX7_findName_6 (by decide) (fun hc => ?_) (fun hc => ?_)
    · have hf := tc_pos hc hf
      refine lv_iconst (v := (-1 : Int32)) hx hb dX7_findName_32 (by decide) ?_
      obtain rfl := Option.some.inj hf
      exact tc_ri X hP hD hS rfl dX7_findName_33 rfl rfl
    · have hf := tc_neg hc hf
      refine lv_aload_n hx hb dX7_findName_9 rfl (lv_at hl 0 rfl) ?_
      refine va_get (D := (dC, dI)) (ci := 7) (v := .ref (q 10)) (C := RX7) (T := TX7) (N := 18) hx hb hts i_X7 hown hK hP 0 rfl rfl 17 (by decide) (hts _ wf_X7_43) (fun _ h9 => h9) rfl dX7_findName_10 ?_
      refine lv_iload_n hx hb dX7_findName_13 rfl (lv_at hl 1 rfl) ?_
      refine lv_iload hx hb dX7_findName_14 (lv_at hl 4 rfl) ?_
      refine lv_iadd hx hb dX7_findName_16 ?_
      obtain ⟨hi1, hf⟩ := tc_in hf
      refine va_lald hx hb hK hP 10 2 rfl rfl hi1 dX7_findName_17 ?_
      refine lv_lload_n hx hb dX7_findName_18 rfl (lv_at hl 3 rfl) ?_
      refine W.lcmp hx hb dX7_findName_19 ?_
      refine lv_if_ne (tgt := 26) hx hb dX7_findName_20 (by decide) (fun hc => ?_) (fun hc => ?_)
      · have hf := tc_neg hc hf
        refine lv_iinc (v := v5 + (1 : Int32)) (lv' := [(5, .int (v5 + (1 : Int32))), (0, .ref (q 0)), (1, .int (v1)), (2, .int (v2)), (3, .long (v3))]) hx hb dX7_findName_26 hl (k := 4) rfl rfl (by decide) rfl (fun ls hl => ?_)
        refine lv_goto (tgt := 3) hx hb dX7_findName_29 (by decide) ?_
        exact ih v1 v2 v3 (v5 + (1 : Int32)) hf _ _ _ hP hD hS (lv_sub hl [1, 2, 3, 4, 0] rfl)
      · have hf := tc_pos hc hf
        refine lv_iload hx hb dX7_findName_23 (lv_at hl 4 rfl) ?_
        obtain rfl := Option.some.inj hf
        exact tc_ri X hP hD hS rfl dX7_findName_25 rfl rfl
set_option maxRecDepth 20000 in
theorem mX7_findName {q : Nat → Nat}  {S : ms_T} {a1 : Int32} {a2 : Int32} {a3 : Int64} {z : Int32}  (hf : fX7_findName S a1 a2 a3 = some z) : tc_MI l dC dI ca yX7_findName cX7_findName 6 (some .int) rmX7_findName [.ref (q 0), .int (a1), .int (a2), .long (a3)] (w7 ca q S) (w7 ca q S) (z) := by
  refine tc_metI (own := RX7) (by decide) rfl ?_ (Nat.le_of_ble_eq_true rfl)
  intro p e s m below meth c A X hP hD hS ls hl
  obtain ⟨hx, hb, hr, hml, hown, hts, hlk, hK, hA, hG⟩ := id X
  unfold fX7_findName at hf
  have hl : lv_has ls 6 [(0, .ref (q 0)), (1, .int (a1)), (2, .int (a2)), (3, .long (a3))] := hl
  refine lv_iconst (v := (0 : Int32)) hx hb dX7_findName_0 (by decide) ?_
  refine lv_istore (lv' := [(5, .int ((0 : Int32))), (0, .ref (q 0)), (1, .int (a1)), (2, .int (a2)), (3, .long (a3))]) hx hb dX7_findName_1 hl (by decide) rfl (fun ls hl => ?_)
  exact tX7_findName_3 X z S FU a1 a2 a3 (0 : Int32) hf _ _ _ hP hD hS (lv_sub hl [1, 2, 3, 4, 0] rfl)
def fX4_numberNamedT  (SR : ms_T) (ST : ms_T) (a2 : Int32) (a3 : Int32) : Option (Int32 × ms_T) :=
  (fX4_isNameT SR).bind fun z1 =>
  if z1 = 0 then
    (fX4_refuseHereT SR (2 : Int32)).bind fun z4 =>
    some ((-1 : Int32), z4.2)
  else
    (fX7_findName ST a2 a3 (gl SR 8)).bind fun z2 =>
    if z2 = (-1 : Int32) then
      (fX4_refuseHereT SR (3 : Int32)).bind fun z3 =>
      some (z2, z3.2)
    else
      some (z2, SR)
abbrev rmX4_numberNamedT : Room := { frames := 1, cells := 0, slots := 0, locals := 25 }
theorem okX4_numberNamed : tc_ok yX4_numberNamed cX4_numberNamed 5 (some .int) 3 := ⟨wc_X4_numberNamed, wn_X4, by decide, by decide, by decide +kernel⟩
set_option maxRecDepth 20000 in
theorem mX4_numberNamedT {qR : Nat → Nat} {qT : Nat → Nat} {rR0 : Value} {rR11 : Value} {SR : ms_T} {ST : ms_T} {a2 : Int32} {a3 : Int32} {z : Int32 × ms_T}  (hf : fX4_numberNamedT SR ST a2 a3 = some z) : tc_MI l dC dI ca yX4_numberNamed cX4_numberNamed 5 (some .int) rmX4_numberNamedT [.ref (qR 0), .ref (qT 0), .int (a2), .int (a3)] (w8 ca qR (rR0) (rR11) SR ++ w7 ca qT ST) (w8 ca qR (rR0) (rR11) z.2 ++ w7 ca qT ST) (z.1) := by
  refine tc_metI (own := RX4) (by decide) rfl ?_ (Nat.le_of_ble_eq_true rfl)
  intro p e s m below meth c A X hP hD hS ls hl
  obtain ⟨hx, hb, hr, hml, hown, hts, hlk, hK, hA, hG⟩ := id X
  unfold fX4_numberNamedT at hf
  have hl : lv_has ls 5 [(0, .ref (qR 0)), (1, .ref (qT 0)), (2, .int (a2)), (3, .int (a3))] := hl
  refine lv_aload_n hx hb dX4_numberNamed_0 rfl (lv_at hl 0 rfl) ?_
  obtain ⟨z1, hg, hf⟩ := tc_bi hf
  refine tc_iV (As := []) (rest := []) (b := qR 0) (wc := w8 ca qR (rR0) (rR11) SR) (wr := w7 ca qT ST) X hP hD hS (mX4_isNameT hg) okX4_isName wl_X4_82 wi_X4_isName ws_X8_X4_isName_X4_isName ⟨rfl, rfl, Nat.le_of_ble_eq_true rfl, Nat.le_of_ble_eq_true rfl⟩ 8 0 rfl rfl [0] [1, 2, 3, 4, 5, 6, 7, 8, 9, 10, 11] ⟨rfl, rfl, rfl, rfl, by decide⟩ rfl hl.1 (Nat.le_of_ble_eq_true rfl) dX4_numberNamed_1 (fun H locs hP hD hS => ?_)
  have hP := hP.sub (ws' := (w8 ca qR (rR0) (rR11) SR ++ w7 ca qT ST)) [11, 0, 1, 2, 3, 4, 5, 6, 7, 8, 9, 10] rfl
  have hD := hD.sub (ws' := (w8 ca qR (rR0) (rR11) SR ++ w7 ca qT ST)) [11, 0, 1, 2, 3, 4, 5, 6, 7, 8, 9, 10] rfl rfl
  refine lv_if_ne (tgt := 15) hx hb dX4_numberNamed_4 (by decide) (fun hc => ?_) (fun hc => ?_)
  · have hf := tc_neg hc hf
    refine lv_aload_n hx hb dX4_numberNamed_15 rfl (lv_at hl 1 rfl) ?_
    refine lv_iload_n hx hb dX4_numberNamed_16 rfl (lv_at hl 2 rfl) ?_
    refine lv_iload_n hx hb dX4_numberNamed_17 rfl (lv_at hl 3 rfl) ?_
    refine lv_aload_n hx hb dX4_numberNamed_18 rfl (lv_at hl 0 rfl) ?_
    refine va_get (D := (dC, dI)) (ci := 8) (v := .long (gl SR 8)) (C := RX8) (T := TX8) (N := 13) hx hb hts i_X8 hown hK hP 0 rfl rfl 8 (by decide) (hts _ wf_X4_49) (fun _ h9 => h9) rfl dX4_numberNamed_19 ?_
    obtain ⟨z2, hg, hf⟩ := tc_bi hf
    refine tc_iV (As := [.int (a2), .int (a3), .long (gl SR 8)]) (rest := []) (b := qT 0) (wc := w7 ca qT ST) (wr := w8 ca qR (rR0) (rR11) SR) X hP hD hS (mX7_findName hg) okX7_findName wl_X4_86 wi_X7_findName ws_X7_X7_findName_X7_findName ⟨rfl, rfl, Nat.le_of_ble_eq_true rfl, Nat.le_of_ble_eq_true rfl⟩ 7 0 rfl rfl [1, 2, 3, 4, 5, 6, 7, 8, 9, 10, 11] [0] ⟨rfl, rfl, rfl, rfl, by decide⟩ rfl hl.1 (Nat.le_of_ble_eq_true rfl) dX4_numberNamed_22 (fun H locs hP hD hS => ?_)
    have hP := hP.sub (ws' := (w8 ca qR (rR0) (rR11) SR ++ w7 ca qT ST)) [0, 1, 2, 3, 4, 5, 6, 7, 8, 9, 10, 11] rfl
    have hD := hD.sub (ws' := (w8 ca qR (rR0) (rR11) SR ++ w7 ca qT ST)) [0, 1, 2, 3, 4, 5, 6, 7, 8, 9, 10, 11] rfl rfl
    refine lv_istore (lv' := [(4, .int (z2)), (0, .ref (qR 0)), (1, .ref (qT 0)), (2, .int (a2)), (3, .int (a3))]) hx hb dX4_numberNamed_25 hl (by decide) rfl (fun ls hl => ?_)
    refine lv_iload hx hb dX4_numberNamed_27 (lv_at hl 0 rfl) ?_
    refine lv_iconst (v := (-1 : Int32)) hx hb dX4_numberNamed_29 (by decide) ?_
    refine lv_icmp_ne (tgt := 39) hx hb dX4_numberNamed_30 (by decide) (fun hc => ?_) (fun hc => ?_)
    · have hf := tc_neg hc hf
      refine lv_iload hx hb dX4_numberNamed_39 (lv_at hl 0 rfl) ?_
      obtain rfl := Option.some.inj hf
      exact tc_ri X hP hD hS rfl dX4_numberNamed_41 rfl rfl
    · have hf := tc_pos hc hf
      refine lv_aload_n hx hb dX4_numberNamed_33 rfl (lv_at hl 1 rfl) ?_
      refine lv_iconst (v := (3 : Int32)) hx hb dX4_numberNamed_34 (by decide) ?_
      obtain ⟨z3, hg, hf⟩ := tc_bi hf
      refine tc_iV (As := [.int ((3 : Int32))]) (rest := []) (b := qR 0) (wc := w8 ca qR (rR0) (rR11) SR) (wr := w7 ca qT ST) X hP hD hS (mX4_refuseHereT hg) okX4_refuseHere wl_X4_78 wi_X4_refuseHere ws_X8_X4_refuseHere_X4_refuseHere ⟨rfl, rfl, Nat.le_of_ble_eq_true rfl, Nat.le_of_ble_eq_true rfl⟩ 8 0 rfl rfl [0] [1, 2, 3, 4, 5, 6, 7, 8, 9, 10, 11] ⟨rfl, rfl, rfl, rfl, by decide⟩ rfl hl.1 (Nat.le_of_ble_eq_true rfl) dX4_numberNamed_35 (fun H locs hP hD hS => ?_)
      have hP := hP.sub (ws' := (w8 ca qR (rR0) (rR11) z3.2 ++ w7 ca qT ST)) [11, 0, 1, 2, 3, 4, 5, 6, 7, 8, 9, 10] rfl
      have hD := hD.sub (ws' := (w8 ca qR (rR0) (rR11) z3.2 ++ w7 ca qT ST)) [11, 0, 1, 2, 3, 4, 5, 6, 7, 8, 9, 10] rfl rfl
      refine lv_pop hx hb dX4_numberNamed_38 rfl ?_
      refine lv_iload hx hb dX4_numberNamed_39 (lv_at hl 0 rfl) ?_
      obtain rfl := Option.some.inj hf
      exact tc_ri X hP hD hS rfl dX4_numberNamed_41 rfl rfl
  · have hf := tc_pos hc hf
    refine lv_aload_n hx hb dX4_numberNamed_7 rfl (lv_at hl 0 rfl) ?_
    refine lv_iconst (v := (2 : Int32)) hx hb dX4_numberNamed_8 (by decide) ?_
    obtain ⟨z4, hg, hf⟩ := tc_bi hf
    refine tc_iV (As := [.int ((2 : Int32))]) (rest := []) (b := qR 0) (wc := w8 ca qR (rR0) (rR11) SR) (wr := w7 ca qT ST) X hP hD hS (mX4_refuseHereT hg) okX4_refuseHere wl_X4_78 wi_X4_refuseHere ws_X8_X4_refuseHere_X4_refuseHere ⟨rfl, rfl, Nat.le_of_ble_eq_true rfl, Nat.le_of_ble_eq_true rfl⟩ 8 0 rfl rfl [0] [1, 2, 3, 4, 5, 6, 7, 8, 9, 10, 11] ⟨rfl, rfl, rfl, rfl, by decide⟩ rfl hl.1 (Nat.le_of_ble_eq_true rfl) dX4_numberNamed_9 (fun H locs hP hD hS => ?_)
    have hP := hP.sub (ws' := (w8 ca qR (rR0) (rR11) z4.2 ++ w7 ca qT ST)) [11, 0, 1, 2, 3, 4, 5, 6, 7, 8, 9, 10] rfl
    have hD := hD.sub (ws' := (w8 ca qR (rR0) (rR11) z4.2 ++ w7 ca qT ST)) [11, 0, 1, 2, 3, 4, 5, 6, 7, 8, 9, 10] rfl rfl
    refine lv_pop hx hb dX4_numberNamed_12 rfl ?_
    refine lv_iconst (v := (-1 : Int32)) hx hb dX4_numberNamed_13 (by decide) ?_
    obtain rfl := Option.some.inj hf
    exact tc_ri X hP hD hS rfl dX4_numberNamed_14 rfl rfl
def fX4_numberNamedE  (SR : ms_T) (ST : ms_T) (a2 : Int32) (a3 : Int32) : Option (Int32 × ms_T) :=
  (fX4_isNameE SR).bind fun z1 =>
  if z1 = 0 then
    (fX4_refuseHereE SR (2 : Int32)).bind fun z4 =>
    some ((-1 : Int32), z4.2)
  else
    (fX7_findName ST a2 a3 (gl SR 8)).bind fun z2 =>
    if z2 = (-1 : Int32) then
      (fX4_refuseHereE SR (3 : Int32)).bind fun z3 =>
      some (z2, z3.2)
    else
      some (z2, SR)
abbrev rmX4_numberNamedE : Room := { frames := 1, cells := 0, slots := 0, locals := 25 }
set_option maxRecDepth 20000 in
theorem mX4_numberNamedE {qR : Nat → Nat} {qT : Nat → Nat} {rR0 : Value} {rR11 : Value} {rR12 : Value} {SR : ms_T} {ST : ms_T} {a2 : Int32} {a3 : Int32} {z : Int32 × ms_T}  (hf : fX4_numberNamedE SR ST a2 a3 = some z) : tc_MI l dC dI ca yX4_numberNamed cX4_numberNamed 5 (some .int) rmX4_numberNamedE [.ref (qR 0), .ref (qT 0), .int (a2), .int (a3)] (w2 ca qR (rR0) (rR11) (rR12) SR ++ w7 ca qT ST) (w2 ca qR (rR0) (rR11) (rR12) z.2 ++ w7 ca qT ST) (z.1) := by
  refine tc_metI (own := RX4) (by decide) rfl ?_ (Nat.le_of_ble_eq_true rfl)
  intro p e s m below meth c A X hP hD hS ls hl
  obtain ⟨hx, hb, hr, hml, hown, hts, hlk, hK, hA, hG⟩ := id X
  unfold fX4_numberNamedE at hf
  have hl : lv_has ls 5 [(0, .ref (qR 0)), (1, .ref (qT 0)), (2, .int (a2)), (3, .int (a3))] := hl
  refine lv_aload_n hx hb dX4_numberNamed_0 rfl (lv_at hl 0 rfl) ?_
  obtain ⟨z1, hg, hf⟩ := tc_bi hf
  refine tc_iV (As := []) (rest := []) (b := qR 0) (wc := w2 ca qR (rR0) (rR11) (rR12) SR) (wr := w7 ca qT ST) X hP hD hS (mX4_isNameE hg) okX4_isName wl_X4_82 wi_X4_isName ws_X2_X4_isName_X4_isName ⟨rfl, rfl, Nat.le_of_ble_eq_true rfl, Nat.le_of_ble_eq_true rfl⟩ 2 0 rfl rfl [0, 1] [2, 3, 4, 5, 6, 7, 8, 9, 10, 11, 12] ⟨rfl, rfl, rfl, rfl, by decide⟩ rfl hl.1 (Nat.le_of_ble_eq_true rfl) dX4_numberNamed_1 (fun H locs hP hD hS => ?_)
  have hP := hP.sub (ws' := (w2 ca qR (rR0) (rR11) (rR12) SR ++ w7 ca qT ST)) [11, 12, 0, 1, 2, 3, 4, 5, 6, 7, 8, 9, 10] rfl
  have hD := hD.sub (ws' := (w2 ca qR (rR0) (rR11) (rR12) SR ++ w7 ca qT ST)) [11, 12, 0, 1, 2, 3, 4, 5, 6, 7, 8, 9, 10] rfl rfl
  refine lv_if_ne (tgt := 15) hx hb dX4_numberNamed_4 (by decide) (fun hc => ?_) (fun hc => ?_)
  · have hf := tc_neg hc hf
    refine lv_aload_n hx hb dX4_numberNamed_15 rfl (lv_at hl 1 rfl) ?_
    refine lv_iload_n hx hb dX4_numberNamed_16 rfl (lv_at hl 2 rfl) ?_
    refine lv_iload_n hx hb dX4_numberNamed_17 rfl (lv_at hl 3 rfl) ?_
    refine lv_aload_n hx hb dX4_numberNamed_18 rfl (lv_at hl 0 rfl) ?_
    refine va_get (D := (dC, dI)) (ci := 2) (v := .long (gl SR 8)) (C := RX2) (T := TX2) (N := 15) hx hb hts i_X2 hown hK hP 0 rfl rfl 8 (by decide) (hts _ wf_X4_49) (fun _ h9 => h9) rfl dX4_numberNamed_19 ?_
    obtain ⟨z2, hg, hf⟩ := tc_bi hf
    refine tc_iV (As := [.int (a2), .int (a3), .long (gl SR 8)]) (rest := []) (b := qT 0) (wc := w7 ca qT ST) (wr := w2 ca qR (rR0) (rR11) (rR12) SR) X hP hD hS (mX7_findName hg) okX7_findName wl_X4_86 wi_X7_findName ws_X7_X7_findName_X7_findName ⟨rfl, rfl, Nat.le_of_ble_eq_true rfl, Nat.le_of_ble_eq_true rfl⟩ 7 0 rfl rfl [2, 3, 4, 5, 6, 7, 8, 9, 10, 11, 12] [0, 1] ⟨rfl, rfl, rfl, rfl, by decide⟩ rfl hl.1 (Nat.le_of_ble_eq_true rfl) dX4_numberNamed_22 (fun H locs hP hD hS => ?_)
    have hP := hP.sub (ws' := (w2 ca qR (rR0) (rR11) (rR12) SR ++ w7 ca qT ST)) [0, 1, 2, 3, 4, 5, 6, 7, 8, 9, 10, 11, 12] rfl
    have hD := hD.sub (ws' := (w2 ca qR (rR0) (rR11) (rR12) SR ++ w7 ca qT ST)) [0, 1, 2, 3, 4, 5, 6, 7, 8, 9, 10, 11, 12] rfl rfl
    refine lv_istore (lv' := [(4, .int (z2)), (0, .ref (qR 0)), (1, .ref (qT 0)), (2, .int (a2)), (3, .int (a3))]) hx hb dX4_numberNamed_25 hl (by decide) rfl (fun ls hl => ?_)
    refine lv_iload hx hb dX4_numberNamed_27 (lv_at hl 0 rfl) ?_
    refine lv_iconst (v := (-1 : Int32)) hx hb dX4_numberNamed_29 (by decide) ?_
    refine lv_icmp_ne (tgt := 39) hx hb dX4_numberNamed_30 (by decide) (fun hc => ?_) (fun hc => ?_)
    · have hf := tc_neg hc hf
      refine lv_iload hx hb dX4_numberNamed_39 (lv_at hl 0 rfl) ?_
      obtain rfl := Option.some.inj hf
      exact tc_ri X hP hD hS rfl dX4_numberNamed_41 rfl rfl
    · have hf := tc_pos hc hf
      refine lv_aload_n hx hb dX4_numberNamed_33 rfl (lv_at hl 1 rfl) ?_
      refine lv_iconst (v := (3 : Int32)) hx hb dX4_numberNamed_34 (by decide) ?_
      obtain ⟨z3, hg, hf⟩ := tc_bi hf
      refine tc_iV (As := [.int ((3 : Int32))]) (rest := []) (b := qR 0) (wc := w2 ca qR (rR0) (rR11) (rR12) SR) (wr := w7 ca qT ST) X hP hD hS (mX4_refuseHereE hg) okX4_refuseHere wl_X4_78 wi_X4_refuseHere ws_X2_X4_refuseHere_X4_refuseHere ⟨rfl, rfl, Nat.le_of_ble_eq_true rfl, Nat.le_of_ble_eq_true rfl⟩ 2 0 rfl rfl [0, 1] [2, 3, 4, 5, 6, 7, 8, 9, 10, 11, 12] ⟨rfl, rfl, rfl, rfl, by decide⟩ rfl hl.1 (Nat.le_of_ble_eq_true rfl) dX4_numberNamed_35 (fun H locs hP hD hS => ?_)
      have hP := hP.sub (ws' := (w2 ca qR (rR0) (rR11) (rR12) z3.2 ++ w7 ca qT ST)) [11, 12, 0, 1, 2, 3, 4, 5, 6, 7, 8, 9, 10] rfl
      have hD := hD.sub (ws' := (w2 ca qR (rR0) (rR11) (rR12) z3.2 ++ w7 ca qT ST)) [11, 12, 0, 1, 2, 3, 4, 5, 6, 7, 8, 9, 10] rfl rfl
      refine lv_pop hx hb dX4_numberNamed_38 rfl ?_
      refine lv_iload hx hb dX4_numberNamed_39 (lv_at hl 0 rfl) ?_
      obtain rfl := Option.some.inj hf
      exact tc_ri X hP hD hS rfl dX4_numberNamed_41 rfl rfl
  · have hf := tc_pos hc hf
    refine lv_aload_n hx hb dX4_numberNamed_7 rfl (lv_at hl 0 rfl) ?_
    refine lv_iconst (v := (2 : Int32)) hx hb dX4_numberNamed_8 (by decide) ?_
    obtain ⟨z4, hg, hf⟩ := tc_bi hf
    refine tc_iV (As := [.int ((2 : Int32))]) (rest := []) (b := qR 0) (wc := w2 ca qR (rR0) (rR11) (rR12) SR) (wr := w7 ca qT ST) X hP hD hS (mX4_refuseHereE hg) okX4_refuseHere wl_X4_78 wi_X4_refuseHere ws_X2_X4_refuseHere_X4_refuseHere ⟨rfl, rfl, Nat.le_of_ble_eq_true rfl, Nat.le_of_ble_eq_true rfl⟩ 2 0 rfl rfl [0, 1] [2, 3, 4, 5, 6, 7, 8, 9, 10, 11, 12] ⟨rfl, rfl, rfl, rfl, by decide⟩ rfl hl.1 (Nat.le_of_ble_eq_true rfl) dX4_numberNamed_9 (fun H locs hP hD hS => ?_)
    have hP := hP.sub (ws' := (w2 ca qR (rR0) (rR11) (rR12) z4.2 ++ w7 ca qT ST)) [11, 12, 0, 1, 2, 3, 4, 5, 6, 7, 8, 9, 10] rfl
    have hD := hD.sub (ws' := (w2 ca qR (rR0) (rR11) (rR12) z4.2 ++ w7 ca qT ST)) [11, 12, 0, 1, 2, 3, 4, 5, 6, 7, 8, 9, 10] rfl rfl
    refine lv_pop hx hb dX4_numberNamed_12 rfl ?_
    refine lv_iconst (v := (-1 : Int32)) hx hb dX4_numberNamed_13 (by decide) ?_
    obtain rfl := Option.some.inj hf
    exact tc_ri X hP hD hS rfl dX4_numberNamed_14 rfl rfl
def fX4_talkerNamedT  (SR : ms_T) (ST : ms_T)  : Option (Int32 × ms_T) :=
  (fX4_numberNamedT SR ST (17 : Int32) (gi ST 8)).bind fun z1 =>
  some (z1.1, z1.2)
abbrev rmX4_talkerNamedT : Room := { frames := 2, cells := 0, slots := 0, locals := 49 }
theorem okX4_talkerNamed : tc_ok yX4_talkerNamed cX4_talkerNamed 2 (some .int) 1 := ⟨wc_X4_talkerNamed, wn_X4, by decide, by decide, by decide +kernel⟩
set_option maxRecDepth 20000 in
theorem mX4_talkerNamedT {qR : Nat → Nat} {qT : Nat → Nat} {rR0 : Value} {rR11 : Value} {SR : ms_T} {ST : ms_T}  {z : Int32 × ms_T}  (hf : fX4_talkerNamedT SR ST = some z) : tc_MI l dC dI ca yX4_talkerNamed cX4_talkerNamed 2 (some .int) rmX4_talkerNamedT [.ref (qR 0), .ref (qT 0)] (w8 ca qR (rR0) (rR11) SR ++ w7 ca qT ST) (w8 ca qR (rR0) (rR11) z.2 ++ w7 ca qT ST) (z.1) := by
  refine tc_metI (own := RX4) (by decide) rfl ?_ (Nat.le_of_ble_eq_true rfl)
  intro p e s m below meth c A X hP hD hS ls hl
  obtain ⟨hx, hb, hr, hml, hown, hts, hlk, hK, hA, hG⟩ := id X
  unfold fX4_talkerNamedT at hf
  have hl : lv_has ls 2 [(0, .ref (qR 0)), (1, .ref (qT 0))] := hl
  refine lv_aload_n hx hb dX4_talkerNamed_0 rfl (lv_at hl 0 rfl) ?_
  refine lv_aload_n hx hb dX4_talkerNamed_1 rfl (lv_at hl 1 rfl) ?_
  refine lv_bipush (v := (17 : Int32)) hx hb dX4_talkerNamed_2 (by decide) ?_
  refine lv_aload_n hx hb dX4_talkerNamed_4 rfl (lv_at hl 1 rfl) ?_
  refine va_get (D := (dC, dI)) (ci := 7) (v := .int (gi ST 8)) (C := RX7) (T := TX7) (N := 18) hx hb hts i_X7 hown hK hP 1 rfl rfl 8 (by decide) (hts _ wf_X4_102) (fun _ h9 => h9) rfl dX4_talkerNamed_5 ?_
  obtain ⟨z1, hg, hf⟩ := tc_bi hf
  refine tc_iVs (As := [.ref (qT 0), .int ((17 : Int32)), .int (gi ST 8)]) (rest := []) (b := qR 0) X hP hD hS (mX4_numberNamedT hg) okX4_numberNamed wl_X4_95 wi_X4_numberNamed ws_X8_X4_numberNamed_X4_numberNamed ⟨rfl, rfl, Nat.le_of_ble_eq_true rfl, Nat.le_of_ble_eq_true rfl⟩ 8 0 rfl rfl rfl hl.1 (Nat.le_of_ble_eq_true rfl) dX4_talkerNamed_8 (fun H locs hP hD hS => ?_)
  obtain rfl := Option.some.inj hf
  exact tc_ri X hP hD hS rfl dX4_talkerNamed_11 rfl rfl
def fX4_talkerNamedE  (SR : ms_T) (ST : ms_T)  : Option (Int32 × ms_T) :=
  (fX4_numberNamedE SR ST (17 : Int32) (gi ST 8)).bind fun z1 =>
  some (z1.1, z1.2)
abbrev rmX4_talkerNamedE : Room := { frames := 2, cells := 0, slots := 0, locals := 49 }
set_option maxRecDepth 20000 in
theorem mX4_talkerNamedE {qR : Nat → Nat} {qT : Nat → Nat} {rR0 : Value} {rR11 : Value} {rR12 : Value} {SR : ms_T} {ST : ms_T}  {z : Int32 × ms_T}  (hf : fX4_talkerNamedE SR ST = some z) : tc_MI l dC dI ca yX4_talkerNamed cX4_talkerNamed 2 (some .int) rmX4_talkerNamedE [.ref (qR 0), .ref (qT 0)] (w2 ca qR (rR0) (rR11) (rR12) SR ++ w7 ca qT ST) (w2 ca qR (rR0) (rR11) (rR12) z.2 ++ w7 ca qT ST) (z.1) := by
  refine tc_metI (own := RX4) (by decide) rfl ?_ (Nat.le_of_ble_eq_true rfl)
  intro p e s m below meth c A X hP hD hS ls hl
  obtain ⟨hx, hb, hr, hml, hown, hts, hlk, hK, hA, hG⟩ := id X
  unfold fX4_talkerNamedE at hf
  have hl : lv_has ls 2 [(0, .ref (qR 0)), (1, .ref (qT 0))] := hl
  refine lv_aload_n hx hb dX4_talkerNamed_0 rfl (lv_at hl 0 rfl) ?_
  refine lv_aload_n hx hb dX4_talkerNamed_1 rfl (lv_at hl 1 rfl) ?_
  refine lv_bipush (v := (17 : Int32)) hx hb dX4_talkerNamed_2 (by decide) ?_
  refine lv_aload_n hx hb dX4_talkerNamed_4 rfl (lv_at hl 1 rfl) ?_
  refine va_get (D := (dC, dI)) (ci := 7) (v := .int (gi ST 8)) (C := RX7) (T := TX7) (N := 18) hx hb hts i_X7 hown hK hP 2 rfl rfl 8 (by decide) (hts _ wf_X4_102) (fun _ h9 => h9) rfl dX4_talkerNamed_5 ?_
  obtain ⟨z1, hg, hf⟩ := tc_bi hf
  refine tc_iVs (As := [.ref (qT 0), .int ((17 : Int32)), .int (gi ST 8)]) (rest := []) (b := qR 0) X hP hD hS (mX4_numberNamedE hg) okX4_numberNamed wl_X4_95 wi_X4_numberNamed ws_X2_X4_numberNamed_X4_numberNamed ⟨rfl, rfl, Nat.le_of_ble_eq_true rfl, Nat.le_of_ble_eq_true rfl⟩ 2 0 rfl rfl rfl hl.1 (Nat.le_of_ble_eq_true rfl) dX4_talkerNamed_8 (fun H locs hP hD hS => ?_)
  obtain rfl := Option.some.inj hf
  exact tc_ri X hP hD hS rfl dX4_talkerNamed_11 rfl rfl
theorem aw2_B_7_1_3_2 (ca : Nat → ClassId) (q0 q1 q2 q3 : Nat → Nat) (r0_0 r0_11 r0_12 : Value) (S0 S1 S2 S3 : ms_T) (i v : Int32) : (w2 ca q0 r0_0 r0_11 r0_12 S0 ++ wLB ca q1 S1 ++ w7 ca q2 S2 ++ w1 ca q3 S3 : va_W).set 16 (q3 2, .inl (ca 1, 60, .inl (upd (ra S3 2) i.toNatClampNeg v))) = w2 ca q0 r0_0 r0_11 r0_12 S0 ++ wLB ca q1 S1 ++ w7 ca q2 S2 ++ w1 ca q3 (sa S3 2 i v) := rfl
def fX2_readTalkerHere  (SR : ms_T) (SB : ms_T) (ST : ms_T) (SE : ms_T)  : Option (Int32 × ms_T × ms_T) :=
  (fX4_talkerNamedE SR ST).bind fun z1 =>
  if z1.1 = (-1 : Int32) then
    some ((0 : Int32), z1.2, SE)
  else
    if inb (gi SE 2) 60 = true then
      (fX4_advanceE z1.2 SB).bind fun z3 =>
      some ((1 : Int32), z3, sa SE 2 (gi SE 2) z1.1)
    else none
abbrev rmX2_readTalkerHere : Room := { frames := 10, cells := 0, slots := 0, locals := 445 }
theorem okX2_readTalkerHere : tc_ok yX2_readTalkerHere cX2_readTalkerHere 2 (some .boolean) 0 := ⟨wc_X2_readTalkerHere, wn_X2, by decide, by decide, by decide +kernel⟩
set_option maxRecDepth 20000 in
theorem mX2_readTalkerHere {qR : Nat → Nat} {qB : Nat → Nat} {qT : Nat → Nat} {qE : Nat → Nat}  {SR : ms_T} {SB : ms_T} {ST : ms_T} {SE : ms_T}  {z : Int32 × ms_T × ms_T}  (hf : fX2_readTalkerHere SR SB ST SE = some z) : tc_MI l dC dI ca yX2_readTalkerHere cX2_readTalkerHere 2 (some .boolean) rmX2_readTalkerHere [.ref (qR 0)] (w2 ca qR (.ref (qB 0)) (.ref (qT 0)) (.ref (qE 0)) SR ++ wLB ca qB SB ++ w7 ca qT ST ++ w1 ca qE SE) (w2 ca qR (.ref (qB 0)) (.ref (qT 0)) (.ref (qE 0)) z.2.1 ++ wLB ca qB SB ++ w7 ca qT ST ++ w1 ca qE z.2.2) (z.1) := by
  refine tc_metI (own := RX2) (by decide) rfl ?_ (Nat.le_of_ble_eq_true rfl)
  intro p e s m below meth c A X hP hD hS ls hl
  obtain ⟨hx, hb, hr, hml, hown, hts, hlk, hK, hA, hG⟩ := id X
  unfold fX2_readTalkerHere at hf
  have hl : lv_has ls 2 [(0, .ref (qR 0))] := hl
  refine lv_aload_n hx hb dX2_readTalkerHere_0 rfl (lv_at hl 0 rfl) ?_
  refine lv_aload_n hx hb dX2_readTalkerHere_1 rfl (lv_at hl 0 rfl) ?_
  refine va_get (D := (dC, dI)) (ci := 2) (v := .ref (qT 0)) (C := RX2) (T := TX2) (N := 15) hx hb hts i_X2 hown hK hP 0 rfl rfl 11 (by decide) (hts _ wf_X2_17) (fun _ h9 => h9) rfl dX2_readTalkerHere_2 ?_
  obtain ⟨z1, hg, hf⟩ := tc_bi hf
  refine tc_iU (As := [.ref (qT 0)]) (rest := []) (b := qR 0) (wc := w2 ca qR (.ref (qB 0)) (.ref (qT 0)) (.ref (qE 0)) SR ++ w7 ca qT ST) (wr := wLB ca qB SB ++ w1 ca qE SE) X hP hD hS (mX4_talkerNamedE hg) okX4_talkerNamed wl_X2_96 wu_X2_talkerNamed rfl wi_X4_talkerNamed ws_X2_xtalkerNamed_X4_talkerNamed ⟨rfl, rfl, Nat.le_of_ble_eq_true rfl, Nat.le_of_ble_eq_true rfl⟩ 2 0 rfl rfl [0, 1, 3, 4, 5, 6, 7, 8, 9, 10, 11, 12, 13] [2, 14, 15, 16, 17, 18, 19] ⟨rfl, rfl, rfl, rfl, by decide⟩ rfl hl.1 (Nat.le_of_ble_eq_true rfl) dX2_readTalkerHere_5 (fun H locs hP hD hS => ?_)
  have hP := hP.sub (ws' := (w2 ca qR (.ref (qB 0)) (.ref (qT 0)) (.ref (qE 0)) z1.2 ++ wLB ca qB SB ++ w7 ca qT ST ++ w1 ca qE SE)) [7, 8, 0, 9, 10, 11, 12, 13, 14, 15, 16, 17, 18, 19, 1, 2, 3, 4, 5, 6] rfl
  have hD := hD.sub (ws' := (w2 ca qR (.ref (qB 0)) (.ref (qT 0)) (.ref (qE 0)) z1.2 ++ wLB ca qB SB ++ w7 ca qT ST ++ w1 ca qE SE)) [7, 8, 0, 9, 10, 11, 12, 13, 14, 15, 16, 17, 18, 19, 1, 2, 3, 4, 5, 6] rfl rfl
  refine lv_istore_n (lv' := [(1, .int (z1.1)), (0, .ref (qR 0))]) hx hb dX2_readTalkerHere_8 rfl hl (by decide) rfl (fun ls hl => ?_)
  refine lv_iload_n hx hb dX2_readTalkerHere_9 rfl (lv_at hl 0 rfl) ?_
  refine lv_iconst (v := (-1 : Int32)) hx hb dX2_readTalkerHere_10 (by decide) ?_
  refine lv_icmp_ne (tgt := 16) hx hb dX2_readTalkerHere_11 (by decide) (fun hc => ?_) (fun hc => ?_)
  · have hf := tc_neg hc hf
    refine lv_aload_n hx hb dX2_readTalkerHere_16 rfl (lv_at hl 1 rfl) ?_
    refine va_get (D := (dC, dI)) (ci := 2) (v := .ref (qE 0)) (C := RX2) (T := TX2) (N := 15) hx hb hts i_X2 hown hK hP 0 rfl rfl 12 (by decide) (hts _ wf_X2_21) (fun _ h9 => h9) rfl dX2_readTalkerHere_17 ?_
    refine va_get (D := (dC, dI)) (ci := 1) (v := .ref (qE 2)) (C := RX1) (T := TX1) (N := 8) hx hb hts i_X1 hown hK hP 14 rfl rfl 4 (by decide) (hts _ wf_X2_90) (fun _ h9 => h9) rfl dX2_readTalkerHere_20 ?_
    refine lv_aload_n hx hb dX2_readTalkerHere_23 rfl (lv_at hl 1 rfl) ?_
    refine va_get (D := (dC, dI)) (ci := 2) (v := .ref (qE 0)) (C := RX2) (T := TX2) (N := 15) hx hb hts i_X2 hown hK hP 0 rfl rfl 12 (by decide) (hts _ wf_X2_21) (fun _ h9 => h9) rfl dX2_readTalkerHere_24 ?_
    refine va_get (D := (dC, dI)) (ci := 1) (v := .int (gi SE 2)) (C := RX1) (T := TX1) (N := 8) hx hb hts i_X1 hown hK hP 14 rfl rfl 2 (by decide) (hts _ wf_X2_64) (fun _ h9 => h9) rfl dX2_readTalkerHere_27 ?_
    refine lv_iload_n hx hb dX2_readTalkerHere_30 rfl (lv_at hl 0 rfl) ?_
    obtain ⟨hi2, hf⟩ := tc_in hf
    refine va_iast hx hb hK hP hD hS 16 1 rfl rfl hi2 dX2_readTalkerHere_31 (fun H locs hP hD hS => ?_)
    have hP := tc_eP (aw2_B_7_1_3_2 ca qR qB qT qE (.ref (qB 0)) (.ref (qT 0)) (.ref (qE 0)) z1.2 SB ST SE (gi SE 2) z1.1) hP
    have hD := tc_eD (aw2_B_7_1_3_2 ca qR qB qT qE (.ref (qB 0)) (.ref (qT 0)) (.ref (qE 0)) z1.2 SB ST SE (gi SE 2) z1.1) hD
    refine lv_aload_n hx hb dX2_readTalkerHere_32 rfl (lv_at hl 1 rfl) ?_
    obtain ⟨z3, hg, hf⟩ := tc_bi hf
    refine tc_vU (As := []) (rest := []) (b := qR 0) (wc := w2 ca qR (.ref (qB 0)) (.ref (qT 0)) (.ref (qE 0)) z1.2 ++ wLB ca qB SB) (wr := w7 ca qT ST ++ w1 ca qE (sa SE 2 (gi SE 2) z1.1)) X hP hD hS (mX4_advanceE hg) okX4_advance wl_X2_70 wu_X2_advance rfl wi_X4_advance ws_X2_xadvance_X4_advance ⟨rfl, rfl, Nat.le_of_ble_eq_true rfl, Nat.le_of_ble_eq_true rfl⟩ 2 0 rfl rfl [0, 1, 2] [3, 4, 5, 6, 7, 8, 9, 10, 11, 12, 13, 14, 15, 16, 17, 18, 19] ⟨rfl, rfl, rfl, rfl, by decide⟩ rfl hl.1 (Nat.le_of_ble_eq_true rfl) dX2_readTalkerHere_33 (fun H locs hP hD hS => ?_)
    have hP := hP.sub (ws' := (w2 ca qR (.ref (qB 0)) (.ref (qT 0)) (.ref (qE 0)) z3 ++ wLB ca qB SB ++ w7 ca qT ST ++ w1 ca qE (sa SE 2 (gi SE 2) z1.1))) [17, 18, 19, 0, 1, 2, 3, 4, 5, 6, 7, 8, 9, 10, 11, 12, 13, 14, 15, 16] rfl
    have hD := hD.sub (ws' := (w2 ca qR (.ref (qB 0)) (.ref (qT 0)) (.ref (qE 0)) z3 ++ wLB ca qB SB ++ w7 ca qT ST ++ w1 ca qE (sa SE 2 (gi SE 2) z1.1))) [17, 18, 19, 0, 1, 2, 3, 4, 5, 6, 7, 8, 9, 10, 11, 12, 13, 14, 15, 16] rfl rfl
    refine lv_iconst (v := (1 : Int32)) hx hb dX2_readTalkerHere_36 (by decide) ?_
    obtain rfl := Option.some.inj hf
    exact tc_rz X hP hD hS rfl dX2_readTalkerHere_37 (by decide) rfl rfl
  · have hf := tc_pos hc hf
    refine lv_iconst (v := (0 : Int32)) hx hb dX2_readTalkerHere_14 (by decide) ?_
    obtain rfl := Option.some.inj hf
    exact tc_rz X hP hD hS rfl dX2_readTalkerHere_15 (by decide) rfl rfl
def fX4_claimNamedT  (SR : ms_T) (ST : ms_T)  : Option (Int32 × ms_T) :=
  (fX4_numberNamedT SR ST (9 : Int32) (gi ST 4)).bind fun z1 =>
  some (z1.1, z1.2)
abbrev rmX4_claimNamedT : Room := { frames := 2, cells := 0, slots := 0, locals := 49 }
theorem okX4_claimNamed : tc_ok yX4_claimNamed cX4_claimNamed 2 (some .int) 1 := ⟨wc_X4_claimNamed, wn_X4, by decide, by decide, by decide +kernel⟩
set_option maxRecDepth 20000 in
theorem mX4_claimNamedT {qR : Nat → Nat} {qT : Nat → Nat} {rR0 : Value} {rR11 : Value} {SR : ms_T} {ST : ms_T}  {z : Int32 × ms_T}  (hf : fX4_claimNamedT SR ST = some z) : tc_MI l dC dI ca yX4_claimNamed cX4_claimNamed 2 (some .int) rmX4_claimNamedT [.ref (qR 0), .ref (qT 0)] (w8 ca qR (rR0) (rR11) SR ++ w7 ca qT ST) (w8 ca qR (rR0) (rR11) z.2 ++ w7 ca qT ST) (z.1) := by
  refine tc_metI (own := RX4) (by decide) rfl ?_ (Nat.le_of_ble_eq_true rfl)
  intro p e s m below meth c A X hP hD hS ls hl
  obtain ⟨hx, hb, hr, hml, hown, hts, hlk, hK, hA, hG⟩ := id X
  unfold fX4_claimNamedT at hf
  have hl : lv_has ls 2 [(0, .ref (qR 0)), (1, .ref (qT 0))] := hl
  refine lv_aload_n hx hb dX4_claimNamed_0 rfl (lv_at hl 0 rfl) ?_
  refine lv_aload_n hx hb dX4_claimNamed_1 rfl (lv_at hl 1 rfl) ?_
  refine lv_bipush (v := (9 : Int32)) hx hb dX4_claimNamed_2 (by decide) ?_
  refine lv_aload_n hx hb dX4_claimNamed_4 rfl (lv_at hl 1 rfl) ?_
  refine va_get (D := (dC, dI)) (ci := 7) (v := .int (gi ST 4)) (C := RX7) (T := TX7) (N := 18) hx hb hts i_X7 hown hK hP 1 rfl rfl 4 (by decide) (hts _ wf_X4_99) (fun _ h9 => h9) rfl dX4_claimNamed_5 ?_
  obtain ⟨z1, hg, hf⟩ := tc_bi hf
  refine tc_iVs (As := [.ref (qT 0), .int ((9 : Int32)), .int (gi ST 4)]) (rest := []) (b := qR 0) X hP hD hS (mX4_numberNamedT hg) okX4_numberNamed wl_X4_95 wi_X4_numberNamed ws_X8_X4_numberNamed_X4_numberNamed ⟨rfl, rfl, Nat.le_of_ble_eq_true rfl, Nat.le_of_ble_eq_true rfl⟩ 8 0 rfl rfl rfl hl.1 (Nat.le_of_ble_eq_true rfl) dX4_claimNamed_8 (fun H locs hP hD hS => ?_)
  obtain rfl := Option.some.inj hf
  exact tc_ri X hP hD hS rfl dX4_claimNamed_11 rfl rfl
def fX4_claimNamedE  (SR : ms_T) (ST : ms_T)  : Option (Int32 × ms_T) :=
  (fX4_numberNamedE SR ST (9 : Int32) (gi ST 4)).bind fun z1 =>
  some (z1.1, z1.2)
abbrev rmX4_claimNamedE : Room := { frames := 2, cells := 0, slots := 0, locals := 49 }
set_option maxRecDepth 20000 in
theorem mX4_claimNamedE {qR : Nat → Nat} {qT : Nat → Nat} {rR0 : Value} {rR11 : Value} {rR12 : Value} {SR : ms_T} {ST : ms_T}  {z : Int32 × ms_T}  (hf : fX4_claimNamedE SR ST = some z) : tc_MI l dC dI ca yX4_claimNamed cX4_claimNamed 2 (some .int) rmX4_claimNamedE [.ref (qR 0), .ref (qT 0)] (w2 ca qR (rR0) (rR11) (rR12) SR ++ w7 ca qT ST) (w2 ca qR (rR0) (rR11) (rR12) z.2 ++ w7 ca qT ST) (z.1) := by
  refine tc_metI (own := RX4) (by decide) rfl ?_ (Nat.le_of_ble_eq_true rfl)
  intro p e s m below meth c A X hP hD hS ls hl
  obtain ⟨hx, hb, hr, hml, hown, hts, hlk, hK, hA, hG⟩ := id X
  unfold fX4_claimNamedE at hf
  have hl : lv_has ls 2 [(0, .ref (qR 0)), (1, .ref (qT 0))] := hl
  refine lv_aload_n hx hb dX4_claimNamed_0 rfl (lv_at hl 0 rfl) ?_
  refine lv_aload_n hx hb dX4_claimNamed_1 rfl (lv_at hl 1 rfl) ?_
  refine lv_bipush (v := (9 : Int32)) hx hb dX4_claimNamed_2 (by decide) ?_
  refine lv_aload_n hx hb dX4_claimNamed_4 rfl (lv_at hl 1 rfl) ?_
  refine va_get (D := (dC, dI)) (ci := 7) (v := .int (gi ST 4)) (C := RX7) (T := TX7) (N := 18) hx hb hts i_X7 hown hK hP 2 rfl rfl 4 (by decide) (hts _ wf_X4_99) (fun _ h9 => h9) rfl dX4_claimNamed_5 ?_
  obtain ⟨z1, hg, hf⟩ := tc_bi hf
  refine tc_iVs (As := [.ref (qT 0), .int ((9 : Int32)), .int (gi ST 4)]) (rest := []) (b := qR 0) X hP hD hS (mX4_numberNamedE hg) okX4_numberNamed wl_X4_95 wi_X4_numberNamed ws_X2_X4_numberNamed_X4_numberNamed ⟨rfl, rfl, Nat.le_of_ble_eq_true rfl, Nat.le_of_ble_eq_true rfl⟩ 2 0 rfl rfl rfl hl.1 (Nat.le_of_ble_eq_true rfl) dX4_claimNamed_8 (fun H locs hP hD hS => ?_)
  obtain rfl := Option.some.inj hf
  exact tc_ri X hP hD hS rfl dX4_claimNamed_11 rfl rfl
def fX2_readClaimHereo  (SR : ms_T) (SB : ms_T) (ST : ms_T) (SE : ms_T)  : Option (Int32 × ms_T × ms_T) :=
  (fX4_claimNamedE SR ST).bind fun z1 =>
  if z1.1 = (-1 : Int32) then
    some ((0 : Int32), z1.2, SE)
  else
    if inb (gi SE 2) 60 = true then
      (fX4_advanceE z1.2 SB).bind fun z3 =>
      some ((1 : Int32), z3, sa SE 2 (gi SE 2) z1.1)
    else none
abbrev rmX2_readClaimHereo : Room := { frames := 10, cells := 0, slots := 0, locals := 445 }
theorem okX2_readClaimHere : tc_ok yX2_readClaimHere cX2_readClaimHere 3 (some .boolean) 1 := ⟨wc_X2_readClaimHere, wn_X2, by decide, by decide, by decide +kernel⟩
set_option maxRecDepth 20000 in
theorem mX2_readClaimHereo {qR : Nat → Nat} {qB : Nat → Nat} {qT : Nat → Nat} {qE : Nat → Nat}  {SR : ms_T} {SB : ms_T} {ST : ms_T} {SE : ms_T}  {z : Int32 × ms_T × ms_T}  (hf : fX2_readClaimHereo SR SB ST SE = some z) : tc_MI l dC dI ca yX2_readClaimHere cX2_readClaimHere 3 (some .boolean) rmX2_readClaimHereo [.ref (qR 0), .ref (qE 2)] (w2 ca qR (.ref (qB 0)) (.ref (qT 0)) (.ref (qE 0)) SR ++ wLB ca qB SB ++ w7 ca qT ST ++ w1 ca qE SE) (w2 ca qR (.ref (qB 0)) (.ref (qT 0)) (.ref (qE 0)) z.2.1 ++ wLB ca qB SB ++ w7 ca qT ST ++ w1 ca qE z.2.2) (z.1) := by
  refine tc_metI (own := RX2) (by decide) rfl ?_ (Nat.le_of_ble_eq_true rfl)
  intro p e s m below meth c A X hP hD hS ls hl
  obtain ⟨hx, hb, hr, hml, hown, hts, hlk, hK, hA, hG⟩ := id X
  unfold fX2_readClaimHereo at hf
  have hl : lv_has ls 3 [(0, .ref (qR 0)), (1, .ref (qE 2))] := hl
  refine lv_aload_n hx hb dX2_readClaimHere_0 rfl (lv_at hl 0 rfl) ?_
  refine lv_aload_n hx hb dX2_readClaimHere_1 rfl (lv_at hl 0 rfl) ?_
  refine va_get (D := (dC, dI)) (ci := 2) (v := .ref (qT 0)) (C := RX2) (T := TX2) (N := 15) hx hb hts i_X2 hown hK hP 0 rfl rfl 11 (by decide) (hts _ wf_X2_17) (fun _ h9 => h9) rfl dX2_readClaimHere_2 ?_
  obtain ⟨z1, hg, hf⟩ := tc_bi hf
  refine tc_iU (As := [.ref (qT 0)]) (rest := []) (b := qR 0) (wc := w2 ca qR (.ref (qB 0)) (.ref (qT 0)) (.ref (qE 0)) SR ++ w7 ca qT ST) (wr := wLB ca qB SB ++ w1 ca qE SE) X hP hD hS (mX4_claimNamedE hg) okX4_claimNamed wl_X2_100 wu_X2_claimNamed rfl wi_X4_claimNamed ws_X2_xclaimNamed_X4_claimNamed ⟨rfl, rfl, Nat.le_of_ble_eq_true rfl, Nat.le_of_ble_eq_true rfl⟩ 2 0 rfl rfl [0, 1, 3, 4, 5, 6, 7, 8, 9, 10, 11, 12, 13] [2, 14, 15, 16, 17, 18, 19] ⟨rfl, rfl, rfl, rfl, by decide⟩ rfl hl.1 (Nat.le_of_ble_eq_true rfl) dX2_readClaimHere_5 (fun H locs hP hD hS => ?_)
  have hP := hP.sub (ws' := (w2 ca qR (.ref (qB 0)) (.ref (qT 0)) (.ref (qE 0)) z1.2 ++ wLB ca qB SB ++ w7 ca qT ST ++ w1 ca qE SE)) [7, 8, 0, 9, 10, 11, 12, 13, 14, 15, 16, 17, 18, 19, 1, 2, 3, 4, 5, 6] rfl
  have hD := hD.sub (ws' := (w2 ca qR (.ref (qB 0)) (.ref (qT 0)) (.ref (qE 0)) z1.2 ++ wLB ca qB SB ++ w7 ca qT ST ++ w1 ca qE SE)) [7, 8, 0, 9, 10, 11, 12, 13, 14, 15, 16, 17, 18, 19, 1, 2, 3, 4, 5, 6] rfl rfl
  refine lv_istore_n (lv' := [(2, .int (z1.1)), (0, .ref (qR 0)), (1, .ref (qE 2))]) hx hb dX2_readClaimHere_8 rfl hl (by decide) rfl (fun ls hl => ?_)
  refine lv_iload_n hx hb dX2_readClaimHere_9 rfl (lv_at hl 0 rfl) ?_
  refine lv_iconst (v := (-1 : Int32)) hx hb dX2_readClaimHere_10 (by decide) ?_
  refine lv_icmp_ne (tgt := 16) hx hb dX2_readClaimHere_11 (by decide) (fun hc => ?_) (fun hc => ?_)
  · have hf := tc_neg hc hf
    refine lv_aload_n hx hb dX2_readClaimHere_16 rfl (lv_at hl 2 rfl) ?_
    refine lv_aload_n hx hb dX2_readClaimHere_17 rfl (lv_at hl 1 rfl) ?_
    refine va_get (D := (dC, dI)) (ci := 2) (v := .ref (qE 0)) (C := RX2) (T := TX2) (N := 15) hx hb hts i_X2 hown hK hP 0 rfl rfl 12 (by decide) (hts _ wf_X2_21) (fun _ h9 => h9) rfl dX2_readClaimHere_18 ?_
    refine va_get (D := (dC, dI)) (ci := 1) (v := .int (gi SE 2)) (C := RX1) (T := TX1) (N := 8) hx hb hts i_X1 hown hK hP 14 rfl rfl 2 (by decide) (hts _ wf_X2_64) (fun _ h9 => h9) rfl dX2_readClaimHere_21 ?_
    refine lv_iload_n hx hb dX2_readClaimHere_24 rfl (lv_at hl 0 rfl) ?_
    obtain ⟨hi2, hf⟩ := tc_in hf
    refine va_iast hx hb hK hP hD hS 16 1 rfl rfl hi2 dX2_readClaimHere_25 (fun H locs hP hD hS => ?_)
    have hP := tc_eP (aw2_B_7_1_3_2 ca qR qB qT qE (.ref (qB 0)) (.ref (qT 0)) (.ref (qE 0)) z1.2 SB ST SE (gi SE 2) z1.1) hP
    have hD := tc_eD (aw2_B_7_1_3_2 ca qR qB qT qE (.ref (qB 0)) (.ref (qT 0)) (.ref (qE 0)) z1.2 SB ST SE (gi SE 2) z1.1) hD
    refine lv_aload_n hx hb dX2_readClaimHere_26 rfl (lv_at hl 1 rfl) ?_
    obtain ⟨z3, hg, hf⟩ := tc_bi hf
    refine tc_vU (As := []) (rest := []) (b := qR 0) (wc := w2 ca qR (.ref (qB 0)) (.ref (qT 0)) (.ref (qE 0)) z1.2 ++ wLB ca qB SB) (wr := w7 ca qT ST ++ w1 ca qE (sa SE 2 (gi SE 2) z1.1)) X hP hD hS (mX4_advanceE hg) okX4_advance wl_X2_70 wu_X2_advance rfl wi_X4_advance ws_X2_xadvance_X4_advance ⟨rfl, rfl, Nat.le_of_ble_eq_true rfl, Nat.le_of_ble_eq_true rfl⟩ 2 0 rfl rfl [0, 1, 2] [3, 4, 5, 6, 7, 8, 9, 10, 11, 12, 13, 14, 15, 16, 17, 18, 19] ⟨rfl, rfl, rfl, rfl, by decide⟩ rfl hl.1 (Nat.le_of_ble_eq_true rfl) dX2_readClaimHere_27 (fun H locs hP hD hS => ?_)
    have hP := hP.sub (ws' := (w2 ca qR (.ref (qB 0)) (.ref (qT 0)) (.ref (qE 0)) z3 ++ wLB ca qB SB ++ w7 ca qT ST ++ w1 ca qE (sa SE 2 (gi SE 2) z1.1))) [17, 18, 19, 0, 1, 2, 3, 4, 5, 6, 7, 8, 9, 10, 11, 12, 13, 14, 15, 16] rfl
    have hD := hD.sub (ws' := (w2 ca qR (.ref (qB 0)) (.ref (qT 0)) (.ref (qE 0)) z3 ++ wLB ca qB SB ++ w7 ca qT ST ++ w1 ca qE (sa SE 2 (gi SE 2) z1.1))) [17, 18, 19, 0, 1, 2, 3, 4, 5, 6, 7, 8, 9, 10, 11, 12, 13, 14, 15, 16] rfl rfl
    refine lv_iconst (v := (1 : Int32)) hx hb dX2_readClaimHere_30 (by decide) ?_
    obtain rfl := Option.some.inj hf
    exact tc_rz X hP hD hS rfl dX2_readClaimHere_31 (by decide) rfl rfl
  · have hf := tc_pos hc hf
    refine lv_iconst (v := (0 : Int32)) hx hb dX2_readClaimHere_14 (by decide) ?_
    obtain rfl := Option.some.inj hf
    exact tc_rz X hP hD hS rfl dX2_readClaimHere_15 (by decide) rfl rfl
theorem aw2_B_7_1_3_3 (ca : Nat → ClassId) (q0 q1 q2 q3 : Nat → Nat) (r0_0 r0_11 r0_12 : Value) (S0 S1 S2 S3 : ms_T) (i v : Int32) : (w2 ca q0 r0_0 r0_11 r0_12 S0 ++ wLB ca q1 S1 ++ w7 ca q2 S2 ++ w1 ca q3 S3 : va_W).set 17 (q3 3, .inl (ca 1, 60, .inl (upd (ra S3 3) i.toNatClampNeg v))) = w2 ca q0 r0_0 r0_11 r0_12 S0 ++ wLB ca q1 S1 ++ w7 ca q2 S2 ++ w1 ca q3 (sa S3 3 i v) := rfl
def fX2_readClaimHeret  (SR : ms_T) (SB : ms_T) (ST : ms_T) (SE : ms_T)  : Option (Int32 × ms_T × ms_T) :=
  (fX4_claimNamedE SR ST).bind fun z1 =>
  if z1.1 = (-1 : Int32) then
    some ((0 : Int32), z1.2, SE)
  else
    if inb (gi SE 2) 60 = true then
      (fX4_advanceE z1.2 SB).bind fun z3 =>
      some ((1 : Int32), z3, sa SE 3 (gi SE 2) z1.1)
    else none
abbrev rmX2_readClaimHeret : Room := { frames := 10, cells := 0, slots := 0, locals := 445 }
set_option maxRecDepth 20000 in
theorem mX2_readClaimHeret {qR : Nat → Nat} {qB : Nat → Nat} {qT : Nat → Nat} {qE : Nat → Nat}  {SR : ms_T} {SB : ms_T} {ST : ms_T} {SE : ms_T}  {z : Int32 × ms_T × ms_T}  (hf : fX2_readClaimHeret SR SB ST SE = some z) : tc_MI l dC dI ca yX2_readClaimHere cX2_readClaimHere 3 (some .boolean) rmX2_readClaimHeret [.ref (qR 0), .ref (qE 3)] (w2 ca qR (.ref (qB 0)) (.ref (qT 0)) (.ref (qE 0)) SR ++ wLB ca qB SB ++ w7 ca qT ST ++ w1 ca qE SE) (w2 ca qR (.ref (qB 0)) (.ref (qT 0)) (.ref (qE 0)) z.2.1 ++ wLB ca qB SB ++ w7 ca qT ST ++ w1 ca qE z.2.2) (z.1) := by
  refine tc_metI (own := RX2) (by decide) rfl ?_ (Nat.le_of_ble_eq_true rfl)
  intro p e s m below meth c A X hP hD hS ls hl
  obtain ⟨hx, hb, hr, hml, hown, hts, hlk, hK, hA, hG⟩ := id X
  unfold fX2_readClaimHeret at hf
  have hl : lv_has ls 3 [(0, .ref (qR 0)), (1, .ref (qE 3))] := hl
  refine lv_aload_n hx hb dX2_readClaimHere_0 rfl (lv_at hl 0 rfl) ?_
  refine lv_aload_n hx hb dX2_readClaimHere_1 rfl (lv_at hl 0 rfl) ?_
  refine va_get (D := (dC, dI)) (ci := 2) (v := .ref (qT 0)) (C := RX2) (T := TX2) (N := 15) hx hb hts i_X2 hown hK hP 0 rfl rfl 11 (by decide) (hts _ wf_X2_17) (fun _ h9 => h9) rfl dX2_readClaimHere_2 ?_
  obtain ⟨z1, hg, hf⟩ := tc_bi hf
  refine tc_iU (As := [.ref (qT 0)]) (rest := []) (b := qR 0) (wc := w2 ca qR (.ref (qB 0)) (.ref (qT 0)) (.ref (qE 0)) SR ++ w7 ca qT ST) (wr := wLB ca qB SB ++ w1 ca qE SE) X hP hD hS (mX4_claimNamedE hg) okX4_claimNamed wl_X2_100 wu_X2_claimNamed rfl wi_X4_claimNamed ws_X2_xclaimNamed_X4_claimNamed ⟨rfl, rfl, Nat.le_of_ble_eq_true rfl, Nat.le_of_ble_eq_true rfl⟩ 2 0 rfl rfl [0, 1, 3, 4, 5, 6, 7, 8, 9, 10, 11, 12, 13] [2, 14, 15, 16, 17, 18, 19] ⟨rfl, rfl, rfl, rfl, by decide⟩ rfl hl.1 (Nat.le_of_ble_eq_true rfl) dX2_readClaimHere_5 (fun H locs hP hD hS => ?_)
  have hP := hP.sub (ws' := (w2 ca qR (.ref (qB 0)) (.ref (qT 0)) (.ref (qE 0)) z1.2 ++ wLB ca qB SB ++ w7 ca qT ST ++ w1 ca qE SE)) [7, 8, 0, 9, 10, 11, 12, 13, 14, 15, 16, 17, 18, 19, 1, 2, 3, 4, 5, 6] rfl
  have hD := hD.sub (ws' := (w2 ca qR (.ref (qB 0)) (.ref (qT 0)) (.ref (qE 0)) z1.2 ++ wLB ca qB SB ++ w7 ca qT ST ++ w1 ca qE SE)) [7, 8, 0, 9, 10, 11, 12, 13, 14, 15, 16, 17, 18, 19, 1, 2, 3, 4, 5, 6] rfl rfl
  refine lv_istore_n (lv' := [(2, .int (z1.1)), (0, .ref (qR 0)), (1, .ref (qE 3))]) hx hb dX2_readClaimHere_8 rfl hl (by decide) rfl (fun ls hl => ?_)
  refine lv_iload_n hx hb dX2_readClaimHere_9 rfl (lv_at hl 0 rfl) ?_
  refine lv_iconst (v := (-1 : Int32)) hx hb dX2_readClaimHere_10 (by decide) ?_
  refine lv_icmp_ne (tgt := 16) hx hb dX2_readClaimHere_11 (by decide) (fun hc => ?_) (fun hc => ?_)
  · have hf := tc_neg hc hf
    refine lv_aload_n hx hb dX2_readClaimHere_16 rfl (lv_at hl 2 rfl) ?_
    refine lv_aload_n hx hb dX2_readClaimHere_17 rfl (lv_at hl 1 rfl) ?_
    refine va_get (D := (dC, dI)) (ci := 2) (v := .ref (qE 0)) (C := RX2) (T := TX2) (N := 15) hx hb hts i_X2 hown hK hP 0 rfl rfl 12 (by decide) (hts _ wf_X2_21) (fun _ h9 => h9) rfl dX2_readClaimHere_18 ?_
    refine va_get (D := (dC, dI)) (ci := 1) (v := .int (gi SE 2)) (C := RX1) (T := TX1) (N := 8) hx hb hts i_X1 hown hK hP 14 rfl rfl 2 (by decide) (hts _ wf_X2_64) (fun _ h9 => h9) rfl dX2_readClaimHere_21 ?_
    refine lv_iload_n hx hb dX2_readClaimHere_24 rfl (lv_at hl 0 rfl) ?_
    obtain ⟨hi2, hf⟩ := tc_in hf
    refine va_iast hx hb hK hP hD hS 17 1 rfl rfl hi2 dX2_readClaimHere_25 (fun H locs hP hD hS => ?_)
    have hP := tc_eP (aw2_B_7_1_3_3 ca qR qB qT qE (.ref (qB 0)) (.ref (qT 0)) (.ref (qE 0)) z1.2 SB ST SE (gi SE 2) z1.1) hP
    have hD := tc_eD (aw2_B_7_1_3_3 ca qR qB qT qE (.ref (qB 0)) (.ref (qT 0)) (.ref (qE 0)) z1.2 SB ST SE (gi SE 2) z1.1) hD
    refine lv_aload_n hx hb dX2_readClaimHere_26 rfl (lv_at hl 1 rfl) ?_
    obtain ⟨z3, hg, hf⟩ := tc_bi hf
    refine tc_vU (As := []) (rest := []) (b := qR 0) (wc := w2 ca qR (.ref (qB 0)) (.ref (qT 0)) (.ref (qE 0)) z1.2 ++ wLB ca qB SB) (wr := w7 ca qT ST ++ w1 ca qE (sa SE 3 (gi SE 2) z1.1)) X hP hD hS (mX4_advanceE hg) okX4_advance wl_X2_70 wu_X2_advance rfl wi_X4_advance ws_X2_xadvance_X4_advance ⟨rfl, rfl, Nat.le_of_ble_eq_true rfl, Nat.le_of_ble_eq_true rfl⟩ 2 0 rfl rfl [0, 1, 2] [3, 4, 5, 6, 7, 8, 9, 10, 11, 12, 13, 14, 15, 16, 17, 18, 19] ⟨rfl, rfl, rfl, rfl, by decide⟩ rfl hl.1 (Nat.le_of_ble_eq_true rfl) dX2_readClaimHere_27 (fun H locs hP hD hS => ?_)
    have hP := hP.sub (ws' := (w2 ca qR (.ref (qB 0)) (.ref (qT 0)) (.ref (qE 0)) z3 ++ wLB ca qB SB ++ w7 ca qT ST ++ w1 ca qE (sa SE 3 (gi SE 2) z1.1))) [17, 18, 19, 0, 1, 2, 3, 4, 5, 6, 7, 8, 9, 10, 11, 12, 13, 14, 15, 16] rfl
    have hD := hD.sub (ws' := (w2 ca qR (.ref (qB 0)) (.ref (qT 0)) (.ref (qE 0)) z3 ++ wLB ca qB SB ++ w7 ca qT ST ++ w1 ca qE (sa SE 3 (gi SE 2) z1.1))) [17, 18, 19, 0, 1, 2, 3, 4, 5, 6, 7, 8, 9, 10, 11, 12, 13, 14, 15, 16] rfl rfl
    refine lv_iconst (v := (1 : Int32)) hx hb dX2_readClaimHere_30 (by decide) ?_
    obtain rfl := Option.some.inj hf
    exact tc_rz X hP hD hS rfl dX2_readClaimHere_31 (by decide) rfl rfl
  · have hf := tc_pos hc hf
    refine lv_iconst (v := (0 : Int32)) hx hb dX2_readClaimHere_14 (by decide) ?_
    obtain rfl := Option.some.inj hf
    exact tc_rz X hP hD hS rfl dX2_readClaimHere_15 (by decide) rfl rfl
def fX4_isNumberHereT_30    (S : ms_T) : Option (Int32 × ms_T) :=
  (fX4_refuseHereT S (4 : Int32)).bind fun z1 =>
  if z1.1 = 0 then
    some ((0 : Int32), z1.2)
  else
    some ((1 : Int32), z1.2)
def fX4_isNumberHereT  (S : ms_T) (a1 : Int32) (a2 : Int32) : Option (Int32 × ms_T) :=
  if (gi S 4) = (2 : Int32) then
    if (gi S 5) < a1 then
      fX4_isNumberHereT_30 S
    else
      if (gi S 5) ≤ a2 then
        some ((1 : Int32), S)
      else
        fX4_isNumberHereT_30 S
  else
    (fX4_refuseHereT S (2 : Int32)).bind fun z2 =>
    if z2.1 &&& 1 = z2.1 then
      some (z2.1, z2.2)
    else none
abbrev rmX4_isNumberHereT : Room := { frames := 1, cells := 0, slots := 0, locals := 21 }
theorem okX4_isNumberHere : tc_ok yX4_isNumberHere cX4_isNumberHere 3 (some .boolean) 2 := ⟨wc_X4_isNumberHere, wn_X4, by decide, by decide, by decide +kernel⟩
set_option maxRecDepth 20000 in
theorem tX4_isNumberHereT_30 {q : Nat → Nat} {rR0 : Value} {rR11 : Value} (X : tc_X dC dI ca A RX4 cX4_isNumberHere 3 (some .boolean) p s m args meth c) (z : Int32 × ms_T)     : ∀ (S : ms_T), fX4_isNumberHereT_30 S = some z → ∀ (H : Heap) (locs : List Loc) (ls : Array Slot), va_P (dC, dI) classes (w8 ca q (rR0) (rR11) S) H → va_D A (w8 ca q (rR0) (rR11) S) → va_S A s.heap H locs → lv_has ls 3 [(0, .ref (q 0))] → W p l e rmX4_isNumberHereT s m args below meth c H locs 0 0 (MQ below (tc_QI dC dI ca A (w8 ca q (rR0) (rR11) z.2) (z.1)) args s 0 0 A) (F0 m 30 ls []) := by
  obtain ⟨hx, hb, hr, hml, hown, hts, hlk, hK, hA, hG⟩ := id X
  intro S hf H locs ls hP hD hS hl
  unfold fX4_isNumberHereT_30 at hf
  refine lv_aload_n hx hb dX4_isNumberHere_30 rfl (lv_at hl 0 rfl) ?_
  refine lv_iconst (v := (4 : Int32)) hx hb dX4_isNumberHere_31 (by decide) ?_
  obtain ⟨z1, hg, hf⟩ := tc_bi hf
  refine tc_iVs (As := [.int ((4 : Int32))]) (rest := []) (b := q 0) X hP hD hS (mX4_refuseHereT hg) okX4_refuseHere wl_X4_78 wi_X4_refuseHere ws_X8_X4_refuseHere_X4_refuseHere ⟨rfl, rfl, Nat.le_of_ble_eq_true rfl, Nat.le_of_ble_eq_true rfl⟩ 8 0 rfl rfl rfl hl.1 (Nat.le_of_ble_eq_true rfl) dX4_isNumberHere_32 (fun H locs hP hD hS => ?_)
  refine lv_if_eq (tgt := 42) hx hb dX4_isNumberHere_35 (by decide) (fun hc => ?_) (fun hc => ?_)
  · have hf := tc_pos hc hf
    refine lv_iconst (v := (0 : Int32)) hx hb dX4_isNumberHere_42 (by decide) ?_
    obtain rfl := Option.some.inj hf
    exact tc_rz X hP hD hS rfl dX4_isNumberHere_43 (by decide) rfl rfl
  · have hf := tc_neg hc hf
    refine lv_iconst (v := (1 : Int32)) hx hb dX4_isNumberHere_38 (by decide) ?_
    refine lv_goto (tgt := 43) hx hb dX4_isNumberHere_39 (by decide) ?_
    obtain rfl := Option.some.inj hf
    exact tc_rz X hP hD hS rfl dX4_isNumberHere_43 (by decide) rfl rfl
set_option maxRecDepth 20000 in
theorem mX4_isNumberHereT {q : Nat → Nat} {rR0 : Value} {rR11 : Value} {S : ms_T} {a1 : Int32} {a2 : Int32} {z : Int32 × ms_T}  (hf : fX4_isNumberHereT S a1 a2 = some z) : tc_MI l dC dI ca yX4_isNumberHere cX4_isNumberHere 3 (some .boolean) rmX4_isNumberHereT [.ref (q 0), .int (a1), .int (a2)] (w8 ca q (rR0) (rR11) S) (w8 ca q (rR0) (rR11) z.2) (z.1) := by
  refine tc_metI (own := RX4) (by decide) rfl ?_ (Nat.le_of_ble_eq_true rfl)
  intro p e s m below meth c A X hP hD hS ls hl
  obtain ⟨hx, hb, hr, hml, hown, hts, hlk, hK, hA, hG⟩ := id X
  unfold fX4_isNumberHereT at hf
  have hl : lv_has ls 3 [(0, .ref (q 0)), (1, .int (a1)), (2, .int (a2))] := hl
  refine lv_aload_n hx hb dX4_isNumberHere_0 rfl (lv_at hl 0 rfl) ?_
  refine va_get (D := (dC, dI)) (ci := 8) (v := .int (gi S 4)) (C := RX8) (T := TX8) (N := 13) hx hb hts i_X8 hown hK hP 0 rfl rfl 4 (by decide) (hts _ wf_X4_55) (fun _ h9 => h9) rfl dX4_isNumberHere_1 ?_
  refine lv_iconst (v := (2 : Int32)) hx hb dX4_isNumberHere_4 (by decide) ?_
  refine lv_icmp_eq (tgt := 14) hx hb dX4_isNumberHere_5 (by decide) (fun hc => ?_) (fun hc => ?_)
  · have hf := tc_pos hc hf
    refine lv_aload_n hx hb dX4_isNumberHere_14 rfl (lv_at hl 0 rfl) ?_
    refine va_get (D := (dC, dI)) (ci := 8) (v := .int (gi S 5)) (C := RX8) (T := TX8) (N := 13) hx hb hts i_X8 hown hK hP 0 rfl rfl 5 (by decide) (hts _ wf_X4_43) (fun _ h9 => h9) rfl dX4_isNumberHere_15 ?_
    refine lv_iload_n hx hb dX4_isNumberHere_18 rfl (lv_at hl 1 rfl) ?_
    refine lv_icmp_lt (tgt := 30) hx hb dX4_isNumberHere_19 (by decide) (fun hc => ?_) (fun hc => ?_)
    · have hf := tc_pos hc hf
      exact tX4_isNumberHereT_30 X z S hf _ _ _ hP hD hS (lv_sub hl [0] rfl)
    · have hf := tc_neg hc hf
      refine lv_aload_n hx hb dX4_isNumberHere_22 rfl (lv_at hl 0 rfl) ?_
      refine va_get (D := (dC, dI)) (ci := 8) (v := .int (gi S 5)) (C := RX8) (T := TX8) (N := 13) hx hb hts i_X8 hown hK hP 0 rfl rfl 5 (by decide) (hts _ wf_X4_43) (fun _ h9 => h9) rfl dX4_isNumberHere_23 ?_
      refine lv_iload_n hx hb dX4_isNumberHere_26 rfl (lv_at hl 2 rfl) ?_
      refine lv_icmp_le (tgt := 38) hx hb dX4_isNumberHere_27 (by decide) (fun hc => ?_) (fun hc => ?_)
      · have hf := tc_pos hc hf
        refine lv_iconst (v := (1 : Int32)) hx hb dX4_isNumberHere_38 (by decide) ?_
        refine lv_goto (tgt := 43) hx hb dX4_isNumberHere_39 (by decide) ?_
        obtain rfl := Option.some.inj hf
        exact tc_rz X hP hD hS rfl dX4_isNumberHere_43 (by decide) rfl rfl
      · have hf := tc_neg hc hf
        exact tX4_isNumberHereT_30 X z S hf _ _ _ hP hD hS (lv_sub hl [0] rfl)
  · have hf := tc_neg hc hf
    refine lv_aload_n hx hb dX4_isNumberHere_8 rfl (lv_at hl 0 rfl) ?_
    refine lv_iconst (v := (2 : Int32)) hx hb dX4_isNumberHere_9 (by decide) ?_
    obtain ⟨z2, hg, hf⟩ := tc_bi hf
    refine tc_iVs (As := [.int ((2 : Int32))]) (rest := []) (b := q 0) X hP hD hS (mX4_refuseHereT hg) okX4_refuseHere wl_X4_78 wi_X4_refuseHere ws_X8_X4_refuseHere_X4_refuseHere ⟨rfl, rfl, Nat.le_of_ble_eq_true rfl, Nat.le_of_ble_eq_true rfl⟩ 8 0 rfl rfl rfl hl.1 (Nat.le_of_ble_eq_true rfl) dX4_isNumberHere_10 (fun H locs hP hD hS => ?_)
    obtain ⟨hz1, hf⟩ := tc_ck hf
    obtain rfl := Option.some.inj hf
    exact tc_rz X hP hD hS rfl dX4_isNumberHere_13 hz1 rfl rfl
end G
