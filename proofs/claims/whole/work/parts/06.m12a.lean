section G
variable {p : Program} {l : Launch} {e : Env} {s : State} {m : MethodId} {args : Array Value} {below : List Frame} {meth : Method} {c : Code} {dC : Nat → ClassId} {dI : Nat → Nat → Nat} {ca : Nat → ClassId} {A : Nat → Prop}
def fJ6_bitCount_0f7a4   (a0 : Int32) : Option (Int32) :=
  some ((((((((a0 - (((a0.toUInt32 >>> ((1 : Int32).toUInt32 &&& Int32.toUInt32 31)).toInt32) &&& (1431655765 : Int32))) &&& (858993459 : Int32)) + ((((a0 - (((a0.toUInt32 >>> ((1 : Int32).toUInt32 &&& Int32.toUInt32 31)).toInt32) &&& (1431655765 : Int32))).toUInt32 >>> ((2 : Int32).toUInt32 &&& Int32.toUInt32 31)).toInt32) &&& (858993459 : Int32))) + (((((a0 - (((a0.toUInt32 >>> ((1 : Int32).toUInt32 &&& Int32.toUInt32 31)).toInt32) &&& (1431655765 : Int32))) &&& (858993459 : Int32)) + ((((a0 - (((a0.toUInt32 >>> ((1 : Int32).toUInt32 &&& Int32.toUInt32 31)).toInt32) &&& (1431655765 : Int32))).toUInt32 >>> ((2 : Int32).toUInt32 &&& Int32.toUInt32 31)).toInt32) &&& (858993459 : Int32))).toUInt32 >>> ((4 : Int32).toUInt32 &&& Int32.toUInt32 31)).toInt32)) &&& (252645135 : Int32)) + (((((((a0 - (((a0.toUInt32 >>> ((1 : Int32).toUInt32 &&& Int32.toUInt32 31)).toInt32) &&& (1431655765 : Int32))) &&& (858993459 : Int32)) + ((((a0 - (((a0.toUInt32 >>> ((1 : Int32).toUInt32 &&& Int32.toUInt32 31)).toInt32) &&& (1431655765 : Int32))).toUInt32 >>> ((2 : Int32).toUInt32 &&& Int32.toUInt32 31)).toInt32) &&& (858993459 : Int32))) + (((((a0 - (((a0.toUInt32 >>> ((1 : Int32).toUInt32 &&& Int32.toUInt32 31)).toInt32) &&& (1431655765 : Int32))) &&& (858993459 : Int32)) + ((((a0 - (((a0.toUInt32 >>> ((1 : Int32).toUInt32 &&& Int32.toUInt32 31)).toInt32) &&& (1431655765 : Int32))).toUInt32 >>> ((2 : Int32).toUInt32 &&& Int32.toUInt32 31)).toInt32) &&& (858993459 : Int32))).toUInt32 >>> ((4 : Int32).toUInt32 &&& Int32.toUInt32 31)).toInt32)) &&& (252645135 : Int32)).toUInt32 >>> ((8 : Int32).toUInt32 &&& Int32.toUInt32 31)).toInt32)) + ((((((((a0 - (((a0.toUInt32 >>> ((1 : Int32).toUInt32 &&& Int32.toUInt32 31)).toInt32) &&& (1431655765 : Int32))) &&& (858993459 : Int32)) + ((((a0 - (((a0.toUInt32 >>> ((1 : Int32).toUInt32 &&& Int32.toUInt32 31)).toInt32) &&& (1431655765 : Int32))).toUInt32 >>> ((2 : Int32).toUInt32 &&& Int32.toUInt32 31)).toInt32) &&& (858993459 : Int32))) + (((((a0 - (((a0.toUInt32 >>> ((1 : Int32).toUInt32 &&& Int32.toUInt32 31)).toInt32) &&& (1431655765 : Int32))) &&& (858993459 : Int32)) + ((((a0 - (((a0.toUInt32 >>> ((1 : Int32).toUInt32 &&& Int32.toUInt32 31)).toInt32) &&& (1431655765 : Int32))).toUInt32 >>> ((2 : Int32).toUInt32 &&& Int32.toUInt32 31)).toInt32) &&& (858993459 : Int32))).toUInt32 >>> ((4 : Int32).toUInt32 &&& Int32.toUInt32 31)).toInt32)) &&& (252645135 : Int32)) + (((((((a0 - (((a0.toUInt32 >>> ((1 : Int32).toUInt32 &&& Int32.toUInt32 31)).toInt32) &&& (1431655765 : Int32))) &&& (858993459 : Int32)) + ((((a0 - (((a0.toUInt32 >>> ((1 : Int32).toUInt32 &&& Int32.toUInt32 31)).toInt32) &&& (1431655765 : Int32))).toUInt32 >>> ((2 : Int32).toUInt32 &&& Int32.toUInt32 31)).toInt32) &&& (858993459 : Int32))) + (((((a0 - (((a0.toUInt32 >>> ((1 : Int32).toUInt32 &&& Int32.toUInt32 31)).toInt32) &&& (1431655765 : Int32))) &&& (858993459 : Int32)) + ((((a0 - (((a0.toUInt32 >>> ((1 : Int32).toUInt32 &&& Int32.toUInt32 31)).toInt32) &&& (1431655765 : Int32))).toUInt32 >>> ((2 : Int32).toUInt32 &&& Int32.toUInt32 31)).toInt32) &&& (858993459 : Int32))).toUInt32 >>> ((4 : Int32).toUInt32 &&& Int32.toUInt32 31)).toInt32)) &&& (252645135 : Int32)).toUInt32 >>> ((8 : Int32).toUInt32 &&& Int32.toUInt32 31)).toInt32)).toUInt32 >>> ((16 : Int32).toUInt32 &&& Int32.toUInt32 31)).toInt32)) &&& (63 : Int32))
abbrev rmJ6_bitCount_0f7a4 : Room := { frames := 0, cells := 0, slots := 0, locals := 0 }
theorem okJ6_bitCount_0f7a4 : tc_ok yJ6_bitCount_0f7a4 cJ6_bitCount_0f7a4 1 (some .int) 1 := ⟨wc_J6_bitCount_0f7a4, wn_J6, by decide, by decide, by decide +kernel⟩
set_option maxRecDepth 20000 in
theorem mJ6_bitCount_0f7a4    {a0 : Int32} {z : Int32}  (hf : fJ6_bitCount_0f7a4 a0 = some z) : tc_MI l dC dI ca yJ6_bitCount_0f7a4 cJ6_bitCount_0f7a4 1 (some .int) rmJ6_bitCount_0f7a4 [.int (a0)] [] [] (z) := by
  refine tc_metI (own := RJ6) (by decide) rfl ?_ (Nat.le_of_ble_eq_true rfl)
  intro p e s m below meth c A X hP hD hS ls hl
  obtain ⟨hx, hb, hr, hml, hown, hts, hlk, hK, hA, hG⟩ := id X
  unfold fJ6_bitCount_0f7a4 at hf
  have hl : lv_has ls 1 [(0, .int (a0))] := hl
  refine lv_iload_n hx hb dJ6_bitCount_0f7a4_0 rfl (lv_at hl 0 rfl) ?_
  refine lv_iload_n hx hb dJ6_bitCount_0f7a4_1 rfl (lv_at hl 0 rfl) ?_
  refine lv_iconst (v := (1 : Int32)) hx hb dJ6_bitCount_0f7a4_2 (by decide) ?_
  refine lv_iushr (v := (a0.toUInt32 >>> ((1 : Int32).toUInt32 &&& Int32.toUInt32 31)).toInt32) hx hb dJ6_bitCount_0f7a4_3 rfl ?_
  refine lv_ldcw (v := (1431655765 : Int32)) hx hb hown (hts _ wk_J6_265) dJ6_bitCount_0f7a4_4 ?_
  refine lv_iand hx hb dJ6_bitCount_0f7a4_7 ?_
  refine lv_isub hx hb dJ6_bitCount_0f7a4_8 ?_
  refine lv_istore_n (lv' := [(0, .int (a0 - (((a0.toUInt32 >>> ((1 : Int32).toUInt32 &&& Int32.toUInt32 31)).toInt32) &&& (1431655765 : Int32))))]) hx hb dJ6_bitCount_0f7a4_9 rfl hl (by decide) rfl (fun ls hl => ?_)
  refine lv_iload_n hx hb dJ6_bitCount_0f7a4_10 rfl (lv_at hl 0 rfl) ?_
  refine lv_ldcw (v := (858993459 : Int32)) hx hb hown (hts _ wk_J6_266) dJ6_bitCount_0f7a4_11 ?_
  refine lv_iand hx hb dJ6_bitCount_0f7a4_14 ?_
  refine lv_iload_n hx hb dJ6_bitCount_0f7a4_15 rfl (lv_at hl 0 rfl) ?_
  refine lv_iconst (v := (2 : Int32)) hx hb dJ6_bitCount_0f7a4_16 (by decide) ?_
  refine lv_iushr (v := ((a0 - (((a0.toUInt32 >>> ((1 : Int32).toUInt32 &&& Int32.toUInt32 31)).toInt32) &&& (1431655765 : Int32))).toUInt32 >>> ((2 : Int32).toUInt32 &&& Int32.toUInt32 31)).toInt32) hx hb dJ6_bitCount_0f7a4_17 rfl ?_
  refine lv_ldcw (v := (858993459 : Int32)) hx hb hown (hts _ wk_J6_266) dJ6_bitCount_0f7a4_18 ?_
  refine lv_iand hx hb dJ6_bitCount_0f7a4_21 ?_
  refine lv_iadd hx hb dJ6_bitCount_0f7a4_22 ?_
  refine lv_istore_n (lv' := [(0, .int (((a0 - (((a0.toUInt32 >>> ((1 : Int32).toUInt32 &&& Int32.toUInt32 31)).toInt32) &&& (1431655765 : Int32))) &&& (858993459 : Int32)) + ((((a0 - (((a0.toUInt32 >>> ((1 : Int32).toUInt32 &&& Int32.toUInt32 31)).toInt32) &&& (1431655765 : Int32))).toUInt32 >>> ((2 : Int32).toUInt32 &&& Int32.toUInt32 31)).toInt32) &&& (858993459 : Int32))))]) hx hb dJ6_bitCount_0f7a4_23 rfl hl (by decide) rfl (fun ls hl => ?_)
  refine lv_iload_n hx hb dJ6_bitCount_0f7a4_24 rfl (lv_at hl 0 rfl) ?_
  refine lv_iload_n hx hb dJ6_bitCount_0f7a4_25 rfl (lv_at hl 0 rfl) ?_
  refine lv_iconst (v := (4 : Int32)) hx hb dJ6_bitCount_0f7a4_26 (by decide) ?_
  refine lv_iushr (v := ((((a0 - (((a0.toUInt32 >>> ((1 : Int32).toUInt32 &&& Int32.toUInt32 31)).toInt32) &&& (1431655765 : Int32))) &&& (858993459 : Int32)) + ((((a0 - (((a0.toUInt32 >>> ((1 : Int32).toUInt32 &&& Int32.toUInt32 31)).toInt32) &&& (1431655765 : Int32))).toUInt32 >>> ((2 : Int32).toUInt32 &&& Int32.toUInt32 31)).toInt32) &&& (858993459 : Int32))).toUInt32 >>> ((4 : Int32).toUInt32 &&& Int32.toUInt32 31)).toInt32) hx hb dJ6_bitCount_0f7a4_27 rfl ?_
  refine lv_iadd hx hb dJ6_bitCount_0f7a4_28 ?_
  refine lv_ldcw (v := (252645135 : Int32)) hx hb hown (hts _ wk_J6_267) dJ6_bitCount_0f7a4_29 ?_
  refine lv_iand hx hb dJ6_bitCount_0f7a4_32 ?_
  refine lv_istore_n (lv' := [(0, .int (((((a0 - (((a0.toUInt32 >>> ((1 : Int32).toUInt32 &&& Int32.toUInt32 31)).toInt32) &&& (1431655765 : Int32))) &&& (858993459 : Int32)) + ((((a0 - (((a0.toUInt32 >>> ((1 : Int32).toUInt32 &&& Int32.toUInt32 31)).toInt32) &&& (1431655765 : Int32))).toUInt32 >>> ((2 : Int32).toUInt32 &&& Int32.toUInt32 31)).toInt32) &&& (858993459 : Int32))) + (((((a0 - (((a0.toUInt32 >>> ((1 : Int32).toUInt32 &&& Int32.toUInt32 31)).toInt32) &&& (1431655765 : Int32))) &&& (858993459 : Int32)) + ((((a0 - (((a0.toUInt32 >>> ((1 : Int32).toUInt32 &&& Int32.toUInt32 31)).toInt32) &&& (1431655765 : Int32))).toUInt32 >>> ((2 : Int32).toUInt32 &&& Int32.toUInt32 31)).toInt32) &&& (858993459 : Int32))).toUInt32 >>> ((4 : Int32).toUInt32 &&& Int32.toUInt32 31)).toInt32)) &&& (252645135 : Int32)))]) hx hb dJ6_bitCount_0f7a4_33 rfl hl (by decide) rfl (fun ls hl => ?_)
  refine lv_iload_n hx hb dJ6_bitCount_0f7a4_34 rfl (lv_at hl 0 rfl) ?_
  refine lv_iload_n hx hb dJ6_bitCount_0f7a4_35 rfl (lv_at hl 0 rfl) ?_
  refine lv_bipush (v := (8 : Int32)) hx hb dJ6_bitCount_0f7a4_36 (by decide) ?_
  refine lv_iushr (v := ((((((a0 - (((a0.toUInt32 >>> ((1 : Int32).toUInt32 &&& Int32.toUInt32 31)).toInt32) &&& (1431655765 : Int32))) &&& (858993459 : Int32)) + ((((a0 - (((a0.toUInt32 >>> ((1 : Int32).toUInt32 &&& Int32.toUInt32 31)).toInt32) &&& (1431655765 : Int32))).toUInt32 >>> ((2 : Int32).toUInt32 &&& Int32.toUInt32 31)).toInt32) &&& (858993459 : Int32))) + (((((a0 - (((a0.toUInt32 >>> ((1 : Int32).toUInt32 &&& Int32.toUInt32 31)).toInt32) &&& (1431655765 : Int32))) &&& (858993459 : Int32)) + ((((a0 - (((a0.toUInt32 >>> ((1 : Int32).toUInt32 &&& Int32.toUInt32 31)).toInt32) &&& (1431655765 : Int32))).toUInt32 >>> ((2 : Int32).toUInt32 &&& Int32.toUInt32 31)).toInt32) &&& (858993459 : Int32))).toUInt32 >>> ((4 : Int32).toUInt32 &&& Int32.toUInt32 31)).toInt32)) &&& (252645135 : Int32)).toUInt32 >>> ((8 : Int32).toUInt32 &&& Int32.toUInt32 31)).toInt32) hx hb dJ6_bitCount_0f7a4_38 rfl ?_
  refine lv_iadd hx hb dJ6_bitCount_0f7a4_39 ?_
  refine lv_istore_n (lv' := [(0, .int ((((((a0 - (((a0.toUInt32 >>> ((1 : Int32).toUInt32 &&& Int32.toUInt32 31)).toInt32) &&& (1431655765 : Int32))) &&& (858993459 : Int32)) + ((((a0 - (((a0.toUInt32 >>> ((1 : Int32).toUInt32 &&& Int32.toUInt32 31)).toInt32) &&& (1431655765 : Int32))).toUInt32 >>> ((2 : Int32).toUInt32 &&& Int32.toUInt32 31)).toInt32) &&& (858993459 : Int32))) + (((((a0 - (((a0.toUInt32 >>> ((1 : Int32).toUInt32 &&& Int32.toUInt32 31)).toInt32) &&& (1431655765 : Int32))) &&& (858993459 : Int32)) + ((((a0 - (((a0.toUInt32 >>> ((1 : Int32).toUInt32 &&& Int32.toUInt32 31)).toInt32) &&& (1431655765 : Int32))).toUInt32 >>> ((2 : Int32).toUInt32 &&& Int32.toUInt32 31)).toInt32) &&& (858993459 : Int32))).toUInt32 >>> ((4 : Int32).toUInt32 &&& Int32.toUInt32 31)).toInt32)) &&& (252645135 : Int32)) + (((((((a0 - (((a0.toUInt32 >>> ((1 : Int32).toUInt32 &&& Int32.toUInt32 31)).toInt32) &&& (1431655765 : Int32))) &&& (858993459 : Int32)) + ((((a0 - (((a0.toUInt32 >>> ((1 : Int32).toUInt32 &&& Int32.toUInt32 31)).toInt32) &&& (1431655765 : Int32))).toUInt32 >>> ((2 : Int32).toUInt32 &&& Int32.toUInt32 31)).toInt32) &&& (858993459 : Int32))) + (((((a0 - (((a0.toUInt32 >>> ((1 : Int32).toUInt32 &&& Int32.toUInt32 31)).toInt32) &&& (1431655765 : Int32))) &&& (858993459 : Int32)) + ((((a0 - (((a0.toUInt32 >>> ((1 : Int32).toUInt32 &&& Int32.toUInt32 31)).toInt32) &&& (1431655765 : Int32))).toUInt32 >>> ((2 : Int32).toUInt32 &&& Int32.toUInt32 31)).toInt32) &&& (858993459 : Int32))).toUInt32 >>> ((4 : Int32).toUInt32 &&& Int32.toUInt32 31)).toInt32)) &&& (252645135 : Int32)).toUInt32 >>> ((8 : Int32).toUInt32 &&& Int32.toUInt32 31)).toInt32)))]) hx hb dJ6_bitCount_0f7a4_40 rfl hl (by decide) rfl (fun ls hl => ?_)
  refine lv_iload_n hx hb dJ6_bitCount_0f7a4_41 rfl (lv_at hl 0 rfl) ?_
  refine lv_iload_n hx hb dJ6_bitCount_0f7a4_42 rfl (lv_at hl 0 rfl) ?_
  refine lv_bipush (v := (16 : Int32)) hx hb dJ6_bitCount_0f7a4_43 (by decide) ?_
  refine lv_iushr (v := (((((((a0 - (((a0.toUInt32 >>> ((1 : Int32).toUInt32 &&& Int32.toUInt32 31)).toInt32) &&& (1431655765 : Int32))) &&& (858993459 : Int32)) + ((((a0 - (((a0.toUInt32 >>> ((1 : Int32).toUInt32 &&& Int32.toUInt32 31)).toInt32) &&& (1431655765 : Int32))).toUInt32 >>> ((2 : Int32).toUInt32 &&& Int32.toUInt32 31)).toInt32) &&& (858993459 : Int32))) + (((((a0 - (((a0.toUInt32 >>> ((1 : Int32).toUInt32 &&& Int32.toUInt32 31)).toInt32) &&& (1431655765 : Int32))) &&& (858993459 : Int32)) + ((((a0 - (((a0.toUInt32 >>> ((1 : Int32).toUInt32 &&& Int32.toUInt32 31)).toInt32) &&& (1431655765 : Int32))).toUInt32 >>> ((2 : Int32).toUInt32 &&& Int32.toUInt32 31)).toInt32) &&& (858993459 : Int32))).toUInt32 >>> ((4 : Int32).toUInt32 &&& Int32.toUInt32 31)).toInt32)) &&& (252645135 : Int32)) + (((((((a0 - (((a0.toUInt32 >>> ((1 : Int32).toUInt32 &&& Int32.toUInt32 31)).toInt32) &&& (1431655765 : Int32))) &&& (858993459 : Int32)) + ((((a0 - (((a0.toUInt32 >>> ((1 : Int32).toUInt32 &&& Int32.toUInt32 31)).toInt32) &&& (1431655765 : Int32))).toUInt32 >>> ((2 : Int32).toUInt32 &&& Int32.toUInt32 31)).toInt32) &&& (858993459 : Int32))) + (((((a0 - (((a0.toUInt32 >>> ((1 : Int32).toUInt32 &&& Int32.toUInt32 31)).toInt32) &&& (1431655765 : Int32))) &&& (858993459 : Int32)) + ((((a0 - (((a0.toUInt32 >>> ((1 : Int32).toUInt32 &&& Int32.toUInt32 31)).toInt32) &&& (1431655765 : Int32))).toUInt32 >>> ((2 : Int32).toUInt32 &&& Int32.toUInt32 31)).toInt32) &&& (858993459 : Int32))).toUInt32 >>> ((4 : Int32).toUInt32 &&& Int32.toUInt32 31)).toInt32)) &&& (252645135 : Int32)).toUInt32 >>> ((8 : Int32).toUInt32 &&& Int32.toUInt32 31)).toInt32)).toUInt32 >>> ((16 : Int32).toUInt32 &&& Int32.toUInt32 31)).toInt32) hx hb dJ6_bitCount_0f7a4_45 rfl ?_
  refine lv_iadd hx hb dJ6_bitCount_0f7a4_46 ?_
  refine lv_istore_n (lv' := [(0, .int (((((((a0 - (((a0.toUInt32 >>> ((1 : Int32).toUInt32 &&& Int32.toUInt32 31)).toInt32) &&& (1431655765 : Int32))) &&& (858993459 : Int32)) + ((((a0 - (((a0.toUInt32 >>> ((1 : Int32).toUInt32 &&& Int32.toUInt32 31)).toInt32) &&& (1431655765 : Int32))).toUInt32 >>> ((2 : Int32).toUInt32 &&& Int32.toUInt32 31)).toInt32) &&& (858993459 : Int32))) + (((((a0 - (((a0.toUInt32 >>> ((1 : Int32).toUInt32 &&& Int32.toUInt32 31)).toInt32) &&& (1431655765 : Int32))) &&& (858993459 : Int32)) + ((((a0 - (((a0.toUInt32 >>> ((1 : Int32).toUInt32 &&& Int32.toUInt32 31)).toInt32) &&& (1431655765 : Int32))).toUInt32 >>> ((2 : Int32).toUInt32 &&& Int32.toUInt32 31)).toInt32) &&& (858993459 : Int32))).toUInt32 >>> ((4 : Int32).toUInt32 &&& Int32.toUInt32 31)).toInt32)) &&& (252645135 : Int32)) + (((((((a0 - (((a0.toUInt32 >>> ((1 : Int32).toUInt32 &&& Int32.toUInt32 31)).toInt32) &&& (1431655765 : Int32))) &&& (858993459 : Int32)) + ((((a0 - (((a0.toUInt32 >>> ((1 : Int32).toUInt32 &&& Int32.toUInt32 31)).toInt32) &&& (1431655765 : Int32))).toUInt32 >>> ((2 : Int32).toUInt32 &&& Int32.toUInt32 31)).toInt32) &&& (858993459 : Int32))) + (((((a0 - (((a0.toUInt32 >>> ((1 : Int32).toUInt32 &&& Int32.toUInt32 31)).toInt32) &&& (1431655765 : Int32))) &&& (858993459 : Int32)) + ((((a0 - (((a0.toUInt32 >>> ((1 : Int32).toUInt32 &&& Int32.toUInt32 31)).toInt32) &&& (1431655765 : Int32))).toUInt32 >>> ((2 : Int32).toUInt32 &&& Int32.toUInt32 31)).toInt32) &&& (858993459 : Int32))).toUInt32 >>> ((4 : Int32).toUInt32 &&& Int32.toUInt32 31)).toInt32)) &&& (252645135 : Int32)).toUInt32 >>> ((8 : Int32).toUInt32 &&& Int32.toUInt32 31)).toInt32)) + ((((((((a0 - (((a0.toUInt32 >>> ((1 : Int32).toUInt32 &&& Int32.toUInt32 31)).toInt32) &&& (1431655765 : Int32))) &&& (858993459 : Int32)) + ((((a0 - (((a0.toUInt32 >>> ((1 : Int32).toUInt32 &&& Int32.toUInt32 31)).toInt32) &&& (1431655765 : Int32))).toUInt32 >>> ((2 : Int32).toUInt32 &&& Int32.toUInt32 31)).toInt32) &&& (858993459 : Int32))) + (((((a0 - (((a0.toUInt32 >>> ((1 : Int32).toUInt32 &&& Int32.toUInt32 31)).toInt32) &&& (1431655765 : Int32))) &&& (858993459 : Int32)) + ((((a0 - (((a0.toUInt32 >>> ((1 : Int32).toUInt32 &&& Int32.toUInt32 31)).toInt32) &&& (1431655765 : Int32))).toUInt32 >>> ((2 : Int32).toUInt32 &&& Int32.toUInt32 31)).toInt32) &&& (858993459 : Int32))).toUInt32 >>> ((4 : Int32).toUInt32 &&& Int32.toUInt32 31)).toInt32)) &&& (252645135 : Int32)) + (((((((a0 - (((a0.toUInt32 >>> ((1 : Int32).toUInt32 &&& Int32.toUInt32 31)).toInt32) &&& (1431655765 : Int32))) &&& (858993459 : Int32)) + ((((a0 - (((a0.toUInt32 >>> ((1 : Int32).toUInt32 &&& Int32.toUInt32 31)).toInt32) &&& (1431655765 : Int32))).toUInt32 >>> ((2 : Int32).toUInt32 &&& Int32.toUInt32 31)).toInt32) &&& (858993459 : Int32))) + (((((a0 - (((a0.toUInt32 >>> ((1 : Int32).toUInt32 &&& Int32.toUInt32 31)).toInt32) &&& (1431655765 : Int32))) &&& (858993459 : Int32)) + ((((a0 - (((a0.toUInt32 >>> ((1 : Int32).toUInt32 &&& Int32.toUInt32 31)).toInt32) &&& (1431655765 : Int32))).toUInt32 >>> ((2 : Int32).toUInt32 &&& Int32.toUInt32 31)).toInt32) &&& (858993459 : Int32))).toUInt32 >>> ((4 : Int32).toUInt32 &&& Int32.toUInt32 31)).toInt32)) &&& (252645135 : Int32)).toUInt32 >>> ((8 : Int32).toUInt32 &&& Int32.toUInt32 31)).toInt32)).toUInt32 >>> ((16 : Int32).toUInt32 &&& Int32.toUInt32 31)).toInt32)))]) hx hb dJ6_bitCount_0f7a4_47 rfl hl (by decide) rfl (fun ls hl => ?_)
  refine lv_iload_n hx hb dJ6_bitCount_0f7a4_48 rfl (lv_at hl 0 rfl) ?_
  refine lv_bipush (v := (63 : Int32)) hx hb dJ6_bitCount_0f7a4_49 (by decide) ?_
  refine lv_iand hx hb dJ6_bitCount_0f7a4_51 ?_
  obtain rfl := Option.some.inj hf
  exact tc_ri X hP hD hS rfl dJ6_bitCount_0f7a4_52 rfl rfl
def fX12_status  (S : ms_T)  : Option (Int32 × ms_T) :=
  some (gi (si S 1 (0 : Int32)) 0, si S 1 (0 : Int32))
abbrev rmX12_status : Room := { frames := 0, cells := 0, slots := 0, locals := 0 }
theorem okX12_status : tc_ok yX12_status cX12_status 1 (some .int) 0 := ⟨wc_X12_status, wn_X12, by decide, by decide, by decide +kernel⟩
set_option maxRecDepth 20000 in
theorem mX12_status {q : Nat → Nat}  {S : ms_T}  {z : Int32 × ms_T}  (hf : fX12_status S = some z) : tc_MI l dC dI ca yX12_status cX12_status 1 (some .int) rmX12_status [.ref (q 0)] (w12 ca q S) (w12 ca q z.2) (z.1) := by
  refine tc_metI (own := RX12) (by decide) rfl ?_ (Nat.le_of_ble_eq_true rfl)
  intro p e s m below meth c A X hP hD hS ls hl
  obtain ⟨hx, hb, hr, hml, hown, hts, hlk, hK, hA, hG⟩ := id X
  unfold fX12_status at hf
  have hl : lv_has ls 1 [(0, .ref (q 0))] := hl
  refine lv_aload_n hx hb dX12_status_0 rfl (lv_at hl 0 rfl) ?_
  refine lv_iconst (v := (0 : Int32)) hx hb dX12_status_1 (by decide) ?_
  refine va_put (D := (dC, dI)) (ci := 12) (v := .int ((0 : Int32))) (ty := .int) (C := RX12) (T := TX12) (N := 49) hx hb hts i_X12 tyX12 tyX12_ok nmX12 hown hK hP hD hS 0 rfl rfl 1 (by decide) (hts _ wf_X12_63) (fun _ h9 => h9) rfl (tyX12_ok 1 (by decide)) rfl rfl (Nat.le_of_ble_eq_true rfl) dX12_status_2 (fun H locs hP hD hS => ?_)
  have hP := tc_eP (pw12_0_1 ca q S (0 : Int32)) hP
  have hD := tc_eD (pw12_0_1 ca q S (0 : Int32)) hD
  refine lv_aload_n hx hb dX12_status_5 rfl (lv_at hl 0 rfl) ?_
  refine va_get (D := (dC, dI)) (ci := 12) (v := .int (gi (si S 1 (0 : Int32)) 0)) (C := RX12) (T := TX12) (N := 49) hx hb hts i_X12 hown hK hP 0 rfl rfl 0 (by decide) (hts _ wf_X12_66) (fun _ h9 => h9) rfl dX12_status_6 ?_
  obtain rfl := Option.some.inj hf
  exact tc_ri X hP hD hS rfl dX12_status_9 rfl rfl
def fX12_top  (S : ms_T)  : Option (Int64 × ms_T) :=
  some (gl (si S 1 (0 : Int32)) 2, si S 1 (0 : Int32))
abbrev rmX12_top : Room := { frames := 0, cells := 0, slots := 0, locals := 0 }
theorem okX12_top : tc_ok yX12_top cX12_top 1 (some .long) 0 := ⟨wc_X12_top, wn_X12, by decide, by decide, by decide +kernel⟩
set_option maxRecDepth 20000 in
theorem mX12_top {q : Nat → Nat}  {S : ms_T}  {z : Int64 × ms_T}  (hf : fX12_top S = some z) : tc_ML l dC dI ca yX12_top cX12_top 1 (some .long) rmX12_top [.ref (q 0)] (w12 ca q S) (w12 ca q z.2) (z.1) := by
  refine tc_metL (own := RX12) (by decide) rfl ?_ (Nat.le_of_ble_eq_true rfl)
  intro p e s m below meth c A X hP hD hS ls hl
  obtain ⟨hx, hb, hr, hml, hown, hts, hlk, hK, hA, hG⟩ := id X
  unfold fX12_top at hf
  have hl : lv_has ls 1 [(0, .ref (q 0))] := hl
  refine lv_aload_n hx hb dX12_top_0 rfl (lv_at hl 0 rfl) ?_
  refine lv_iconst (v := (0 : Int32)) hx hb dX12_top_1 (by decide) ?_
  refine va_put (D := (dC, dI)) (ci := 12) (v := .int ((0 : Int32))) (ty := .int) (C := RX12) (T := TX12) (N := 49) hx hb hts i_X12 tyX12 tyX12_ok nmX12 hown hK hP hD hS 0 rfl rfl 1 (by decide) (hts _ wf_X12_63) (fun _ h9 => h9) rfl (tyX12_ok 1 (by decide)) rfl rfl (Nat.le_of_ble_eq_true rfl) dX12_top_2 (fun H locs hP hD hS => ?_)
  have hP := tc_eP (pw12_0_1 ca q S (0 : Int32)) hP
  have hD := tc_eD (pw12_0_1 ca q S (0 : Int32)) hD
  refine lv_aload_n hx hb dX12_top_5 rfl (lv_at hl 0 rfl) ?_
  refine va_get (D := (dC, dI)) (ci := 12) (v := .long (gl (si S 1 (0 : Int32)) 2)) (C := RX12) (T := TX12) (N := 49) hx hb hts i_X12 hown hK hP 0 rfl rfl 2 (by decide) (hts _ wf_X12_69) (fun _ h9 => h9) rfl dX12_top_6 ?_
  obtain rfl := Option.some.inj hf
  exact tc_rl X hP hD hS rfl dX12_top_9 rfl rfl
def fX12_bottom  (S : ms_T)  : Option (Int64 × ms_T) :=
  some (gl (si S 1 (0 : Int32)) 3, si S 1 (0 : Int32))
abbrev rmX12_bottom : Room := { frames := 0, cells := 0, slots := 0, locals := 0 }
theorem okX12_bottom : tc_ok yX12_bottom cX12_bottom 1 (some .long) 0 := ⟨wc_X12_bottom, wn_X12, by decide, by decide, by decide +kernel⟩
set_option maxRecDepth 20000 in
theorem mX12_bottom {q : Nat → Nat}  {S : ms_T}  {z : Int64 × ms_T}  (hf : fX12_bottom S = some z) : tc_ML l dC dI ca yX12_bottom cX12_bottom 1 (some .long) rmX12_bottom [.ref (q 0)] (w12 ca q S) (w12 ca q z.2) (z.1) := by
  refine tc_metL (own := RX12) (by decide) rfl ?_ (Nat.le_of_ble_eq_true rfl)
  intro p e s m below meth c A X hP hD hS ls hl
  obtain ⟨hx, hb, hr, hml, hown, hts, hlk, hK, hA, hG⟩ := id X
  unfold fX12_bottom at hf
  have hl : lv_has ls 1 [(0, .ref (q 0))] := hl
  refine lv_aload_n hx hb dX12_bottom_0 rfl (lv_at hl 0 rfl) ?_
  refine lv_iconst (v := (0 : Int32)) hx hb dX12_bottom_1 (by decide) ?_
  refine va_put (D := (dC, dI)) (ci := 12) (v := .int ((0 : Int32))) (ty := .int) (C := RX12) (T := TX12) (N := 49) hx hb hts i_X12 tyX12 tyX12_ok nmX12 hown hK hP hD hS 0 rfl rfl 1 (by decide) (hts _ wf_X12_63) (fun _ h9 => h9) rfl (tyX12_ok 1 (by decide)) rfl rfl (Nat.le_of_ble_eq_true rfl) dX12_bottom_2 (fun H locs hP hD hS => ?_)
  have hP := tc_eP (pw12_0_1 ca q S (0 : Int32)) hP
  have hD := tc_eD (pw12_0_1 ca q S (0 : Int32)) hD
  refine lv_aload_n hx hb dX12_bottom_5 rfl (lv_at hl 0 rfl) ?_
  refine va_get (D := (dC, dI)) (ci := 12) (v := .long (gl (si S 1 (0 : Int32)) 3)) (C := RX12) (T := TX12) (N := 49) hx hb hts i_X12 hown hK hP 0 rfl rfl 3 (by decide) (hts _ wf_X12_7) (fun _ h9 => h9) rfl dX12_bottom_6 ?_
  obtain rfl := Option.some.inj hf
  exact tc_rl X hP hD hS rfl dX12_bottom_9 rfl rfl
def fX12_refuse  (S : ms_T) (a1 : Int32) : Option (Int32 × ms_T) :=
  some ((-1 : Int32), si S 0 a1)
abbrev rmX12_refuse : Room := { frames := 0, cells := 0, slots := 0, locals := 0 }
theorem okX12_refuse : tc_ok yX12_refuse cX12_refuse 2 (some .int) 1 := ⟨wc_X12_refuse, wn_X12, by decide, by decide, by decide +kernel⟩
set_option maxRecDepth 20000 in
theorem mX12_refuse {q : Nat → Nat}  {S : ms_T} {a1 : Int32} {z : Int32 × ms_T}  (hf : fX12_refuse S a1 = some z) : tc_MI l dC dI ca yX12_refuse cX12_refuse 2 (some .int) rmX12_refuse [.ref (q 0), .int (a1)] (w12 ca q S) (w12 ca q z.2) (z.1) := by
  refine tc_metI (own := RX12) (by decide) rfl ?_ (Nat.le_of_ble_eq_true rfl)
  intro p e s m below meth c A X hP hD hS ls hl
  obtain ⟨hx, hb, hr, hml, hown, hts, hlk, hK, hA, hG⟩ := id X
  unfold fX12_refuse at hf
  have hl : lv_has ls 2 [(0, .ref (q 0)), (1, .int (a1))] := hl
  refine lv_aload_n hx hb dX12_refuse_0 rfl (lv_at hl 0 rfl) ?_
  refine lv_iload_n hx hb dX12_refuse_1 rfl (lv_at hl 1 rfl) ?_
  refine va_put (D := (dC, dI)) (ci := 12) (v := .int (a1)) (ty := .int) (C := RX12) (T := TX12) (N := 49) hx hb hts i_X12 tyX12 tyX12_ok nmX12 hown hK hP hD hS 0 rfl rfl 0 (by decide) (hts _ wf_X12_66) (fun _ h9 => h9) rfl (tyX12_ok 0 (by decide)) rfl rfl (Nat.le_of_ble_eq_true rfl) dX12_refuse_2 (fun H locs hP hD hS => ?_)
  have hP := tc_eP (pw12_0_0 ca q S a1) hP
  have hD := tc_eD (pw12_0_0 ca q S a1) hD
  refine lv_iconst (v := (-1 : Int32)) hx hb dX12_refuse_5 (by decide) ?_
  obtain rfl := Option.some.inj hf
  exact tc_ri X hP hD hS rfl dX12_refuse_6 rfl rfl
def fX12_no  (S : ms_T) (a1 : Int32) : Option (Int32 × ms_T) :=
  some ((0 : Int32), si S 0 a1)
abbrev rmX12_no : Room := { frames := 0, cells := 0, slots := 0, locals := 0 }
theorem okX12_no : tc_ok yX12_no cX12_no 2 (some .boolean) 1 := ⟨wc_X12_no, wn_X12, by decide, by decide, by decide +kernel⟩
set_option maxRecDepth 20000 in
theorem mX12_no {q : Nat → Nat}  {S : ms_T} {a1 : Int32} {z : Int32 × ms_T}  (hf : fX12_no S a1 = some z) : tc_MI l dC dI ca yX12_no cX12_no 2 (some .boolean) rmX12_no [.ref (q 0), .int (a1)] (w12 ca q S) (w12 ca q z.2) (z.1) := by
  refine tc_metI (own := RX12) (by decide) rfl ?_ (Nat.le_of_ble_eq_true rfl)
  intro p e s m below meth c A X hP hD hS ls hl
  obtain ⟨hx, hb, hr, hml, hown, hts, hlk, hK, hA, hG⟩ := id X
  unfold fX12_no at hf
  have hl : lv_has ls 2 [(0, .ref (q 0)), (1, .int (a1))] := hl
  refine lv_aload_n hx hb dX12_no_0 rfl (lv_at hl 0 rfl) ?_
  refine lv_iload_n hx hb dX12_no_1 rfl (lv_at hl 1 rfl) ?_
  refine va_put (D := (dC, dI)) (ci := 12) (v := .int (a1)) (ty := .int) (C := RX12) (T := TX12) (N := 49) hx hb hts i_X12 tyX12 tyX12_ok nmX12 hown hK hP hD hS 0 rfl rfl 0 (by decide) (hts _ wf_X12_66) (fun _ h9 => h9) rfl (tyX12_ok 0 (by decide)) rfl rfl (Nat.le_of_ble_eq_true rfl) dX12_no_2 (fun H locs hP hD hS => ?_)
  have hP := tc_eP (pw12_0_0 ca q S a1) hP
  have hD := tc_eD (pw12_0_0 ca q S a1) hD
  refine lv_iconst (v := (0 : Int32)) hx hb dX12_no_5 (by decide) ?_
  obtain rfl := Option.some.inj hf
  exact tc_rz X hP hD hS rfl dX12_no_6 (by decide) rfl rfl
def fX12_isIn   (a0 : Int64) (a2 : Int64) (a4 : Int64) : Option (Int32) :=
  if (lg_cmp a0 a2) < 0 then
    some ((0 : Int32))
  else
    if 0 < (lg_cmp a0 a4) then
      some ((0 : Int32))
    else
      some ((1 : Int32))
abbrev rmX12_isIn : Room := { frames := 0, cells := 0, slots := 0, locals := 0 }
theorem okX12_isIn : tc_ok yX12_isIn cX12_isIn 6 (some .boolean) 3 := ⟨wc_X12_isIn, wn_X12, by decide, by decide, by decide +kernel⟩
set_option maxRecDepth 20000 in
theorem mX12_isIn    {a0 : Int64} {a2 : Int64} {a4 : Int64} {z : Int32}  (hf : fX12_isIn a0 a2 a4 = some z) : tc_MI l dC dI ca yX12_isIn cX12_isIn 6 (some .boolean) rmX12_isIn [.long (a0), .long (a2), .long (a4)] [] [] (z) := by
  refine tc_metI (own := RX12) (by decide) rfl ?_ (Nat.le_of_ble_eq_true rfl)
  intro p e s m below meth c A X hP hD hS ls hl
  obtain ⟨hx, hb, hr, hml, hown, hts, hlk, hK, hA, hG⟩ := id X
  unfold fX12_isIn at hf
  have hl : lv_has ls 6 [(0, .long (a0)), (2, .long (a2)), (4, .long (a4))] := hl
  refine lv_lload_n hx hb dX12_isIn_0 rfl (lv_at hl 0 rfl) ?_
  refine lv_lload_n hx hb dX12_isIn_1 rfl (lv_at hl 1 rfl) ?_
  refine W.lcmp hx hb dX12_isIn_2 ?_
  refine lv_if_lt (tgt := 17) hx hb dX12_isIn_3 (by decide) (fun hc => ?_) (fun hc => ?_)
  · have hf := tc_pos hc hf
    refine lv_iconst (v := (0 : Int32)) hx hb dX12_isIn_17 (by decide) ?_
    obtain rfl := Option.some.inj hf
    exact tc_rz X hP hD hS rfl dX12_isIn_18 (by decide) rfl rfl
  · have hf := tc_neg hc hf
    refine lv_lload_n hx hb dX12_isIn_6 rfl (lv_at hl 0 rfl) ?_
    refine lv_lload hx hb dX12_isIn_7 (lv_at hl 2 rfl) ?_
    refine W.lcmp hx hb dX12_isIn_9 ?_
    refine lv_if_gt (tgt := 17) hx hb dX12_isIn_10 (by decide) (fun hc => ?_) (fun hc => ?_)
    · have hf := tc_pos hc hf
      refine lv_iconst (v := (0 : Int32)) hx hb dX12_isIn_17 (by decide) ?_
      obtain rfl := Option.some.inj hf
      exact tc_rz X hP hD hS rfl dX12_isIn_18 (by decide) rfl rfl
    · have hf := tc_neg hc hf
      refine lv_iconst (v := (1 : Int32)) hx hb dX12_isIn_13 (by decide) ?_
      refine lv_goto (tgt := 18) hx hb dX12_isIn_14 (by decide) ?_
      obtain rfl := Option.some.inj hf
      exact tc_rz X hP hD hS rfl dX12_isIn_18 (by decide) rfl rfl
def fX12_fraction_9    : Nat → ms_T → Int64 → Int64 → Int64 → Int64 → Option (Int32 × ms_T)
  | 0, _, _, _, _, _ => none
  | n + 1, S, v1, v3, v5, v7 =>
    if (lg_cmp v7 (0 : Int64)) = 0 then
      if ¬ v5 = 0 then
        if ¬ v5 = 0 then
          some ((1 : Int32), sl (sl S 2 (v1 / v5)) 3 (v3 / v5))
        else none
      else none
    else
      if ¬ v7 = 0 then
        fX12_fraction_9 n S v1 v3 v7 (v5 - v5 / v7 * v7)
      else none
def fX12_fraction  (S : ms_T) (a1 : Int64) (a3 : Int64) : Option (Int32 × ms_T) :=
  fX12_fraction_9 FU S a1 a3 (jabsl a1) a3
abbrev rmX12_fraction : Room := { frames := 1, cells := 0, slots := 0, locals := 23 }
theorem okX12_fraction : tc_ok yX12_fraction cX12_fraction 11 (some .boolean) 2 := ⟨wc_X12_fraction, wn_X12, by decide, by decide, by decide +kernel⟩
set_option maxRecDepth 20000 in
theorem tX12_fraction_9 {q : Nat → Nat}  (X : tc_X dC dI ca A RX12 cX12_fraction 11 (some .boolean) p s m args meth c) (z : Int32 × ms_T)     : ∀ n : Nat, ∀ (S : ms_T) (v1 : Int64) (v3 : Int64) (v5 : Int64) (v7 : Int64), fX12_fraction_9 n S v1 v3 v5 v7 = some z → ∀ (H : Heap) (locs : List Loc) (ls : Array Slot), va_P (dC, dI) classes (w12 ca q S) H → va_D A (w12 ca q S) → va_S A s.heap H locs → lv_has ls 11 [(0, .ref (q 0)), (1, .long (v1)), (3, .long (v3)), (5, .long (v5)), (7, .long (v7))] → W p l e rmX12_fraction s m args below meth c H locs 0 0 (MQ below (tc_QI dC dI ca A (w12 ca q z.2) (z.1)) args s 0 0 A) (F0 m 9 ls []) := by
  obtain ⟨hx, hb, hr, hml, hown, hts, hlk, hK, hA, hG⟩ := id X
  intro n
  induction n with
  | zero => intro S v1 v3 v5 v7 hf; exact absurd (show none = some z from hf) (fun h => by cases h)
  | succ n ih =>
    intro S v1 v3 v5 v7 hf H locs ls hP hD hS hl
    rw [fX12_fraction_9] at hf
    refine lv_lload hx hb dX12_fraction_9 (lv_at hl 4 rfl) ?_
    refine lv_lconst (v := (0 : Int64)) hx hb dX12_fraction_11 (by decide) ?_
    refine W.lcmp hx hb dX12_fraction_12 ?_
    refine lv_if_eq (tgt := 34) hx hb dX12_fraction_13 (by decide) (fun hc => ?_) (fun hc => ?_)
    · have hf := tc_pos hc hf
      refine lv_aload_n hx hb dX12_fraction_34 rfl (lv_at hl 0 rfl) ?_
      refine lv_lload_n hx hb dX12_fraction_35 rfl (lv_at hl 1 rfl) ?_
      refine lv_lload hx hb dX12_fraction_36 (lv_at hl 3 rfl) ?_
      obtain ⟨hne, hf⟩ := tc_ck hf
      refine lv_ldiv hx hb dX12_fraction_38 hne ?_
      refine va_put (D := (dC, dI)) (ci := 12) (v := .long (v1 / v5)) (ty := .long) (C := RX12) (T := TX12) (N := 49) hx hb hts i_X12 tyX12 tyX12_ok nmX12 hown hK hP hD hS 0 rfl rfl 2 (by decide) (hts _ wf_X12_69) (fun _ h9 => h9) rfl (tyX12_ok 2 (by decide)) rfl rfl (Nat.le_of_ble_eq_true rfl) dX12_fraction_39 (fun H locs hP hD hS => ?_)
      have hP := tc_eP (pw12_0_2 ca q S (v1 / v5)) hP
      have hD := tc_eD (pw12_0_2 ca q S (v1 / v5)) hD
      refine lv_aload_n hx hb dX12_fraction_42 rfl (lv_at hl 0 rfl) ?_
      refine lv_lload_n hx hb dX12_fraction_43 rfl (lv_at hl 2 rfl) ?_
      refine lv_lload hx hb dX12_fraction_44 (lv_at hl 3 rfl) ?_
      obtain ⟨hne, hf⟩ := tc_ck hf
      refine lv_ldiv hx hb dX12_fraction_46 hne ?_
      refine va_put (D := (dC, dI)) (ci := 12) (v := .long (v3 / v5)) (ty := .long) (C := RX12) (T := TX12) (N := 49) hx hb hts i_X12 tyX12 tyX12_ok nmX12 hown hK hP hD hS 0 rfl rfl 3 (by decide) (hts _ wf_X12_7) (fun _ h9 => h9) rfl (tyX12_ok 3 (by decide)) rfl rfl (Nat.le_of_ble_eq_true rfl) dX12_fraction_47 (fun H locs hP hD hS => ?_)
      have hP := tc_eP (pw12_0_3 ca q (sl S 2 (v1 / v5)) (v3 / v5)) hP
      have hD := tc_eD (pw12_0_3 ca q (sl S 2 (v1 / v5)) (v3 / v5)) hD
      refine lv_iconst (v := (1 : Int32)) hx hb dX12_fraction_50 (by decide) ?_
      obtain rfl := Option.some.inj hf
      exact tc_rz X hP hD hS rfl dX12_fraction_51 (by decide) rfl rfl
    · have hf := tc_neg hc hf
      refine lv_lload hx hb dX12_fraction_16 (lv_at hl 3 rfl) ?_
      refine lv_lload hx hb dX12_fraction_18 (lv_at hl 4 rfl) ?_
      obtain ⟨hne, hf⟩ := tc_ck hf
      refine lv_lrem hx hb dX12_fraction_20 hne ?_
      refine lv_lstore (lv' := [(9, .long (v5 - v5 / v7 * v7)), (0, .ref (q 0)), (1, .long (v1)), (3, .long (v3)), (5, .long (v5)), (7, .long (v7))]) hx hb dX12_fraction_21 hl (by decide) rfl (fun ls hl => ?_)
      refine lv_lload hx hb dX12_fraction_23 (lv_at hl 5 rfl) ?_
      refine lv_lstore (lv' := [(5, .long (v7)), (9, .long (v5 - v5 / v7 * v7)), (0, .ref (q 0)), (1, .long (v1)), (3, .long (v3)), (7, .long (v7))]) hx hb dX12_fraction_25 hl (by decide) rfl (fun ls hl => ?_)
      refine lv_lload hx hb dX12_fraction_27 (lv_at hl 1 rfl) ?_
      refine lv_lstore (lv' := [(7, .long (v5 - v5 / v7 * v7)), (5, .long (v7)), (9, .long (v5 - v5 / v7 * v7)), (0, .ref (q 0)), (1, .long (v1)), (3, .long (v3))]) hx hb dX12_fraction_29 hl (by decide) rfl (fun ls hl => ?_)
      refine lv_goto (tgt := 9) hx hb dX12_fraction_31 (by decide) ?_
      exact ih S v1 v3 v7 (v5 - v5 / v7 * v7) hf _ _ _ hP hD hS (lv_sub hl [3, 4, 5, 1, 0] rfl)
set_option maxRecDepth 20000 in
theorem mX12_fraction {q : Nat → Nat}  {S : ms_T} {a1 : Int64} {a3 : Int64} {z : Int32 × ms_T}  (hf : fX12_fraction S a1 a3 = some z) : tc_MI l dC dI ca yX12_fraction cX12_fraction 11 (some .boolean) rmX12_fraction [.ref (q 0), .long (a1), .long (a3)] (w12 ca q S) (w12 ca q z.2) (z.1) := by
  refine tc_metI (own := RX12) (by decide) rfl ?_ (Nat.le_of_ble_eq_true rfl)
  intro p e s m below meth c A X hP hD hS ls hl
  obtain ⟨hx, hb, hr, hml, hown, hts, hlk, hK, hA, hG⟩ := id X
  unfold fX12_fraction at hf
  have hl : lv_has ls 11 [(0, .ref (q 0)), (1, .long (a1)), (3, .long (a3))] := hl
  refine lv_lload_n hx hb dX12_fraction_0 rfl (lv_at hl 1 rfl) ?_
  refine tc_mabsl (rest := []) X hl.1 wl_X12_72 (Nat.le_of_ble_eq_true rfl) (Nat.le_of_ble_eq_true rfl) dX12_fraction_1 ?_
  refine lv_lstore (lv' := [(5, .long (jabsl a1)), (0, .ref (q 0)), (1, .long (a1)), (3, .long (a3))]) hx hb dX12_fraction_4 hl (by decide) rfl (fun ls hl => ?_)
  refine lv_lload_n hx hb dX12_fraction_6 rfl (lv_at hl 3 rfl) ?_
  refine lv_lstore (lv' := [(7, .long (a3)), (5, .long (jabsl a1)), (0, .ref (q 0)), (1, .long (a1)), (3, .long (a3))]) hx hb dX12_fraction_7 hl (by decide) rfl (fun ls hl => ?_)
  exact tX12_fraction_9 X z FU S a1 a3 (jabsl a1) a3 hf _ _ _ hP hD hS (lv_sub hl [2, 3, 4, 1, 0] rfl)
def fX12_trims   (a0 : Int32) (a1 : Int64) : Option (Int64) :=
  if a0 = 0 then
    some (a1.toInt32.toInt8.toInt32.toInt64)
  else
    if a0 = (1 : Int32) then
      some (a1.toInt32.toInt16.toInt32.toInt64)
    else
      if a0 = (2 : Int32) then
        some (a1.toInt32.toInt64)
      else
        some (a1)
abbrev rmX12_trims : Room := { frames := 0, cells := 0, slots := 0, locals := 0 }
theorem okX12_trims : tc_ok yX12_trims cX12_trims 3 (some .long) 2 := ⟨wc_X12_trims, wn_X12, by decide, by decide, by decide +kernel⟩
set_option maxRecDepth 20000 in
theorem mX12_trims    {a0 : Int32} {a1 : Int64} {z : Int64}  (hf : fX12_trims a0 a1 = some z) : tc_ML l dC dI ca yX12_trims cX12_trims 3 (some .long) rmX12_trims [.int (a0), .long (a1)] [] [] (z) := by
  refine tc_metL (own := RX12) (by decide) rfl ?_ (Nat.le_of_ble_eq_true rfl)
  intro p e s m below meth c A X hP hD hS ls hl
  obtain ⟨hx, hb, hr, hml, hown, hts, hlk, hK, hA, hG⟩ := id X
  unfold fX12_trims at hf
  have hl : lv_has ls 3 [(0, .int (a0)), (1, .long (a1))] := hl
  refine lv_iload_n hx hb dX12_trims_0 rfl (lv_at hl 0 rfl) ?_
  refine lv_if_ne (tgt := 11) hx hb dX12_trims_1 (by decide) (fun hc => ?_) (fun hc => ?_)
  · have hf := tc_neg hc hf
    refine lv_iload_n hx hb dX12_trims_11 rfl (lv_at hl 0 rfl) ?_
    refine lv_iconst (v := (1 : Int32)) hx hb dX12_trims_12 (by decide) ?_
    refine lv_icmp_ne (tgt := 23) hx hb dX12_trims_13 (by decide) (fun hc => ?_) (fun hc => ?_)
    · have hf := tc_neg hc hf
      refine lv_iload_n hx hb dX12_trims_23 rfl (lv_at hl 0 rfl) ?_
      refine lv_iconst (v := (2 : Int32)) hx hb dX12_trims_24 (by decide) ?_
      refine lv_icmp_ne (tgt := 34) hx hb dX12_trims_25 (by decide) (fun hc => ?_) (fun hc => ?_)
      · have hf := tc_neg hc hf
        refine lv_lload_n hx hb dX12_trims_34 rfl (lv_at hl 1 rfl) ?_
        obtain rfl := Option.some.inj hf
        exact tc_rl X hP hD hS rfl dX12_trims_35 rfl rfl
      · have hf := tc_pos hc hf
        refine lv_lload_n hx hb dX12_trims_28 rfl (lv_at hl 1 rfl) ?_
        refine lv_l2i (v := a1.toInt32) hx hb dX12_trims_29 rfl ?_
        refine lv_i2l (v := a1.toInt32.toInt64) hx hb dX12_trims_30 rfl ?_
        refine lv_goto (tgt := 35) hx hb dX12_trims_31 (by decide) ?_
        obtain rfl := Option.some.inj hf
        exact tc_rl X hP hD hS rfl dX12_trims_35 rfl rfl
    · have hf := tc_pos hc hf
      refine lv_lload_n hx hb dX12_trims_16 rfl (lv_at hl 1 rfl) ?_
      refine lv_l2i (v := a1.toInt32) hx hb dX12_trims_17 rfl ?_
      refine lv_i2s (v := a1.toInt32.toInt16.toInt32) hx hb dX12_trims_18 rfl ?_
      refine lv_i2l (v := a1.toInt32.toInt16.toInt32.toInt64) hx hb dX12_trims_19 rfl ?_
      refine lv_goto (tgt := 35) hx hb dX12_trims_20 (by decide) ?_
      obtain rfl := Option.some.inj hf
      exact tc_rl X hP hD hS rfl dX12_trims_35 rfl rfl
  · have hf := tc_pos hc hf
    refine lv_lload_n hx hb dX12_trims_4 rfl (lv_at hl 1 rfl) ?_
    refine lv_l2i (v := a1.toInt32) hx hb dX12_trims_5 rfl ?_
    refine lv_i2b (v := a1.toInt32.toInt8.toInt32) hx hb dX12_trims_6 rfl ?_
    refine lv_i2l (v := a1.toInt32.toInt8.toInt32.toInt64) hx hb dX12_trims_7 rfl ?_
    refine lv_goto (tgt := 35) hx hb dX12_trims_8 (by decide) ?_
    obtain rfl := Option.some.inj hf
    exact tc_rl X hP hD hS rfl dX12_trims_35 rfl rfl
def fX12_tray_28    (S : ms_T) : Option (Int32 × ms_T) :=
  (fX12_no S (1 : Int32)).bind fun z1 =>
  if z1.1 &&& 1 = z1.1 then
    some (z1.1, z1.2)
  else none
def fX12_tray_74    : Nat → ms_T → Int32 → Int32 → Int32 → Option (Int32 × ms_T)
  | 0, _, _, _, _ => none
  | n + 1, S, v1, v3, v4 =>
    if v3 ≤ v4 then
      some ((1 : Int32), S)
    else
      if inb (((60 : Int32) * v1) + v4) 240 = true then
        fX12_tray_74 n (sA S 3 (((60 : Int32) * v1) + v4) (0 : Int64)) v1 v3 (v4 + (1 : Int32))
      else none
def fX12_tray  (S : ms_T) (a1 : Int32) (a2 : Int32) (a3 : Int32) : Option (Int32 × ms_T) :=
  if a1 < 0 then
    fX12_tray_28 (si (si S 1 (0 : Int32)) 0 (0 : Int32))
  else
    if (4 : Int32) ≤ a1 then
      fX12_tray_28 (si (si S 1 (0 : Int32)) 0 (0 : Int32))
    else
      if a2 < 0 then
        fX12_tray_28 (si (si S 1 (0 : Int32)) 0 (0 : Int32))
      else
        if a2 ≤ (3 : Int32) then
          if a3 ≤ (60 : Int32) then
            if 0 ≤ a3 then
              if inb a1 4 = true then
                if inb a1 4 = true then
                  fX12_tray_74 FU (sa (sa (si (si S 1 (0 : Int32)) 0 (0 : Int32)) 1 a1 a2) 2 a1 a3) a1 a3 (0 : Int32)
                else none
              else none
            else
              (fX12_no (si (si S 1 (0 : Int32)) 0 (0 : Int32)) (6 : Int32)).bind fun z5 =>
              if z5.1 &&& 1 = z5.1 then
                some (z5.1, z5.2)
              else none
          else
            (fX12_no (si (si S 1 (0 : Int32)) 0 (0 : Int32)) (5 : Int32)).bind fun z6 =>
            if z6.1 &&& 1 = z6.1 then
              some (z6.1, z6.2)
            else none
        else
          fX12_tray_28 (si (si S 1 (0 : Int32)) 0 (0 : Int32))
abbrev rmX12_tray : Room := { frames := 1, cells := 0, slots := 0, locals := 21 }
theorem okX12_tray : tc_ok yX12_tray cX12_tray 5 (some .boolean) 3 := ⟨wc_X12_tray, wn_X12, by decide, by decide, by decide +kernel⟩
set_option maxRecDepth 20000 in
theorem tX12_tray_28 {q : Nat → Nat}  (X : tc_X dC dI ca A RX12 cX12_tray 5 (some .boolean) p s m args meth c) (z : Int32 × ms_T)     : ∀ (S : ms_T), fX12_tray_28 S = some z → ∀ (H : Heap) (locs : List Loc) (ls : Array Slot), va_P (dC, dI) classes (w12 ca q S) H → va_D A (w12 ca q S) → va_S A s.heap H locs → lv_has ls 5 [(0, .ref (q 0))] → W p l e rmX12_tray s m args below meth c H locs 0 0 (MQ below (tc_QI dC dI ca A (w12 ca q z.2) (z.1)) args s 0 0 A) (F0 m 28 ls []) := by
  obtain ⟨hx, hb, hr, hml, hown, hts, hlk, hK, hA, hG⟩ := id X
  intro S hf H locs ls hP hD hS hl
  unfold fX12_tray_28 at hf
  refine lv_aload_n hx hb dX12_tray_28 rfl (lv_at hl 0 rfl) ?_
  refine lv_iconst (v := (1 : Int32)) hx hb dX12_tray_29 (by decide) ?_
  obtain ⟨z1, hg, hf⟩ := tc_bi hf
  refine tc_iVs (As := [.int ((1 : Int32))]) (rest := []) (b := q 0) X hP hD hS (mX12_no hg) okX12_no wl_X12_78 wi_X12_no ws_X12_X12_no_X12_no ⟨rfl, rfl, Nat.le_of_ble_eq_true rfl, Nat.le_of_ble_eq_true rfl⟩ 12 0 rfl rfl rfl hl.1 (Nat.le_of_ble_eq_true rfl) dX12_tray_30 (fun H locs hP hD hS => ?_)
  obtain ⟨hz1, hf⟩ := tc_ck hf
  obtain rfl := Option.some.inj hf
  exact tc_rz X hP hD hS rfl dX12_tray_33 hz1 rfl rfl
set_option maxRecDepth 20000 in
theorem tX12_tray_74 {q : Nat → Nat}  (X : tc_X dC dI ca A RX12 cX12_tray 5 (some .boolean) p s m args meth c) (z : Int32 × ms_T)     : ∀ n : Nat, ∀ (S : ms_T) (v1 : Int32) (v3 : Int32) (v4 : Int32), fX12_tray_74 n S v1 v3 v4 = some z → ∀ (H : Heap) (locs : List Loc) (ls : Array Slot), va_P (dC, dI) classes (w12 ca q S) H → va_D A (w12 ca q S) → va_S A s.heap H locs → lv_has ls 5 [(0, .ref (q 0)), (1, .int (v1)), (3, .int (v3)), (4, .int (v4))] → W p l e rmX12_tray s m args below meth c H locs 0 0 (MQ below (tc_QI dC dI ca A (w12 ca q z.2) (z.1)) args s 0 0 A) (F0 m 74 ls []) := by
  obtain ⟨hx, hb, hr, hml, hown, hts, hlk, hK, hA, hG⟩ := id X
  intro n
  induction n with
  | zero => intro S v1 v3 v4 hf; exact absurd (show none = some z from hf) (fun h => by cases h)
  | succ n ih =>
    intro S v1 v3 v4 hf H locs ls hP hD hS hl
    rw [fX12_tray_74] at hf
    refine lv_iload hx hb dX12_tray_74 (lv_at hl 3 rfl) ?_
    refine lv_iload_n hx hb dX12_tray_76 rfl (lv_at hl 2 rfl) ?_
    refine lv_icmp_ge (tgt := 99) hx hb dX12_tray_77 (by decide) (fun hc => ?_) (fun hc => ?_)
    · have hf := tc_pos hc hf
      refine lv_iconst (v := (1 : Int32)) hx hb dX12_tray_99 (by decide) ?_
      obtain rfl := Option.some.inj hf
      exact tc_rz X hP hD hS rfl dX12_tray_100 (by decide) rfl rfl
    · have hf := tc_neg hc hf
      refine lv_aload_n hx hb dX12_tray_80 rfl (lv_at hl 0 rfl) ?_
      refine va_get (D := (dC, dI)) (ci := 12) (v := .ref (q 3)) (C := RX12) (T := TX12) (N := 49) hx hb hts i_X12 hown hK hP 0 rfl rfl 6 (by decide) (hts _ wf_X12_20) (fun _ h9 => h9) rfl dX12_tray_81 ?_
      refine lv_bipush (v := (60 : Int32)) hx hb dX12_tray_84 (by decide) ?_
      refine lv_iload_n hx hb dX12_tray_86 rfl (lv_at hl 1 rfl) ?_
      refine lv_imul hx hb dX12_tray_87 ?_
      refine lv_iload hx hb dX12_tray_88 (lv_at hl 3 rfl) ?_
      refine lv_iadd hx hb dX12_tray_90 ?_
      refine lv_lconst (v := (0 : Int64)) hx hb dX12_tray_91 (by decide) ?_
      obtain ⟨hi4, hf⟩ := tc_in hf
      refine va_last hx hb hK hP hD hS 3 2 rfl rfl hi4 dX12_tray_92 (fun H locs hP hD hS => ?_)
      have hP := tc_eP (aw12_0_3 ca q S (((60 : Int32) * v1) + v4) (0 : Int64)) hP
      have hD := tc_eD (aw12_0_3 ca q S (((60 : Int32) * v1) + v4) (0 : Int64)) hD
      refine lv_iinc (v := v4 + (1 : Int32)) (lv' := [(4, .int (v4 + (1 : Int32))), (0, .ref (q 0)), (1, .int (v1)), (3, .int (v3))]) hx hb dX12_tray_93 hl (k := 3) rfl rfl (by decide) rfl (fun ls hl => ?_)
      refine lv_goto (tgt := 74) hx hb dX12_tray_96 (by decide) ?_
      exact ih (sA S 3 (((60 : Int32) * v1) + v4) (0 : Int64)) v1 v3 (v4 + (1 : Int32)) hf _ _ _ hP hD hS (lv_sub hl [1, 2, 3, 0] rfl)
set_option maxRecDepth 20000 in
theorem mX12_tray {q : Nat → Nat}  {S : ms_T} {a1 : Int32} {a2 : Int32} {a3 : Int32} {z : Int32 × ms_T}  (hf : fX12_tray S a1 a2 a3 = some z) : tc_MI l dC dI ca yX12_tray cX12_tray 5 (some .boolean) rmX12_tray [.ref (q 0), .int (a1), .int (a2), .int (a3)] (w12 ca q S) (w12 ca q z.2) (z.1) := by
  refine tc_metI (own := RX12) (by decide) rfl ?_ (Nat.le_of_ble_eq_true rfl)
  intro p e s m below meth c A X hP hD hS ls hl
  obtain ⟨hx, hb, hr, hml, hown, hts, hlk, hK, hA, hG⟩ := id X
  unfold fX12_tray at hf
  have hl : lv_has ls 5 [(0, .ref (q 0)), (1, .int (a1)), (2, .int (a2)), (3, .int (a3))] := hl
  refine lv_aload_n hx hb dX12_tray_0 rfl (lv_at hl 0 rfl) ?_
  refine lv_iconst (v := (0 : Int32)) hx hb dX12_tray_1 (by decide) ?_
  refine va_put (D := (dC, dI)) (ci := 12) (v := .int ((0 : Int32))) (ty := .int) (C := RX12) (T := TX12) (N := 49) hx hb hts i_X12 tyX12 tyX12_ok nmX12 hown hK hP hD hS 0 rfl rfl 1 (by decide) (hts _ wf_X12_63) (fun _ h9 => h9) rfl (tyX12_ok 1 (by decide)) rfl rfl (Nat.le_of_ble_eq_true rfl) dX12_tray_2 (fun H locs hP hD hS => ?_)
  have hP := tc_eP (pw12_0_1 ca q S (0 : Int32)) hP
  have hD := tc_eD (pw12_0_1 ca q S (0 : Int32)) hD
  refine lv_aload_n hx hb dX12_tray_5 rfl (lv_at hl 0 rfl) ?_
  refine lv_iconst (v := (0 : Int32)) hx hb dX12_tray_6 (by decide) ?_
  refine va_put (D := (dC, dI)) (ci := 12) (v := .int ((0 : Int32))) (ty := .int) (C := RX12) (T := TX12) (N := 49) hx hb hts i_X12 tyX12 tyX12_ok nmX12 hown hK hP hD hS 0 rfl rfl 0 (by decide) (hts _ wf_X12_66) (fun _ h9 => h9) rfl (tyX12_ok 0 (by decide)) rfl rfl (Nat.le_of_ble_eq_true rfl) dX12_tray_7 (fun H locs hP hD hS => ?_)
  have hP := tc_eP (pw12_0_0 ca q (si S 1 (0 : Int32)) (0 : Int32)) hP
  have hD := tc_eD (pw12_0_0 ca q (si S 1 (0 : Int32)) (0 : Int32)) hD
  refine lv_iload_n hx hb dX12_tray_10 rfl (lv_at hl 1 rfl) ?_
  refine lv_if_lt (tgt := 28) hx hb dX12_tray_11 (by decide) (fun hc => ?_) (fun hc => ?_)
  · have hf := tc_pos hc hf
    exact tX12_tray_28 X z (si (si S 1 (0 : Int32)) 0 (0 : Int32)) hf _ _ _ hP hD hS (lv_sub hl [0] rfl)
  · have hf := tc_neg hc hf
    refine lv_iload_n hx hb dX12_tray_14 rfl (lv_at hl 1 rfl) ?_
    refine lv_iconst (v := (4 : Int32)) hx hb dX12_tray_15 (by decide) ?_
    refine lv_icmp_ge (tgt := 28) hx hb dX12_tray_16 (by decide) (fun hc => ?_) (fun hc => ?_)
    · have hf := tc_pos hc hf
      exact tX12_tray_28 X z (si (si S 1 (0 : Int32)) 0 (0 : Int32)) hf _ _ _ hP hD hS (lv_sub hl [0] rfl)
    · have hf := tc_neg hc hf
      refine lv_iload_n hx hb dX12_tray_19 rfl (lv_at hl 2 rfl) ?_
      refine lv_if_lt (tgt := 28) hx hb dX12_tray_20 (by decide) (fun hc => ?_) (fun hc => ?_)
      · have hf := tc_pos hc hf
        exact tX12_tray_28 X z (si (si S 1 (0 : Int32)) 0 (0 : Int32)) hf _ _ _ hP hD hS (lv_sub hl [0] rfl)
      · have hf := tc_neg hc hf
        refine lv_iload_n hx hb dX12_tray_23 rfl (lv_at hl 2 rfl) ?_
        refine lv_iconst (v := (3 : Int32)) hx hb dX12_tray_24 (by decide) ?_
        refine lv_icmp_le (tgt := 34) hx hb dX12_tray_25 (by decide) (fun hc => ?_) (fun hc => ?_)
        · have hf := tc_pos hc hf
          refine lv_iload_n hx hb dX12_tray_34 rfl (lv_at hl 3 rfl) ?_
          refine lv_bipush (v := (60 : Int32)) hx hb dX12_tray_35 (by decide) ?_
          refine lv_icmp_le (tgt := 46) hx hb dX12_tray_37 (by decide) (fun hc => ?_) (fun hc => ?_)
          · have hf := tc_pos hc hf
            refine lv_iload_n hx hb dX12_tray_46 rfl (lv_at hl 3 rfl) ?_
            refine lv_if_ge (tgt := 57) hx hb dX12_tray_47 (by decide) (fun hc => ?_) (fun hc => ?_)
            · have hf := tc_pos hc hf
              refine lv_aload_n hx hb dX12_tray_57 rfl (lv_at hl 0 rfl) ?_
              refine va_get (D := (dC, dI)) (ci := 12) (v := .ref (q 1)) (C := RX12) (T := TX12) (N := 49) hx hb hts i_X12 hown hK hP 0 rfl rfl 4 (by decide) (hts _ wf_X12_13) (fun _ h9 => h9) rfl dX12_tray_58 ?_
              refine lv_iload_n hx hb dX12_tray_61 rfl (lv_at hl 1 rfl) ?_
              refine lv_iload_n hx hb dX12_tray_62 rfl (lv_at hl 2 rfl) ?_
              obtain ⟨hi2, hf⟩ := tc_in hf
              refine va_iast hx hb hK hP hD hS 1 1 rfl rfl hi2 dX12_tray_63 (fun H locs hP hD hS => ?_)
              have hP := tc_eP (aw12_0_1 ca q (si (si S 1 (0 : Int32)) 0 (0 : Int32)) a1 a2) hP
              have hD := tc_eD (aw12_0_1 ca q (si (si S 1 (0 : Int32)) 0 (0 : Int32)) a1 a2) hD
              refine lv_aload_n hx hb dX12_tray_64 rfl (lv_at hl 0 rfl) ?_
              refine va_get (D := (dC, dI)) (ci := 12) (v := .ref (q 2)) (C := RX12) (T := TX12) (N := 49) hx hb hts i_X12 hown hK hP 0 rfl rfl 5 (by decide) (hts _ wf_X12_17) (fun _ h9 => h9) rfl dX12_tray_65 ?_
              refine lv_iload_n hx hb dX12_tray_68 rfl (lv_at hl 1 rfl) ?_
              refine lv_iload_n hx hb dX12_tray_69 rfl (lv_at hl 3 rfl) ?_
              obtain ⟨hi3, hf⟩ := tc_in hf
              refine va_iast hx hb hK hP hD hS 2 1 rfl rfl hi3 dX12_tray_70 (fun H locs hP hD hS => ?_)
              have hP := tc_eP (aw12_0_2 ca q (sa (si (si S 1 (0 : Int32)) 0 (0 : Int32)) 1 a1 a2) a1 a3) hP
              have hD := tc_eD (aw12_0_2 ca q (sa (si (si S 1 (0 : Int32)) 0 (0 : Int32)) 1 a1 a2) a1 a3) hD
              refine lv_iconst (v := (0 : Int32)) hx hb dX12_tray_71 (by decide) ?_
              refine lv_istore (lv' := [(4, .int ((0 : Int32))), (0, .ref (q 0)), (1, .int (a1)), (2, .int (a2)), (3, .int (a3))]) hx hb dX12_tray_72 hl (by decide) rfl (fun ls hl => ?_)
              exact tX12_tray_74 X z FU (sa (sa (si (si S 1 (0 : Int32)) 0 (0 : Int32)) 1 a1 a2) 2 a1 a3) a1 a3 (0 : Int32) hf _ _ _ hP hD hS (lv_sub hl [1, 2, 4, 0] rfl)
            · have hf := tc_neg hc hf
              refine lv_aload_n hx hb dX12_tray_50 rfl (lv_at hl 0 rfl) ?_
              refine lv_bipush (v := (6 : Int32)) hx hb dX12_tray_51 (by decide) ?_
              obtain ⟨z5, hg, hf⟩ := tc_bi hf
              refine tc_iVs (As := [.int ((6 : Int32))]) (rest := []) (b := q 0) X hP hD hS (mX12_no hg) okX12_no wl_X12_78 wi_X12_no ws_X12_X12_no_X12_no ⟨rfl, rfl, Nat.le_of_ble_eq_true rfl, Nat.le_of_ble_eq_true rfl⟩ 12 0 rfl rfl rfl hl.1 (Nat.le_of_ble_eq_true rfl) dX12_tray_53 (fun H locs hP hD hS => ?_)
              obtain ⟨hz1, hf⟩ := tc_ck hf
              obtain rfl := Option.some.inj hf
              exact tc_rz X hP hD hS rfl dX12_tray_56 hz1 rfl rfl
          · have hf := tc_neg hc hf
            refine lv_aload_n hx hb dX12_tray_40 rfl (lv_at hl 0 rfl) ?_
            refine lv_iconst (v := (5 : Int32)) hx hb dX12_tray_41 (by decide) ?_
            obtain ⟨z6, hg, hf⟩ := tc_bi hf
            refine tc_iVs (As := [.int ((5 : Int32))]) (rest := []) (b := q 0) X hP hD hS (mX12_no hg) okX12_no wl_X12_78 wi_X12_no ws_X12_X12_no_X12_no ⟨rfl, rfl, Nat.le_of_ble_eq_true rfl, Nat.le_of_ble_eq_true rfl⟩ 12 0 rfl rfl rfl hl.1 (Nat.le_of_ble_eq_true rfl) dX12_tray_42 (fun H locs hP hD hS => ?_)
            obtain ⟨hz1, hf⟩ := tc_ck hf
            obtain rfl := Option.some.inj hf
            exact tc_rz X hP hD hS rfl dX12_tray_45 hz1 rfl rfl
        · have hf := tc_neg hc hf
          exact tX12_tray_28 X z (si (si S 1 (0 : Int32)) 0 (0 : Int32)) hf _ _ _ hP hD hS (lv_sub hl [0] rfl)
def fX12_trayed  (S : ms_T) (a1 : Int32) : Option (Int32) :=
  if a1 < 0 then
    some ((1 : Int32))
  else
    if a1 < (4 : Int32) then
      if inb a1 4 = true then
        if 0 ≤ (ia S 2 a1) then
          some ((0 : Int32))
        else
          some ((3 : Int32))
      else none
    else
      some ((1 : Int32))
abbrev rmX12_trayed : Room := { frames := 0, cells := 0, slots := 0, locals := 0 }
theorem okX12_trayed : tc_ok yX12_trayed cX12_trayed 2 (some .int) 1 := ⟨wc_X12_trayed, wn_X12, by decide, by decide, by decide +kernel⟩
set_option maxRecDepth 20000 in
theorem mX12_trayed {q : Nat → Nat}  {S : ms_T} {a1 : Int32} {z : Int32}  (hf : fX12_trayed S a1 = some z) : tc_MI l dC dI ca yX12_trayed cX12_trayed 2 (some .int) rmX12_trayed [.ref (q 0), .int (a1)] (w12 ca q S) (w12 ca q S) (z) := by
  refine tc_metI (own := RX12) (by decide) rfl ?_ (Nat.le_of_ble_eq_true rfl)
  intro p e s m below meth c A X hP hD hS ls hl
  obtain ⟨hx, hb, hr, hml, hown, hts, hlk, hK, hA, hG⟩ := id X
  unfold fX12_trayed at hf
  have hl : lv_has ls 2 [(0, .ref (q 0)), (1, .int (a1))] := hl
  refine lv_iload_n hx hb dX12_trayed_0 rfl (lv_at hl 1 rfl) ?_
  refine lv_if_lt (tgt := 9) hx hb dX12_trayed_1 (by decide) (fun hc => ?_) (fun hc => ?_)
  · have hf := tc_pos hc hf
    refine lv_iconst (v := (1 : Int32)) hx hb dX12_trayed_9 (by decide) ?_
    refine lv_goto (tgt := 27) hx hb dX12_trayed_10 (by decide) ?_
    obtain rfl := Option.some.inj hf
    exact tc_ri X hP hD hS rfl dX12_trayed_27 rfl rfl
  · have hf := tc_neg hc hf
    refine lv_iload_n hx hb dX12_trayed_4 rfl (lv_at hl 1 rfl) ?_
    refine lv_iconst (v := (4 : Int32)) hx hb dX12_trayed_5 (by decide) ?_
    refine lv_icmp_lt (tgt := 13) hx hb dX12_trayed_6 (by decide) (fun hc => ?_) (fun hc => ?_)
    · have hf := tc_pos hc hf
      refine lv_aload_n hx hb dX12_trayed_13 rfl (lv_at hl 0 rfl) ?_
      refine va_get (D := (dC, dI)) (ci := 12) (v := .ref (q 2)) (C := RX12) (T := TX12) (N := 49) hx hb hts i_X12 hown hK hP 0 rfl rfl 5 (by decide) (hts _ wf_X12_17) (fun _ h9 => h9) rfl dX12_trayed_14 ?_
      refine lv_iload_n hx hb dX12_trayed_17 rfl (lv_at hl 1 rfl) ?_
      obtain ⟨hi1, hf⟩ := tc_in hf
      refine va_iald hx hb hK hP 2 1 rfl rfl hi1 dX12_trayed_18 ?_
      refine lv_if_ge (tgt := 26) hx hb dX12_trayed_19 (by decide) (fun hc => ?_) (fun hc => ?_)
      · have hf := tc_pos hc hf
        refine lv_iconst (v := (0 : Int32)) hx hb dX12_trayed_26 (by decide) ?_
        obtain rfl := Option.some.inj hf
        exact tc_ri X hP hD hS rfl dX12_trayed_27 rfl rfl
      · have hf := tc_neg hc hf
        refine lv_iconst (v := (3 : Int32)) hx hb dX12_trayed_22 (by decide) ?_
        refine lv_goto (tgt := 27) hx hb dX12_trayed_23 (by decide) ?_
        obtain rfl := Option.some.inj hf
        exact tc_ri X hP hD hS rfl dX12_trayed_27 rfl rfl
    · have hf := tc_neg hc hf
      refine lv_iconst (v := (1 : Int32)) hx hb dX12_trayed_9 (by decide) ?_
      refine lv_goto (tgt := 27) hx hb dX12_trayed_10 (by decide) ?_
      obtain rfl := Option.some.inj hf
      exact tc_ri X hP hD hS rfl dX12_trayed_27 rfl rfl
def fX12_placed  (S : ms_T) (a1 : Int32) (a2 : Int32) : Option (Int32) :=
  (fX12_trayed S a1).bind fun z1 =>
  if z1 ≤ 0 then
    if a2 < 0 then
      some ((4 : Int32))
    else
      if inb a1 4 = true then
        if a2 < (ia S 2 a1) then
          some ((0 : Int32))
        else
          some ((4 : Int32))
      else none
  else
    some (z1)
abbrev rmX12_placed : Room := { frames := 1, cells := 0, slots := 0, locals := 21 }
theorem okX12_placed : tc_ok yX12_placed cX12_placed 4 (some .int) 2 := ⟨wc_X12_placed, wn_X12, by decide, by decide, by decide +kernel⟩
set_option maxRecDepth 20000 in
theorem mX12_placed {q : Nat → Nat}  {S : ms_T} {a1 : Int32} {a2 : Int32} {z : Int32}  (hf : fX12_placed S a1 a2 = some z) : tc_MI l dC dI ca yX12_placed cX12_placed 4 (some .int) rmX12_placed [.ref (q 0), .int (a1), .int (a2)] (w12 ca q S) (w12 ca q S) (z) := by
  refine tc_metI (own := RX12) (by decide) rfl ?_ (Nat.le_of_ble_eq_true rfl)
  intro p e s m below meth c A X hP hD hS ls hl
  obtain ⟨hx, hb, hr, hml, hown, hts, hlk, hK, hA, hG⟩ := id X
  unfold fX12_placed at hf
  have hl : lv_has ls 4 [(0, .ref (q 0)), (1, .int (a1)), (2, .int (a2))] := hl
  refine lv_aload_n hx hb dX12_placed_0 rfl (lv_at hl 0 rfl) ?_
  refine lv_iload_n hx hb dX12_placed_1 rfl (lv_at hl 1 rfl) ?_
  obtain ⟨z1, hg, hf⟩ := tc_bi hf
  refine tc_iVs (As := [.int (a1)]) (rest := []) (b := q 0) X hP hD hS (mX12_trayed hg) okX12_trayed wl_X12_82 wi_X12_trayed ws_X12_X12_trayed_X12_trayed ⟨rfl, rfl, Nat.le_of_ble_eq_true rfl, Nat.le_of_ble_eq_true rfl⟩ 12 0 rfl rfl rfl hl.1 (Nat.le_of_ble_eq_true rfl) dX12_placed_2 (fun H locs hP hD hS => ?_)
  refine lv_istore_n (lv' := [(3, .int (z1)), (0, .ref (q 0)), (1, .int (a1)), (2, .int (a2))]) hx hb dX12_placed_5 rfl hl (by decide) rfl (fun ls hl => ?_)
  refine lv_iload_n hx hb dX12_placed_6 rfl (lv_at hl 0 rfl) ?_
  refine lv_if_le (tgt := 14) hx hb dX12_placed_7 (by decide) (fun hc => ?_) (fun hc => ?_)
  · have hf := tc_pos hc hf
    refine lv_iload_n hx hb dX12_placed_14 rfl (lv_at hl 3 rfl) ?_
    refine lv_if_lt (tgt := 28) hx hb dX12_placed_15 (by decide) (fun hc => ?_) (fun hc => ?_)
    · have hf := tc_pos hc hf
      refine lv_iconst (v := (4 : Int32)) hx hb dX12_placed_28 (by decide) ?_
      refine lv_goto (tgt := 33) hx hb dX12_placed_29 (by decide) ?_
      obtain rfl := Option.some.inj hf
      exact tc_ri X hP hD hS rfl dX12_placed_33 rfl rfl
    · have hf := tc_neg hc hf
      refine lv_iload_n hx hb dX12_placed_18 rfl (lv_at hl 3 rfl) ?_
      refine lv_aload_n hx hb dX12_placed_19 rfl (lv_at hl 1 rfl) ?_
      refine va_get (D := (dC, dI)) (ci := 12) (v := .ref (q 2)) (C := RX12) (T := TX12) (N := 49) hx hb hts i_X12 hown hK hP 0 rfl rfl 5 (by decide) (hts _ wf_X12_17) (fun _ h9 => h9) rfl dX12_placed_20 ?_
      refine lv_iload_n hx hb dX12_placed_23 rfl (lv_at hl 2 rfl) ?_
      obtain ⟨hi2, hf⟩ := tc_in hf
      refine va_iald hx hb hK hP 2 1 rfl rfl hi2 dX12_placed_24 ?_
      refine lv_icmp_lt (tgt := 32) hx hb dX12_placed_25 (by decide) (fun hc => ?_) (fun hc => ?_)
      · have hf := tc_pos hc hf
        refine lv_iconst (v := (0 : Int32)) hx hb dX12_placed_32 (by decide) ?_
        obtain rfl := Option.some.inj hf
        exact tc_ri X hP hD hS rfl dX12_placed_33 rfl rfl
      · have hf := tc_neg hc hf
        refine lv_iconst (v := (4 : Int32)) hx hb dX12_placed_28 (by decide) ?_
        refine lv_goto (tgt := 33) hx hb dX12_placed_29 (by decide) ?_
        obtain rfl := Option.some.inj hf
        exact tc_ri X hP hD hS rfl dX12_placed_33 rfl rfl
  · have hf := tc_neg hc hf
    refine lv_iload_n hx hb dX12_placed_10 rfl (lv_at hl 0 rfl) ?_
    refine lv_goto (tgt := 33) hx hb dX12_placed_11 (by decide) ?_
    obtain rfl := Option.some.inj hf
    exact tc_ri X hP hD hS rfl dX12_placed_33 rfl rfl
def fX12_write  (S : ms_T) (a1 : Int32) (a2 : Int32) (a3 : Int64) : Option (Int32 × ms_T) :=
  (fX12_placed (si S 1 (0 : Int32)) a1 a2).bind fun z1 =>
  if (gi (si (si S 1 (0 : Int32)) 0 z1) 0) ≤ 0 then
    if inb a1 4 = true then
      (fX12_trims (ia (si (si S 1 (0 : Int32)) 0 z1) 1 a1) a3).bind fun z3 =>
      if inb (((60 : Int32) * a1) + a2) 240 = true then
        some ((1 : Int32), sA (si (si S 1 (0 : Int32)) 0 z1) 3 (((60 : Int32) * a1) + a2) z3)
      else none
    else none
  else
    some ((0 : Int32), si (si S 1 (0 : Int32)) 0 z1)
abbrev rmX12_write : Room := { frames := 2, cells := 0, slots := 0, locals := 44 }
theorem okX12_write : tc_ok yX12_write cX12_write 5 (some .boolean) 3 := ⟨wc_X12_write, wn_X12, by decide, by decide, by decide +kernel⟩
set_option maxRecDepth 20000 in
theorem mX12_write {q : Nat → Nat}  {S : ms_T} {a1 : Int32} {a2 : Int32} {a3 : Int64} {z : Int32 × ms_T}  (hf : fX12_write S a1 a2 a3 = some z) : tc_MI l dC dI ca yX12_write cX12_write 5 (some .boolean) rmX12_write [.ref (q 0), .int (a1), .int (a2), .long (a3)] (w12 ca q S) (w12 ca q z.2) (z.1) := by
  refine tc_metI (own := RX12) (by decide) rfl ?_ (Nat.le_of_ble_eq_true rfl)
  intro p e s m below meth c A X hP hD hS ls hl
  obtain ⟨hx, hb, hr, hml, hown, hts, hlk, hK, hA, hG⟩ := id X
  unfold fX12_write at hf
  have hl : lv_has ls 5 [(0, .ref (q 0)), (1, .int (a1)), (2, .int (a2)), (3, .long (a3))] := hl
  refine lv_aload_n hx hb dX12_write_0 rfl (lv_at hl 0 rfl) ?_
  refine lv_iconst (v := (0 : Int32)) hx hb dX12_write_1 (by decide) ?_
  refine va_put (D := (dC, dI)) (ci := 12) (v := .int ((0 : Int32))) (ty := .int) (C := RX12) (T := TX12) (N := 49) hx hb hts i_X12 tyX12 tyX12_ok nmX12 hown hK hP hD hS 0 rfl rfl 1 (by decide) (hts _ wf_X12_63) (fun _ h9 => h9) rfl (tyX12_ok 1 (by decide)) rfl rfl (Nat.le_of_ble_eq_true rfl) dX12_write_2 (fun H locs hP hD hS => ?_)
  have hP := tc_eP (pw12_0_1 ca q S (0 : Int32)) hP
  have hD := tc_eD (pw12_0_1 ca q S (0 : Int32)) hD
  refine lv_aload_n hx hb dX12_write_5 rfl (lv_at hl 0 rfl) ?_
  refine lv_aload_n hx hb dX12_write_6 rfl (lv_at hl 0 rfl) ?_
  refine lv_iload_n hx hb dX12_write_7 rfl (lv_at hl 1 rfl) ?_
  refine lv_iload_n hx hb dX12_write_8 rfl (lv_at hl 2 rfl) ?_
  obtain ⟨z1, hg, hf⟩ := tc_bi hf
  refine tc_iVs (As := [.int (a1), .int (a2)]) (rest := [.ref (q 0)]) (b := q 0) X hP hD hS (mX12_placed hg) okX12_placed wl_X12_86 wi_X12_placed ws_X12_X12_placed_X12_placed ⟨rfl, rfl, Nat.le_of_ble_eq_true rfl, Nat.le_of_ble_eq_true rfl⟩ 12 0 rfl rfl rfl hl.1 (Nat.le_of_ble_eq_true rfl) dX12_write_9 (fun H locs hP hD hS => ?_)
  refine va_put (D := (dC, dI)) (ci := 12) (v := .int (z1)) (ty := .int) (C := RX12) (T := TX12) (N := 49) hx hb hts i_X12 tyX12 tyX12_ok nmX12 hown hK hP hD hS 0 rfl rfl 0 (by decide) (hts _ wf_X12_66) (fun _ h9 => h9) rfl (tyX12_ok 0 (by decide)) rfl rfl (Nat.le_of_ble_eq_true rfl) dX12_write_12 (fun H locs hP hD hS => ?_)
  have hP := tc_eP (pw12_0_0 ca q (si S 1 (0 : Int32)) z1) hP
  have hD := tc_eD (pw12_0_0 ca q (si S 1 (0 : Int32)) z1) hD
  refine lv_aload_n hx hb dX12_write_15 rfl (lv_at hl 0 rfl) ?_
  refine va_get (D := (dC, dI)) (ci := 12) (v := .int (gi (si (si S 1 (0 : Int32)) 0 z1) 0)) (C := RX12) (T := TX12) (N := 49) hx hb hts i_X12 hown hK hP 0 rfl rfl 0 (by decide) (hts _ wf_X12_66) (fun _ h9 => h9) rfl dX12_write_16 ?_
  refine lv_if_le (tgt := 24) hx hb dX12_write_19 (by decide) (fun hc => ?_) (fun hc => ?_)
  · have hf := tc_pos hc hf
    refine lv_aload_n hx hb dX12_write_24 rfl (lv_at hl 0 rfl) ?_
    refine va_get (D := (dC, dI)) (ci := 12) (v := .ref (q 3)) (C := RX12) (T := TX12) (N := 49) hx hb hts i_X12 hown hK hP 0 rfl rfl 6 (by decide) (hts _ wf_X12_20) (fun _ h9 => h9) rfl dX12_write_25 ?_
    refine lv_bipush (v := (60 : Int32)) hx hb dX12_write_28 (by decide) ?_
    refine lv_iload_n hx hb dX12_write_30 rfl (lv_at hl 1 rfl) ?_
    refine lv_imul hx hb dX12_write_31 ?_
    refine lv_iload_n hx hb dX12_write_32 rfl (lv_at hl 2 rfl) ?_
    refine lv_iadd hx hb dX12_write_33 ?_
    refine lv_aload_n hx hb dX12_write_34 rfl (lv_at hl 0 rfl) ?_
    refine va_get (D := (dC, dI)) (ci := 12) (v := .ref (q 1)) (C := RX12) (T := TX12) (N := 49) hx hb hts i_X12 hown hK hP 0 rfl rfl 4 (by decide) (hts _ wf_X12_13) (fun _ h9 => h9) rfl dX12_write_35 ?_
    refine lv_iload_n hx hb dX12_write_38 rfl (lv_at hl 1 rfl) ?_
    obtain ⟨hi2, hf⟩ := tc_in hf
    refine va_iald hx hb hK hP 1 1 rfl rfl hi2 dX12_write_39 ?_
    refine lv_lload_n hx hb dX12_write_40 rfl (lv_at hl 3 rfl) ?_
    obtain ⟨z3, hg, hf⟩ := tc_bi hf
    refine tc_lS0 (As := [.int (ia (si (si S 1 (0 : Int32)) 0 z1) 1 a1), .long (a3)]) (rest := [.int (((60 : Int32) * a1) + a2), .ref (q 3)]) X hP hD hS (mX12_trims hg) okX12_trims wl_X12_90 wt_X12_trims ⟨rfl, rfl, Nat.le_of_ble_eq_true rfl, Nat.le_of_ble_eq_true rfl⟩ rfl hl.1 (Nat.le_of_ble_eq_true rfl) dX12_write_41 (fun H locs hP hD hS => ?_)
    obtain ⟨hi4, hf⟩ := tc_in hf
    refine va_last hx hb hK hP hD hS 3 2 rfl rfl hi4 dX12_write_44 (fun H locs hP hD hS => ?_)
    have hP := tc_eP (aw12_0_3 ca q (si (si S 1 (0 : Int32)) 0 z1) (((60 : Int32) * a1) + a2) z3) hP
    have hD := tc_eD (aw12_0_3 ca q (si (si S 1 (0 : Int32)) 0 z1) (((60 : Int32) * a1) + a2) z3) hD
    refine lv_iconst (v := (1 : Int32)) hx hb dX12_write_45 (by decide) ?_
    obtain rfl := Option.some.inj hf
    exact tc_rz X hP hD hS rfl dX12_write_46 (by decide) rfl rfl
  · have hf := tc_neg hc hf
    refine lv_iconst (v := (0 : Int32)) hx hb dX12_write_22 (by decide) ?_
    obtain rfl := Option.some.inj hf
    exact tc_rz X hP hD hS rfl dX12_write_23 (by decide) rfl rfl
def fX12_read  (S : ms_T) (a1 : Int32) (a2 : Int32) : Option (Int64 × ms_T) :=
  (fX12_placed (si S 1 (0 : Int32)) a1 a2).bind fun z1 =>
  if (gi (si (si S 1 (0 : Int32)) 0 z1) 0) ≤ 0 then
    if inb (((60 : Int32) * a1) + a2) 240 = true then
      some (la (si (si S 1 (0 : Int32)) 0 z1) 3 (((60 : Int32) * a1) + a2), si (si S 1 (0 : Int32)) 0 z1)
    else none
  else
    some ((-1 : Int64), si (si S 1 (0 : Int32)) 0 z1)
abbrev rmX12_read : Room := { frames := 2, cells := 0, slots := 0, locals := 44 }
theorem okX12_read : tc_ok yX12_read cX12_read 3 (some .long) 2 := ⟨wc_X12_read, wn_X12, by decide, by decide, by decide +kernel⟩
set_option maxRecDepth 20000 in
theorem mX12_read {q : Nat → Nat}  {S : ms_T} {a1 : Int32} {a2 : Int32} {z : Int64 × ms_T}  (hf : fX12_read S a1 a2 = some z) : tc_ML l dC dI ca yX12_read cX12_read 3 (some .long) rmX12_read [.ref (q 0), .int (a1), .int (a2)] (w12 ca q S) (w12 ca q z.2) (z.1) := by
  refine tc_metL (own := RX12) (by decide) rfl ?_ (Nat.le_of_ble_eq_true rfl)
  intro p e s m below meth c A X hP hD hS ls hl
  obtain ⟨hx, hb, hr, hml, hown, hts, hlk, hK, hA, hG⟩ := id X
  unfold fX12_read at hf
  have hl : lv_has ls 3 [(0, .ref (q 0)), (1, .int (a1)), (2, .int (a2))] := hl
  refine lv_aload_n hx hb dX12_read_0 rfl (lv_at hl 0 rfl) ?_
  refine lv_iconst (v := (0 : Int32)) hx hb dX12_read_1 (by decide) ?_
  refine va_put (D := (dC, dI)) (ci := 12) (v := .int ((0 : Int32))) (ty := .int) (C := RX12) (T := TX12) (N := 49) hx hb hts i_X12 tyX12 tyX12_ok nmX12 hown hK hP hD hS 0 rfl rfl 1 (by decide) (hts _ wf_X12_63) (fun _ h9 => h9) rfl (tyX12_ok 1 (by decide)) rfl rfl (Nat.le_of_ble_eq_true rfl) dX12_read_2 (fun H locs hP hD hS => ?_)
  have hP := tc_eP (pw12_0_1 ca q S (0 : Int32)) hP
  have hD := tc_eD (pw12_0_1 ca q S (0 : Int32)) hD
  refine lv_aload_n hx hb dX12_read_5 rfl (lv_at hl 0 rfl) ?_
  refine lv_aload_n hx hb dX12_read_6 rfl (lv_at hl 0 rfl) ?_
  refine lv_iload_n hx hb dX12_read_7 rfl (lv_at hl 1 rfl) ?_
  refine lv_iload_n hx hb dX12_read_8 rfl (lv_at hl 2 rfl) ?_
  obtain ⟨z1, hg, hf⟩ := tc_bi hf
  refine tc_iVs (As := [.int (a1), .int (a2)]) (rest := [.ref (q 0)]) (b := q 0) X hP hD hS (mX12_placed hg) okX12_placed wl_X12_86 wi_X12_placed ws_X12_X12_placed_X12_placed ⟨rfl, rfl, Nat.le_of_ble_eq_true rfl, Nat.le_of_ble_eq_true rfl⟩ 12 0 rfl rfl rfl hl.1 (Nat.le_of_ble_eq_true rfl) dX12_read_9 (fun H locs hP hD hS => ?_)
  refine va_put (D := (dC, dI)) (ci := 12) (v := .int (z1)) (ty := .int) (C := RX12) (T := TX12) (N := 49) hx hb hts i_X12 tyX12 tyX12_ok nmX12 hown hK hP hD hS 0 rfl rfl 0 (by decide) (hts _ wf_X12_66) (fun _ h9 => h9) rfl (tyX12_ok 0 (by decide)) rfl rfl (Nat.le_of_ble_eq_true rfl) dX12_read_12 (fun H locs hP hD hS => ?_)
  have hP := tc_eP (pw12_0_0 ca q (si S 1 (0 : Int32)) z1) hP
  have hD := tc_eD (pw12_0_0 ca q (si S 1 (0 : Int32)) z1) hD
  refine lv_aload_n hx hb dX12_read_15 rfl (lv_at hl 0 rfl) ?_
  refine va_get (D := (dC, dI)) (ci := 12) (v := .int (gi (si (si S 1 (0 : Int32)) 0 z1) 0)) (C := RX12) (T := TX12) (N := 49) hx hb hts i_X12 hown hK hP 0 rfl rfl 0 (by decide) (hts _ wf_X12_66) (fun _ h9 => h9) rfl dX12_read_16 ?_
  refine lv_if_le (tgt := 28) hx hb dX12_read_19 (by decide) (fun hc => ?_) (fun hc => ?_)
  · have hf := tc_pos hc hf
    refine lv_aload_n hx hb dX12_read_28 rfl (lv_at hl 0 rfl) ?_
    refine va_get (D := (dC, dI)) (ci := 12) (v := .ref (q 3)) (C := RX12) (T := TX12) (N := 49) hx hb hts i_X12 hown hK hP 0 rfl rfl 6 (by decide) (hts _ wf_X12_20) (fun _ h9 => h9) rfl dX12_read_29 ?_
    refine lv_bipush (v := (60 : Int32)) hx hb dX12_read_32 (by decide) ?_
    refine lv_iload_n hx hb dX12_read_34 rfl (lv_at hl 1 rfl) ?_
    refine lv_imul hx hb dX12_read_35 ?_
    refine lv_iload_n hx hb dX12_read_36 rfl (lv_at hl 2 rfl) ?_
    refine lv_iadd hx hb dX12_read_37 ?_
    obtain ⟨hi2, hf⟩ := tc_in hf
    refine va_lald hx hb hK hP 3 2 rfl rfl hi2 dX12_read_38 ?_
    obtain rfl := Option.some.inj hf
    exact tc_rl X hP hD hS rfl dX12_read_39 rfl rfl
  · have hf := tc_neg hc hf
    refine lv_ldc2 (v := (-1 : Int64)) hx hb hown (hts _ wk_X12_94) dX12_read_22 ?_
    refine lv_goto (tgt := 39) hx hb dX12_read_25 (by decide) ?_
    obtain rfl := Option.some.inj hf
    exact tc_rl X hP hD hS rfl dX12_read_39 rfl rfl
def fX12_pour_28    (S : ms_T) : Option (Int32 × ms_T) :=
  (fX12_no S (1 : Int32)).bind fun z1 =>
  if z1.1 &&& 1 = z1.1 then
    some (z1.1, z1.2)
  else none
def fX12_pour_52    (S : ms_T) : Option (Int32 × ms_T) :=
  (fX12_no S (3 : Int32)).bind fun z3 =>
  if z3.1 &&& 1 = z3.1 then
    some (z3.1, z3.2)
  else none
def fX12_pour_136    (S : ms_T) : Option (Int32 × ms_T) :=
  (fX12_no S (4 : Int32)).bind fun z7 =>
  if z7.1 &&& 1 = z7.1 then
    some (z7.1, z7.2)
  else none
def fX12_pour_182   (k158 : ms_T → Int32 → Int32 → Int32 → Int32 → Int32 → Int32 → Int32 → Option (Int32 × ms_T)) (S : ms_T) (v1 : Int32) (v2 : Int32) (v3 : Int32) (v4 : Int32) (v5 : Int32) (v6 : Int32) (v7 : Int32) (t0 : Int32) : Option (Int32 × ms_T) :=
  if inb ((((60 : Int32) * v1) + v2) + t0) 240 = true then
    if inb ((((60 : Int32) * v3) + v4) + t0) 240 = true then
      k158 (sA S 3 ((((60 : Int32) * v3) + v4) + t0) (la S 3 ((((60 : Int32) * v1) + v2) + t0))) v1 v2 v3 v4 v5 v6 (v7 + (1 : Int32))
    else none
  else none
def fX12_pour_158    : Nat → ms_T → Int32 → Int32 → Int32 → Int32 → Int32 → Int32 → Int32 → Option (Int32 × ms_T)
  | 0, _, _, _, _, _, _, _, _ => none
  | n + 1, S, v1, v2, v3, v4, v5, v6, v7 =>
    if v5 ≤ v7 then
      some ((1 : Int32), S)
    else
      if v6 = 0 then
        fX12_pour_182 (fX12_pour_158 n) S v1 v2 v3 v4 v5 v6 v7 v7
      else
        fX12_pour_182 (fX12_pour_158 n) S v1 v2 v3 v4 v5 v6 v7 ((v5 - (1 : Int32)) - v7)
def fX12_pour  (S : ms_T) (a1 : Int32) (a2 : Int32) (a3 : Int32) (a4 : Int32) (a5 : Int32) : Option (Int32 × ms_T) :=
  if a1 < 0 then
    fX12_pour_28 (si (si S 1 (0 : Int32)) 0 (0 : Int32))
  else
    if (4 : Int32) ≤ a1 then
      fX12_pour_28 (si (si S 1 (0 : Int32)) 0 (0 : Int32))
    else
      if a3 < 0 then
        fX12_pour_28 (si (si S 1 (0 : Int32)) 0 (0 : Int32))
      else
        if a3 < (4 : Int32) then
          if inb a1 4 = true then
            if (ia (si (si S 1 (0 : Int32)) 0 (0 : Int32)) 2 a1) < 0 then
              fX12_pour_52 (si (si S 1 (0 : Int32)) 0 (0 : Int32))
            else
              if inb a3 4 = true then
                if 0 ≤ (ia (si (si S 1 (0 : Int32)) 0 (0 : Int32)) 2 a3) then
                  if inb a1 4 = true then
                    if inb a3 4 = true then
                      if (ia (si (si S 1 (0 : Int32)) 0 (0 : Int32)) 1 a1) = (ia (si (si S 1 (0 : Int32)) 0 (0 : Int32)) 1 a3) then
                        if 0 ≤ a5 then
                          if a2 < 0 then
                            fX12_pour_136 (si (si S 1 (0 : Int32)) 0 (0 : Int32))
                          else
                            if a4 < 0 then
                              fX12_pour_136 (si (si S 1 (0 : Int32)) 0 (0 : Int32))
                            else
                              if inb a1 4 = true then
                                if 0 < (lg_cmp (a2.toInt64 + a5.toInt64) ((ia (si (si S 1 (0 : Int32)) 0 (0 : Int32)) 2 a1).toInt64)) then
                                  fX12_pour_136 (si (si S 1 (0 : Int32)) 0 (0 : Int32))
                                else
                                  if inb a3 4 = true then
                                    if (lg_cmp (a4.toInt64 + a5.toInt64) ((ia (si (si S 1 (0 : Int32)) 0 (0 : Int32)) 2 a3).toInt64)) ≤ 0 then
                                      if a4 ≤ a2 then
                                        fX12_pour_158 FU (si (si S 1 (0 : Int32)) 0 (0 : Int32)) a1 a2 a3 a4 a5 (0 : Int32) (0 : Int32)
                                      else
                                        fX12_pour_158 FU (si (si S 1 (0 : Int32)) 0 (0 : Int32)) a1 a2 a3 a4 a5 (1 : Int32) (0 : Int32)
                                    else
                                      fX12_pour_136 (si (si S 1 (0 : Int32)) 0 (0 : Int32))
                                  else none
                              else none
                        else
                          (fX12_no (si (si S 1 (0 : Int32)) 0 (0 : Int32)) (6 : Int32)).bind fun z12 =>
                          if z12.1 &&& 1 = z12.1 then
                            some (z12.1, z12.2)
                          else none
                      else
                        (fX12_no (si (si S 1 (0 : Int32)) 0 (0 : Int32)) (11 : Int32)).bind fun z13 =>
                        if z13.1 &&& 1 = z13.1 then
                          some (z13.1, z13.2)
                        else none
                    else none
                  else none
                else
                  fX12_pour_52 (si (si S 1 (0 : Int32)) 0 (0 : Int32))
              else none
          else none
        else
          fX12_pour_28 (si (si S 1 (0 : Int32)) 0 (0 : Int32))
abbrev rmX12_pour : Room := { frames := 1, cells := 0, slots := 0, locals := 21 }
theorem okX12_pour : tc_ok yX12_pour cX12_pour 9 (some .boolean) 5 := ⟨wc_X12_pour, wn_X12, by decide, by decide, by decide +kernel⟩
set_option maxRecDepth 20000 in
theorem tX12_pour_28 {q : Nat → Nat}  (X : tc_X dC dI ca A RX12 cX12_pour 9 (some .boolean) p s m args meth c) (z : Int32 × ms_T)     : ∀ (S : ms_T), fX12_pour_28 S = some z → ∀ (H : Heap) (locs : List Loc) (ls : Array Slot), va_P (dC, dI) classes (w12 ca q S) H → va_D A (w12 ca q S) → va_S A s.heap H locs → lv_has ls 9 [(0, .ref (q 0))] → W p l e rmX12_pour s m args below meth c H locs 0 0 (MQ below (tc_QI dC dI ca A (w12 ca q z.2) (z.1)) args s 0 0 A) (F0 m 28 ls []) := by
  obtain ⟨hx, hb, hr, hml, hown, hts, hlk, hK, hA, hG⟩ := id X
  intro S hf H locs ls hP hD hS hl
  unfold fX12_pour_28 at hf
  refine lv_aload_n hx hb dX12_pour_28 rfl (lv_at hl 0 rfl) ?_
  refine lv_iconst (v := (1 : Int32)) hx hb dX12_pour_29 (by decide) ?_
  obtain ⟨z1, hg, hf⟩ := tc_bi hf
  refine tc_iVs (As := [.int ((1 : Int32))]) (rest := []) (b := q 0) X hP hD hS (mX12_no hg) okX12_no wl_X12_78 wi_X12_no ws_X12_X12_no_X12_no ⟨rfl, rfl, Nat.le_of_ble_eq_true rfl, Nat.le_of_ble_eq_true rfl⟩ 12 0 rfl rfl rfl hl.1 (Nat.le_of_ble_eq_true rfl) dX12_pour_30 (fun H locs hP hD hS => ?_)
  obtain ⟨hz1, hf⟩ := tc_ck hf
  obtain rfl := Option.some.inj hf
  exact tc_rz X hP hD hS rfl dX12_pour_33 hz1 rfl rfl
set_option maxRecDepth 20000 in
theorem tX12_pour_52 {q : Nat → Nat}  (X : tc_X dC dI ca A RX12 cX12_pour 9 (some .boolean) p s m args meth c) (z : Int32 × ms_T)     : ∀ (S : ms_T), fX12_pour_52 S = some z → ∀ (H : Heap) (locs : List Loc) (ls : Array Slot), va_P (dC, dI) classes (w12 ca q S) H → va_D A (w12 ca q S) → va_S A s.heap H locs → lv_has ls 9 [(0, .ref (q 0))] → W p l e rmX12_pour s m args below meth c H locs 0 0 (MQ below (tc_QI dC dI ca A (w12 ca q z.2) (z.1)) args s 0 0 A) (F0 m 52 ls []) := by
  obtain ⟨hx, hb, hr, hml, hown, hts, hlk, hK, hA, hG⟩ := id X
  intro S hf H locs ls hP hD hS hl
  unfold fX12_pour_52 at hf
  refine lv_aload_n hx hb dX12_pour_52 rfl (lv_at hl 0 rfl) ?_
  refine lv_iconst (v := (3 : Int32)) hx hb dX12_pour_53 (by decide) ?_
  obtain ⟨z3, hg, hf⟩ := tc_bi hf
  refine tc_iVs (As := [.int ((3 : Int32))]) (rest := []) (b := q 0) X hP hD hS (mX12_no hg) okX12_no wl_X12_78 wi_X12_no ws_X12_X12_no_X12_no ⟨rfl, rfl, Nat.le_of_ble_eq_true rfl, Nat.le_of_ble_eq_true rfl⟩ 12 0 rfl rfl rfl hl.1 (Nat.le_of_ble_eq_true rfl) dX12_pour_54 (fun H locs hP hD hS => ?_)
  obtain ⟨hz1, hf⟩ := tc_ck hf
  obtain rfl := Option.some.inj hf
  exact tc_rz X hP hD hS rfl dX12_pour_57 hz1 rfl rfl
set_option maxRecDepth 20000 in
theorem tX12_pour_136 {q : Nat → Nat}  (X : tc_X dC dI ca A RX12 cX12_pour 9 (some .boolean) p s m args meth c) (z : Int32 × ms_T)     : ∀ (S : ms_T), fX12_pour_136 S = some z → ∀ (H : Heap) (locs : List Loc) (ls : Array Slot), va_P (dC, dI) classes (w12 ca q S) H → va_D A (w12 ca q S) → va_S A s.heap H locs → lv_has ls 9 [(0, .ref (q 0))] → W p l e rmX12_pour s m args below meth c H locs 0 0 (MQ below (tc_QI dC dI ca A (w12 ca q z.2) (z.1)) args s 0 0 A) (F0 m 136 ls []) := by
  obtain ⟨hx, hb, hr, hml, hown, hts, hlk, hK, hA, hG⟩ := id X
  intro S hf H locs ls hP hD hS hl
  unfold fX12_pour_136 at hf
  refine lv_aload_n hx hb dX12_pour_136 rfl (lv_at hl 0 rfl) ?_
  refine lv_iconst (v := (4 : Int32)) hx hb dX12_pour_137 (by decide) ?_
  obtain ⟨z7, hg, hf⟩ := tc_bi hf
  refine tc_iVs (As := [.int ((4 : Int32))]) (rest := []) (b := q 0) X hP hD hS (mX12_no hg) okX12_no wl_X12_78 wi_X12_no ws_X12_X12_no_X12_no ⟨rfl, rfl, Nat.le_of_ble_eq_true rfl, Nat.le_of_ble_eq_true rfl⟩ 12 0 rfl rfl rfl hl.1 (Nat.le_of_ble_eq_true rfl) dX12_pour_138 (fun H locs hP hD hS => ?_)
  obtain ⟨hz1, hf⟩ := tc_ck hf
  obtain rfl := Option.some.inj hf
  exact tc_rz X hP hD hS rfl dX12_pour_141 hz1 rfl rfl
set_option maxRecDepth 20000 in
theorem tX12_pour_182 {q : Nat → Nat}  (X : tc_X dC dI ca A RX12 cX12_pour 9 (some .boolean) p s m args meth c) (z : Int32 × ms_T)   (k158 : ms_T → Int32 → Int32 → Int32 → Int32 → Int32 → Int32 → Int32 → Option (Int32 × ms_T)) (hk158 : ∀ (S : ms_T) (v1 : Int32) (v2 : Int32) (v3 : Int32) (v4 : Int32) (v5 : Int32) (v6 : Int32) (v7 : Int32), k158 S v1 v2 v3 v4 v5 v6 v7 = some z → ∀ (H : Heap) (locs : List Loc) (ls : Array Slot), va_P (dC, dI) classes (w12 ca q S) H → va_D A (w12 ca q S) → va_S A s.heap H locs → lv_has ls 9 [(0, .ref (q 0)), (1, .int (v1)), (2, .int (v2)), (3, .int (v3)), (4, .int (v4)), (5, .int (v5)), (6, .int (v6)), (7, .int (v7))] → W p l e rmX12_pour s m args below meth c H locs 0 0 (MQ below (tc_QI dC dI ca A (w12 ca q z.2) (z.1)) args s 0 0 A) (F0 m 158 ls [])) : ∀ (S : ms_T) (v1 : Int32) (v2 : Int32) (v3 : Int32) (v4 : Int32) (v5 : Int32) (v6 : Int32) (v7 : Int32) (t0 : Int32), fX12_pour_182 k158 S v1 v2 v3 v4 v5 v6 v7 t0 = some z → ∀ (H : Heap) (locs : List Loc) (ls : Array Slot), va_P (dC, dI) classes (w12 ca q S) H → va_D A (w12 ca q S) → va_S A s.heap H locs → lv_has ls 9 [(0, .ref (q 0)), (1, .int (v1)), (2, .int (v2)), (3, .int (v3)), (4, .int (v4)), (5, .int (v5)), (6, .int (v6)), (7, .int (v7))] → W p l e rmX12_pour s m args below meth c H locs 0 0 (MQ below (tc_QI dC dI ca A (w12 ca q z.2) (z.1)) args s 0 0 A) (F0 m 182 ls [.int (t0)]) := by
  obtain ⟨hx, hb, hr, hml, hown, hts, hlk, hK, hA, hG⟩ := id X
  intro S v1 v2 v3 v4 v5 v6 v7 t0 hf H locs ls hP hD hS hl
  unfold fX12_pour_182 at hf
  refine lv_istore (lv' := [(8, .int (t0)), (0, .ref (q 0)), (1, .int (v1)), (2, .int (v2)), (3, .int (v3)), (4, .int (v4)), (5, .int (v5)), (6, .int (v6)), (7, .int (v7))]) hx hb dX12_pour_182 hl (by decide) rfl (fun ls hl => ?_)
  refine lv_aload_n hx hb dX12_pour_184 rfl (lv_at hl 1 rfl) ?_
  refine va_get (D := (dC, dI)) (ci := 12) (v := .ref (q 3)) (C := RX12) (T := TX12) (N := 49) hx hb hts i_X12 hown hK hP 0 rfl rfl 6 (by decide) (hts _ wf_X12_20) (fun _ h9 => h9) rfl dX12_pour_185 ?_
  refine lv_bipush (v := (60 : Int32)) hx hb dX12_pour_188 (by decide) ?_
  refine lv_iload_n hx hb dX12_pour_190 rfl (lv_at hl 4 rfl) ?_
  refine lv_imul hx hb dX12_pour_191 ?_
  refine lv_iload hx hb dX12_pour_192 (lv_at hl 5 rfl) ?_
  refine lv_iadd hx hb dX12_pour_194 ?_
  refine lv_iload hx hb dX12_pour_195 (lv_at hl 0 rfl) ?_
  refine lv_iadd hx hb dX12_pour_197 ?_
  refine lv_aload_n hx hb dX12_pour_198 rfl (lv_at hl 1 rfl) ?_
  refine va_get (D := (dC, dI)) (ci := 12) (v := .ref (q 3)) (C := RX12) (T := TX12) (N := 49) hx hb hts i_X12 hown hK hP 0 rfl rfl 6 (by decide) (hts _ wf_X12_20) (fun _ h9 => h9) rfl dX12_pour_199 ?_
  refine lv_bipush (v := (60 : Int32)) hx hb dX12_pour_202 (by decide) ?_
  refine lv_iload_n hx hb dX12_pour_204 rfl (lv_at hl 2 rfl) ?_
  refine lv_imul hx hb dX12_pour_205 ?_
  refine lv_iload_n hx hb dX12_pour_206 rfl (lv_at hl 3 rfl) ?_
  refine lv_iadd hx hb dX12_pour_207 ?_
  refine lv_iload hx hb dX12_pour_208 (lv_at hl 0 rfl) ?_
  refine lv_iadd hx hb dX12_pour_210 ?_
  obtain ⟨hi10, hf⟩ := tc_in hf
  refine va_lald hx hb hK hP 3 2 rfl rfl hi10 dX12_pour_211 ?_
  obtain ⟨hi11, hf⟩ := tc_in hf
  refine va_last hx hb hK hP hD hS 3 2 rfl rfl hi11 dX12_pour_212 (fun H locs hP hD hS => ?_)
  have hP := tc_eP (aw12_0_3 ca q S ((((60 : Int32) * v3) + v4) + t0) (la S 3 ((((60 : Int32) * v1) + v2) + t0))) hP
  have hD := tc_eD (aw12_0_3 ca q S ((((60 : Int32) * v3) + v4) + t0) (la S 3 ((((60 : Int32) * v1) + v2) + t0))) hD
  refine lv_iinc (v := v7 + (1 : Int32)) (lv' := [(7, .int (v7 + (1 : Int32))), (8, .int (t0)), (0, .ref (q 0)), (1, .int (v1)), (2, .int (v2)), (3, .int (v3)), (4, .int (v4)), (5, .int (v5)), (6, .int (v6))]) hx hb dX12_pour_213 hl (k := 8) rfl rfl (by decide) rfl (fun ls hl => ?_)
  refine lv_goto (tgt := 158) hx hb dX12_pour_216 (by decide) ?_
  exact hk158 (sA S 3 ((((60 : Int32) * v3) + v4) + t0) (la S 3 ((((60 : Int32) * v1) + v2) + t0))) v1 v2 v3 v4 v5 v6 (v7 + (1 : Int32)) hf _ _ _ hP hD hS (lv_sub hl [2, 3, 4, 5, 6, 7, 8, 0] rfl)
set_option maxRecDepth 20000 in
theorem tX12_pour_158 {q : Nat → Nat}  (X : tc_X dC dI ca A RX12 cX12_pour 9 (some .boolean) p s m args meth c) (z : Int32 × ms_T)     : ∀ n : Nat, ∀ (S : ms_T) (v1 : Int32) (v2 : Int32) (v3 : Int32) (v4 : Int32) (v5 : Int32) (v6 : Int32) (v7 : Int32), fX12_pour_158 n S v1 v2 v3 v4 v5 v6 v7 = some z → ∀ (H : Heap) (locs : List Loc) (ls : Array Slot), va_P (dC, dI) classes (w12 ca q S) H → va_D A (w12 ca q S) → va_S A s.heap H locs → lv_has ls 9 [(0, .ref (q 0)), (1, .int (v1)), (2, .int (v2)), (3, .int (v3)), (4, .int (v4)), (5, .int (v5)), (6, .int (v6)), (7, .int (v7))] → W p l e rmX12_pour s m args below meth c H locs 0 0 (MQ below (tc_QI dC dI ca A (w12 ca q z.2) (z.1)) args s 0 0 A) (F0 m 158 ls []) := by
  obtain ⟨hx, hb, hr, hml, hown, hts, hlk, hK, hA, hG⟩ := id X
  intro n
  induction n with
  | zero => intro S v1 v2 v3 v4 v5 v6 v7 hf; exact absurd (show none = some z from hf) (fun h => by cases h)
  | succ n ih =>
    intro S v1 v2 v3 v4 v5 v6 v7 hf H locs ls hP hD hS hl
    rw [fX12_pour_158] at hf
    refine lv_iload hx hb dX12_pour_158 (lv_at hl 7 rfl) ?_
    refine lv_iload hx hb dX12_pour_160 (lv_at hl 5 rfl) ?_
    refine lv_icmp_ge (tgt := 219) hx hb dX12_pour_162 (by decide) (fun hc => ?_) (fun hc => ?_)
    · have hf := tc_pos hc hf
      refine lv_iconst (v := (1 : Int32)) hx hb dX12_pour_219 (by decide) ?_
      obtain rfl := Option.some.inj hf
      exact tc_rz X hP hD hS rfl dX12_pour_220 (by decide) rfl rfl
    · have hf := tc_neg hc hf
      refine lv_iload hx hb dX12_pour_165 (lv_at hl 6 rfl) ?_
      refine lv_if_eq (tgt := 180) hx hb dX12_pour_167 (by decide) (fun hc => ?_) (fun hc => ?_)
      · have hf := tc_pos hc hf
        refine lv_iload hx hb dX12_pour_180 (lv_at hl 7 rfl) ?_
        exact tX12_pour_182 X z (fX12_pour_158 n) ih S v1 v2 v3 v4 v5 v6 v7 v7 hf _ _ _ hP hD hS (lv_sub hl [0, 1, 2, 3, 4, 5, 6, 7] rfl)
      · have hf := tc_neg hc hf
        refine lv_iload hx hb dX12_pour_170 (lv_at hl 5 rfl) ?_
        refine lv_iconst (v := (1 : Int32)) hx hb dX12_pour_172 (by decide) ?_
        refine lv_isub hx hb dX12_pour_173 ?_
        refine lv_iload hx hb dX12_pour_174 (lv_at hl 7 rfl) ?_
        refine lv_isub hx hb dX12_pour_176 ?_
        refine lv_goto (tgt := 182) hx hb dX12_pour_177 (by decide) ?_
        exact tX12_pour_182 X z (fX12_pour_158 n) ih S v1 v2 v3 v4 v5 v6 v7 ((v5 - (1 : Int32)) - v7) hf _ _ _ hP hD hS (lv_sub hl [0, 1, 2, 3, 4, 5, 6, 7] rfl)
set_option maxRecDepth 20000 in
theorem mX12_pour {q : Nat → Nat}  {S : ms_T} {a1 : Int32} {a2 : Int32} {a3 : Int32} {a4 : Int32} {a5 : Int32} {z : Int32 × ms_T}  (hf : fX12_pour S a1 a2 a3 a4 a5 = some z) : tc_MI l dC dI ca yX12_pour cX12_pour 9 (some .boolean) rmX12_pour [.ref (q 0), .int (a1), .int (a2), .int (a3), .int (a4), .int (a5)] (w12 ca q S) (w12 ca q z.2) (z.1) := by
  refine tc_metI (own := RX12) (by decide) rfl ?_ (Nat.le_of_ble_eq_true rfl)
  intro p e s m below meth c A X hP hD hS ls hl
  obtain ⟨hx, hb, hr, hml, hown, hts, hlk, hK, hA, hG⟩ := id X
  unfold fX12_pour at hf
  have hl : lv_has ls 9 [(0, .ref (q 0)), (1, .int (a1)), (2, .int (a2)), (3, .int (a3)), (4, .int (a4)), (5, .int (a5))] := hl
  refine lv_aload_n hx hb dX12_pour_0 rfl (lv_at hl 0 rfl) ?_
  refine lv_iconst (v := (0 : Int32)) hx hb dX12_pour_1 (by decide) ?_
  refine va_put (D := (dC, dI)) (ci := 12) (v := .int ((0 : Int32))) (ty := .int) (C := RX12) (T := TX12) (N := 49) hx hb hts i_X12 tyX12 tyX12_ok nmX12 hown hK hP hD hS 0 rfl rfl 1 (by decide) (hts _ wf_X12_63) (fun _ h9 => h9) rfl (tyX12_ok 1 (by decide)) rfl rfl (Nat.le_of_ble_eq_true rfl) dX12_pour_2 (fun H locs hP hD hS => ?_)
  have hP := tc_eP (pw12_0_1 ca q S (0 : Int32)) hP
  have hD := tc_eD (pw12_0_1 ca q S (0 : Int32)) hD
  refine lv_aload_n hx hb dX12_pour_5 rfl (lv_at hl 0 rfl) ?_
  refine lv_iconst (v := (0 : Int32)) hx hb dX12_pour_6 (by decide) ?_
  refine va_put (D := (dC, dI)) (ci := 12) (v := .int ((0 : Int32))) (ty := .int) (C := RX12) (T := TX12) (N := 49) hx hb hts i_X12 tyX12 tyX12_ok nmX12 hown hK hP hD hS 0 rfl rfl 0 (by decide) (hts _ wf_X12_66) (fun _ h9 => h9) rfl (tyX12_ok 0 (by decide)) rfl rfl (Nat.le_of_ble_eq_true rfl) dX12_pour_7 (fun H locs hP hD hS => ?_)
  have hP := tc_eP (pw12_0_0 ca q (si S 1 (0 : Int32)) (0 : Int32)) hP
  have hD := tc_eD (pw12_0_0 ca q (si S 1 (0 : Int32)) (0 : Int32)) hD
  refine lv_iload_n hx hb dX12_pour_10 rfl (lv_at hl 1 rfl) ?_
  refine lv_if_lt (tgt := 28) hx hb dX12_pour_11 (by decide) (fun hc => ?_) (fun hc => ?_)
  · have hf := tc_pos hc hf
    exact tX12_pour_28 X z (si (si S 1 (0 : Int32)) 0 (0 : Int32)) hf _ _ _ hP hD hS (lv_sub hl [0] rfl)
  · have hf := tc_neg hc hf
    refine lv_iload_n hx hb dX12_pour_14 rfl (lv_at hl 1 rfl) ?_
    refine lv_iconst (v := (4 : Int32)) hx hb dX12_pour_15 (by decide) ?_
    refine lv_icmp_ge (tgt := 28) hx hb dX12_pour_16 (by decide) (fun hc => ?_) (fun hc => ?_)
    · have hf := tc_pos hc hf
      exact tX12_pour_28 X z (si (si S 1 (0 : Int32)) 0 (0 : Int32)) hf _ _ _ hP hD hS (lv_sub hl [0] rfl)
    · have hf := tc_neg hc hf
      refine lv_iload_n hx hb dX12_pour_19 rfl (lv_at hl 3 rfl) ?_
      refine lv_if_lt (tgt := 28) hx hb dX12_pour_20 (by decide) (fun hc => ?_) (fun hc => ?_)
      · have hf := tc_pos hc hf
        exact tX12_pour_28 X z (si (si S 1 (0 : Int32)) 0 (0 : Int32)) hf _ _ _ hP hD hS (lv_sub hl [0] rfl)
      · have hf := tc_neg hc hf
        refine lv_iload_n hx hb dX12_pour_23 rfl (lv_at hl 3 rfl) ?_
        refine lv_iconst (v := (4 : Int32)) hx hb dX12_pour_24 (by decide) ?_
        refine lv_icmp_lt (tgt := 34) hx hb dX12_pour_25 (by decide) (fun hc => ?_) (fun hc => ?_)
        · have hf := tc_pos hc hf
          refine lv_aload_n hx hb dX12_pour_34 rfl (lv_at hl 0 rfl) ?_
          refine va_get (D := (dC, dI)) (ci := 12) (v := .ref (q 2)) (C := RX12) (T := TX12) (N := 49) hx hb hts i_X12 hown hK hP 0 rfl rfl 5 (by decide) (hts _ wf_X12_17) (fun _ h9 => h9) rfl dX12_pour_35 ?_
          refine lv_iload_n hx hb dX12_pour_38 rfl (lv_at hl 1 rfl) ?_
          obtain ⟨hi2, hf⟩ := tc_in hf
          refine va_iald hx hb hK hP 2 1 rfl rfl hi2 dX12_pour_39 ?_
          refine lv_if_lt (tgt := 52) hx hb dX12_pour_40 (by decide) (fun hc => ?_) (fun hc => ?_)
          · have hf := tc_pos hc hf
            exact tX12_pour_52 X z (si (si S 1 (0 : Int32)) 0 (0 : Int32)) hf _ _ _ hP hD hS (lv_sub hl [0] rfl)
          · have hf := tc_neg hc hf
            refine lv_aload_n hx hb dX12_pour_43 rfl (lv_at hl 0 rfl) ?_
            refine va_get (D := (dC, dI)) (ci := 12) (v := .ref (q 2)) (C := RX12) (T := TX12) (N := 49) hx hb hts i_X12 hown hK hP 0 rfl rfl 5 (by decide) (hts _ wf_X12_17) (fun _ h9 => h9) rfl dX12_pour_44 ?_
            refine lv_iload_n hx hb dX12_pour_47 rfl (lv_at hl 3 rfl) ?_
            obtain ⟨hi4, hf⟩ := tc_in hf
            refine va_iald hx hb hK hP 2 1 rfl rfl hi4 dX12_pour_48 ?_
            refine lv_if_ge (tgt := 58) hx hb dX12_pour_49 (by decide) (fun hc => ?_) (fun hc => ?_)
            · have hf := tc_pos hc hf
              refine lv_aload_n hx hb dX12_pour_58 rfl (lv_at hl 0 rfl) ?_
              refine va_get (D := (dC, dI)) (ci := 12) (v := .ref (q 1)) (C := RX12) (T := TX12) (N := 49) hx hb hts i_X12 hown hK hP 0 rfl rfl 4 (by decide) (hts _ wf_X12_13) (fun _ h9 => h9) rfl dX12_pour_59 ?_
              refine lv_iload_n hx hb dX12_pour_62 rfl (lv_at hl 1 rfl) ?_
              obtain ⟨hi5, hf⟩ := tc_in hf
              refine va_iald hx hb hK hP 1 1 rfl rfl hi5 dX12_pour_63 ?_
              refine lv_aload_n hx hb dX12_pour_64 rfl (lv_at hl 0 rfl) ?_
              refine va_get (D := (dC, dI)) (ci := 12) (v := .ref (q 1)) (C := RX12) (T := TX12) (N := 49) hx hb hts i_X12 hown hK hP 0 rfl rfl 4 (by decide) (hts _ wf_X12_13) (fun _ h9 => h9) rfl dX12_pour_65 ?_
              refine lv_iload_n hx hb dX12_pour_68 rfl (lv_at hl 3 rfl) ?_
              obtain ⟨hi6, hf⟩ := tc_in hf
              refine va_iald hx hb hK hP 1 1 rfl rfl hi6 dX12_pour_69 ?_
              refine lv_icmp_eq (tgt := 80) hx hb dX12_pour_70 (by decide) (fun hc => ?_) (fun hc => ?_)
              · have hf := tc_pos hc hf
                refine lv_iload hx hb dX12_pour_80 (lv_at hl 5 rfl) ?_
                refine lv_if_ge (tgt := 92) hx hb dX12_pour_82 (by decide) (fun hc => ?_) (fun hc => ?_)
                · have hf := tc_pos hc hf
                  refine lv_iload_n hx hb dX12_pour_92 rfl (lv_at hl 2 rfl) ?_
                  refine lv_if_lt (tgt := 136) hx hb dX12_pour_93 (by decide) (fun hc => ?_) (fun hc => ?_)
                  · have hf := tc_pos hc hf
                    exact tX12_pour_136 X z (si (si S 1 (0 : Int32)) 0 (0 : Int32)) hf _ _ _ hP hD hS (lv_sub hl [0] rfl)
                  · have hf := tc_neg hc hf
                    refine lv_iload hx hb dX12_pour_96 (lv_at hl 4 rfl) ?_
                    refine lv_if_lt (tgt := 136) hx hb dX12_pour_98 (by decide) (fun hc => ?_) (fun hc => ?_)
                    · have hf := tc_pos hc hf
                      exact tX12_pour_136 X z (si (si S 1 (0 : Int32)) 0 (0 : Int32)) hf _ _ _ hP hD hS (lv_sub hl [0] rfl)
                    · have hf := tc_neg hc hf
                      refine lv_iload_n hx hb dX12_pour_101 rfl (lv_at hl 2 rfl) ?_
                      refine lv_i2l (v := a2.toInt64) hx hb dX12_pour_102 rfl ?_
                      refine lv_iload hx hb dX12_pour_103 (lv_at hl 5 rfl) ?_
                      refine lv_i2l (v := a5.toInt64) hx hb dX12_pour_105 rfl ?_
                      refine lv_ladd hx hb dX12_pour_106 ?_
                      refine lv_aload_n hx hb dX12_pour_107 rfl (lv_at hl 0 rfl) ?_
                      refine va_get (D := (dC, dI)) (ci := 12) (v := .ref (q 2)) (C := RX12) (T := TX12) (N := 49) hx hb hts i_X12 hown hK hP 0 rfl rfl 5 (by decide) (hts _ wf_X12_17) (fun _ h9 => h9) rfl dX12_pour_108 ?_
                      refine lv_iload_n hx hb dX12_pour_111 rfl (lv_at hl 1 rfl) ?_
                      obtain ⟨hi8, hf⟩ := tc_in hf
                      refine va_iald hx hb hK hP 2 1 rfl rfl hi8 dX12_pour_112 ?_
                      refine lv_i2l (v := (ia (si (si S 1 (0 : Int32)) 0 (0 : Int32)) 2 a1).toInt64) hx hb dX12_pour_113 rfl ?_
                      refine W.lcmp hx hb dX12_pour_114 ?_
                      refine lv_if_gt (tgt := 136) hx hb dX12_pour_115 (by decide) (fun hc => ?_) (fun hc => ?_)
                      · have hf := tc_pos hc hf
                        exact tX12_pour_136 X z (si (si S 1 (0 : Int32)) 0 (0 : Int32)) hf _ _ _ hP hD hS (lv_sub hl [0] rfl)
                      · have hf := tc_neg hc hf
                        refine lv_iload hx hb dX12_pour_118 (lv_at hl 4 rfl) ?_
                        refine lv_i2l (v := a4.toInt64) hx hb dX12_pour_120 rfl ?_
                        refine lv_iload hx hb dX12_pour_121 (lv_at hl 5 rfl) ?_
                        refine lv_i2l (v := a5.toInt64) hx hb dX12_pour_123 rfl ?_
                        refine lv_ladd hx hb dX12_pour_124 ?_
                        refine lv_aload_n hx hb dX12_pour_125 rfl (lv_at hl 0 rfl) ?_
                        refine va_get (D := (dC, dI)) (ci := 12) (v := .ref (q 2)) (C := RX12) (T := TX12) (N := 49) hx hb hts i_X12 hown hK hP 0 rfl rfl 5 (by decide) (hts _ wf_X12_17) (fun _ h9 => h9) rfl dX12_pour_126 ?_
                        refine lv_iload_n hx hb dX12_pour_129 rfl (lv_at hl 3 rfl) ?_
                        obtain ⟨hi9, hf⟩ := tc_in hf
                        refine va_iald hx hb hK hP 2 1 rfl rfl hi9 dX12_pour_130 ?_
                        refine lv_i2l (v := (ia (si (si S 1 (0 : Int32)) 0 (0 : Int32)) 2 a3).toInt64) hx hb dX12_pour_131 rfl ?_
                        refine W.lcmp hx hb dX12_pour_132 ?_
                        refine lv_if_le (tgt := 142) hx hb dX12_pour_133 (by decide) (fun hc => ?_) (fun hc => ?_)
                        · have hf := tc_pos hc hf
                          refine lv_iload_n hx hb dX12_pour_142 rfl (lv_at hl 2 rfl) ?_
                          refine lv_iload hx hb dX12_pour_143 (lv_at hl 4 rfl) ?_
                          refine lv_icmp_ge (tgt := 152) hx hb dX12_pour_145 (by decide) (fun hc => ?_) (fun hc => ?_)
                          · have hf := tc_pos hc hf
                            refine lv_iconst (v := (0 : Int32)) hx hb dX12_pour_152 (by decide) ?_
                            refine lv_istore (lv' := [(6, .int ((0 : Int32))), (0, .ref (q 0)), (1, .int (a1)), (2, .int (a2)), (3, .int (a3)), (4, .int (a4)), (5, .int (a5))]) hx hb dX12_pour_153 hl (by decide) rfl (fun ls hl => ?_)
                            refine lv_iconst (v := (0 : Int32)) hx hb dX12_pour_155 (by decide) ?_
                            refine lv_istore (lv' := [(7, .int ((0 : Int32))), (6, .int ((0 : Int32))), (0, .ref (q 0)), (1, .int (a1)), (2, .int (a2)), (3, .int (a3)), (4, .int (a4)), (5, .int (a5))]) hx hb dX12_pour_156 hl (by decide) rfl (fun ls hl => ?_)
                            exact tX12_pour_158 X z FU (si (si S 1 (0 : Int32)) 0 (0 : Int32)) a1 a2 a3 a4 a5 (0 : Int32) (0 : Int32) hf _ _ _ hP hD hS (lv_sub hl [2, 3, 4, 5, 6, 7, 1, 0] rfl)
                          · have hf := tc_neg hc hf
                            refine lv_iconst (v := (1 : Int32)) hx hb dX12_pour_148 (by decide) ?_
                            refine lv_goto (tgt := 153) hx hb dX12_pour_149 (by decide) ?_
                            refine lv_istore (lv' := [(6, .int ((1 : Int32))), (0, .ref (q 0)), (1, .int (a1)), (2, .int (a2)), (3, .int (a3)), (4, .int (a4)), (5, .int (a5))]) hx hb dX12_pour_153 hl (by decide) rfl (fun ls hl => ?_)
                            refine lv_iconst (v := (0 : Int32)) hx hb dX12_pour_155 (by decide) ?_
                            refine lv_istore (lv' := [(7, .int ((0 : Int32))), (6, .int ((1 : Int32))), (0, .ref (q 0)), (1, .int (a1)), (2, .int (a2)), (3, .int (a3)), (4, .int (a4)), (5, .int (a5))]) hx hb dX12_pour_156 hl (by decide) rfl (fun ls hl => ?_)
                            exact tX12_pour_158 X z FU (si (si S 1 (0 : Int32)) 0 (0 : Int32)) a1 a2 a3 a4 a5 (1 : Int32) (0 : Int32) hf _ _ _ hP hD hS (lv_sub hl [2, 3, 4, 5, 6, 7, 1, 0] rfl)
                        · have hf := tc_neg hc hf
                          exact tX12_pour_136 X z (si (si S 1 (0 : Int32)) 0 (0 : Int32)) hf _ _ _ hP hD hS (lv_sub hl [0] rfl)
                · have hf := tc_neg hc hf
                  refine lv_aload_n hx hb dX12_pour_85 rfl (lv_at hl 0 rfl) ?_
                  refine lv_bipush (v := (6 : Int32)) hx hb dX12_pour_86 (by decide) ?_
                  obtain ⟨z12, hg, hf⟩ := tc_bi hf
                  refine tc_iVs (As := [.int ((6 : Int32))]) (rest := []) (b := q 0) X hP hD hS (mX12_no hg) okX12_no wl_X12_78 wi_X12_no ws_X12_X12_no_X12_no ⟨rfl, rfl, Nat.le_of_ble_eq_true rfl, Nat.le_of_ble_eq_true rfl⟩ 12 0 rfl rfl rfl hl.1 (Nat.le_of_ble_eq_true rfl) dX12_pour_88 (fun H locs hP hD hS => ?_)
                  obtain ⟨hz1, hf⟩ := tc_ck hf
                  obtain rfl := Option.some.inj hf
                  exact tc_rz X hP hD hS rfl dX12_pour_91 hz1 rfl rfl
              · have hf := tc_neg hc hf
                refine lv_aload_n hx hb dX12_pour_73 rfl (lv_at hl 0 rfl) ?_
                refine lv_bipush (v := (11 : Int32)) hx hb dX12_pour_74 (by decide) ?_
                obtain ⟨z13, hg, hf⟩ := tc_bi hf
                refine tc_iVs (As := [.int ((11 : Int32))]) (rest := []) (b := q 0) X hP hD hS (mX12_no hg) okX12_no wl_X12_78 wi_X12_no ws_X12_X12_no_X12_no ⟨rfl, rfl, Nat.le_of_ble_eq_true rfl, Nat.le_of_ble_eq_true rfl⟩ 12 0 rfl rfl rfl hl.1 (Nat.le_of_ble_eq_true rfl) dX12_pour_76 (fun H locs hP hD hS => ?_)
                obtain ⟨hz1, hf⟩ := tc_ck hf
                obtain rfl := Option.some.inj hf
                exact tc_rz X hP hD hS rfl dX12_pour_79 hz1 rfl rfl
            · have hf := tc_neg hc hf
              exact tX12_pour_52 X z (si (si S 1 (0 : Int32)) 0 (0 : Int32)) hf _ _ _ hP hD hS (lv_sub hl [0] rfl)
        · have hf := tc_neg hc hf
          exact tX12_pour_28 X z (si (si S 1 (0 : Int32)) 0 (0 : Int32)) hf _ _ _ hP hD hS (lv_sub hl [0] rfl)
def fX12_numberOf  (S : ms_T) (a1 : Int32) (a2 : Int32) : Option (Int64) :=
  if inb (((60 : Int32) * a1) + a2) 240 = true then
    some (la S 3 (((60 : Int32) * a1) + a2))
  else none
abbrev rmX12_numberOf : Room := { frames := 0, cells := 0, slots := 0, locals := 0 }
theorem okX12_numberOf : tc_ok yX12_numberOf cX12_numberOf 3 (some .long) 2 := ⟨wc_X12_numberOf, wn_X12, by decide, by decide, by decide +kernel⟩
set_option maxRecDepth 20000 in
theorem mX12_numberOf {q : Nat → Nat}  {S : ms_T} {a1 : Int32} {a2 : Int32} {z : Int64}  (hf : fX12_numberOf S a1 a2 = some z) : tc_ML l dC dI ca yX12_numberOf cX12_numberOf 3 (some .long) rmX12_numberOf [.ref (q 0), .int (a1), .int (a2)] (w12 ca q S) (w12 ca q S) (z) := by
  refine tc_metL (own := RX12) (by decide) rfl ?_ (Nat.le_of_ble_eq_true rfl)
  intro p e s m below meth c A X hP hD hS ls hl
  obtain ⟨hx, hb, hr, hml, hown, hts, hlk, hK, hA, hG⟩ := id X
  unfold fX12_numberOf at hf
  have hl : lv_has ls 3 [(0, .ref (q 0)), (1, .int (a1)), (2, .int (a2))] := hl
  refine lv_aload_n hx hb dX12_numberOf_0 rfl (lv_at hl 0 rfl) ?_
  refine va_get (D := (dC, dI)) (ci := 12) (v := .ref (q 3)) (C := RX12) (T := TX12) (N := 49) hx hb hts i_X12 hown hK hP 0 rfl rfl 6 (by decide) (hts _ wf_X12_20) (fun _ h9 => h9) rfl dX12_numberOf_1 ?_
  refine lv_bipush (v := (60 : Int32)) hx hb dX12_numberOf_4 (by decide) ?_
  refine lv_iload_n hx hb dX12_numberOf_6 rfl (lv_at hl 1 rfl) ?_
  refine lv_imul hx hb dX12_numberOf_7 ?_
  refine lv_iload_n hx hb dX12_numberOf_8 rfl (lv_at hl 2 rfl) ?_
  refine lv_iadd hx hb dX12_numberOf_9 ?_
  obtain ⟨hi1, hf⟩ := tc_in hf
  refine va_lald hx hb hK hP 3 2 rfl rfl hi1 dX12_numberOf_10 ?_
  obtain rfl := Option.some.inj hf
  exact tc_rl X hP hD hS rfl dX12_numberOf_11 rfl rfl
def fX12_isTray  (S : ms_T) (a1 : Int32) : Option (Int32) :=
  (fX12_isIn a1.toInt64 (0 : Int64) (3 : Int64)).bind fun z1 =>
  if z1 &&& 1 = z1 then
    some (z1)
  else none
abbrev rmX12_isTray : Room := { frames := 1, cells := 0, slots := 0, locals := 25 }
theorem okX12_isTray : tc_ok yX12_isTray cX12_isTray 2 (some .boolean) 1 := ⟨wc_X12_isTray, wn_X12, by decide, by decide, by decide +kernel⟩
set_option maxRecDepth 20000 in
theorem mX12_isTray {q : Nat → Nat}  {S : ms_T} {a1 : Int32} {z : Int32}  (hf : fX12_isTray S a1 = some z) : tc_MI l dC dI ca yX12_isTray cX12_isTray 2 (some .boolean) rmX12_isTray [.ref (q 0), .int (a1)] (w12 ca q S) (w12 ca q S) (z) := by
  refine tc_metI (own := RX12) (by decide) rfl ?_ (Nat.le_of_ble_eq_true rfl)
  intro p e s m below meth c A X hP hD hS ls hl
  obtain ⟨hx, hb, hr, hml, hown, hts, hlk, hK, hA, hG⟩ := id X
  unfold fX12_isTray at hf
  have hl : lv_has ls 2 [(0, .ref (q 0)), (1, .int (a1))] := hl
  refine lv_iload_n hx hb dX12_isTray_0 rfl (lv_at hl 1 rfl) ?_
  refine lv_i2l (v := a1.toInt64) hx hb dX12_isTray_1 rfl ?_
  refine lv_lconst (v := (0 : Int64)) hx hb dX12_isTray_2 (by decide) ?_
  refine lv_ldc2 (v := (3 : Int64)) hx hb hown (hts _ wk_X12_96) dX12_isTray_3 ?_
  obtain ⟨z1, hg, hf⟩ := tc_bi hf
  refine tc_iS0 (As := [.long (a1.toInt64), .long ((0 : Int64)), .long ((3 : Int64))]) (rest := []) X hP hD hS (mX12_isIn hg) okX12_isIn wl_X12_98 wt_X12_isIn ⟨rfl, rfl, Nat.le_of_ble_eq_true rfl, Nat.le_of_ble_eq_true rfl⟩ rfl hl.1 (Nat.le_of_ble_eq_true rfl) dX12_isTray_6 (fun H locs hP hD hS => ?_)
  obtain ⟨hz1, hf⟩ := tc_ck hf
  obtain rfl := Option.some.inj hf
  exact tc_rz X hP hD hS rfl dX12_isTray_9 hz1 rfl rfl
def fX12_has   (a0 : Int32) (a1 : Int32) : Option (Int32) :=
  if ((a0 >>> (a1 &&& 31)) &&& (1 : Int32)) = (1 : Int32) then
    some ((1 : Int32))
  else
    some ((0 : Int32))
abbrev rmX12_has : Room := { frames := 0, cells := 0, slots := 0, locals := 0 }
theorem okX12_has : tc_ok yX12_has cX12_has 2 (some .boolean) 2 := ⟨wc_X12_has, wn_X12, by decide, by decide, by decide +kernel⟩
set_option maxRecDepth 20000 in
theorem mX12_has    {a0 : Int32} {a1 : Int32} {z : Int32}  (hf : fX12_has a0 a1 = some z) : tc_MI l dC dI ca yX12_has cX12_has 2 (some .boolean) rmX12_has [.int (a0), .int (a1)] [] [] (z) := by
  refine tc_metI (own := RX12) (by decide) rfl ?_ (Nat.le_of_ble_eq_true rfl)
  intro p e s m below meth c A X hP hD hS ls hl
  obtain ⟨hx, hb, hr, hml, hown, hts, hlk, hK, hA, hG⟩ := id X
  unfold fX12_has at hf
  have hl : lv_has ls 2 [(0, .int (a0)), (1, .int (a1))] := hl
  refine lv_iload_n hx hb dX12_has_0 rfl (lv_at hl 0 rfl) ?_
  refine lv_iload_n hx hb dX12_has_1 rfl (lv_at hl 1 rfl) ?_
  refine lv_ishr hx hb dX12_has_2 ?_
  refine lv_iconst (v := (1 : Int32)) hx hb dX12_has_3 (by decide) ?_
  refine lv_iand hx hb dX12_has_4 ?_
  refine lv_iconst (v := (1 : Int32)) hx hb dX12_has_5 (by decide) ?_
  refine lv_icmp_ne (tgt := 13) hx hb dX12_has_6 (by decide) (fun hc => ?_) (fun hc => ?_)
  · have hf := tc_neg hc hf
    refine lv_iconst (v := (0 : Int32)) hx hb dX12_has_13 (by decide) ?_
    obtain rfl := Option.some.inj hf
    exact tc_rz X hP hD hS rfl dX12_has_14 (by decide) rfl rfl
  · have hf := tc_pos hc hf
    refine lv_iconst (v := (1 : Int32)) hx hb dX12_has_9 (by decide) ?_
    refine lv_goto (tgt := 14) hx hb dX12_has_10 (by decide) ?_
    obtain rfl := Option.some.inj hf
    exact tc_rz X hP hD hS rfl dX12_has_14 (by decide) rfl rfl
def fX12_sizeOf_4    : Nat → Int32 → Int32 → Int32 → Option (Int32)
  | 0, _, _, _ => none
  | n + 1, v0, v1, v2 =>
    if (10 : Int32) ≤ v2 then
      some (v1)
    else
      (fX12_has v0 v2).bind fun z1 =>
      if z1 = 0 then
        fX12_sizeOf_4 n v0 (v1 + (0 : Int32)) (v2 + (1 : Int32))
      else
        fX12_sizeOf_4 n v0 (v1 + (1 : Int32)) (v2 + (1 : Int32))
def fX12_sizeOf   (a0 : Int32) : Option (Int32) :=
  fX12_sizeOf_4 FU a0 (0 : Int32) (0 : Int32)
abbrev rmX12_sizeOf : Room := { frames := 1, cells := 0, slots := 0, locals := 21 }
theorem okX12_sizeOf : tc_ok yX12_sizeOf cX12_sizeOf 3 (some .int) 1 := ⟨wc_X12_sizeOf, wn_X12, by decide, by decide, by decide +kernel⟩
set_option maxRecDepth 20000 in
theorem tX12_sizeOf_4   (X : tc_X dC dI ca A RX12 cX12_sizeOf 3 (some .int) p s m args meth c) (z : Int32)     : ∀ n : Nat, ∀ (v0 : Int32) (v1 : Int32) (v2 : Int32), fX12_sizeOf_4 n v0 v1 v2 = some z → ∀ (H : Heap) (locs : List Loc) (ls : Array Slot), va_P (dC, dI) classes [] H → va_D A [] → va_S A s.heap H locs → lv_has ls 3 [(0, .int (v0)), (1, .int (v1)), (2, .int (v2))] → W p l e rmX12_sizeOf s m args below meth c H locs 0 0 (MQ below (tc_QI dC dI ca A [] (z)) args s 0 0 A) (F0 m 4 ls []) := by
  obtain ⟨hx, hb, hr, hml, hown, hts, hlk, hK, hA, hG⟩ := id X
  intro n
  induction n with
  | zero => intro v0 v1 v2 hf; exact absurd (show none = some z from hf) (fun h => by cases h)
  | succ n ih =>
    intro v0 v1 v2 hf H locs ls hP hD hS hl
    rw [fX12_sizeOf_4] at hf
    refine lv_iload_n hx hb dX12_sizeOf_4 rfl (lv_at hl 2 rfl) ?_
    refine lv_bipush (v := (10 : Int32)) hx hb dX12_sizeOf_5 (by decide) ?_
    refine lv_icmp_ge (tgt := 32) hx hb dX12_sizeOf_7 (by decide) (fun hc => ?_) (fun hc => ?_)
    · have hf := tc_pos hc hf
      refine lv_iload_n hx hb dX12_sizeOf_32 rfl (lv_at hl 1 rfl) ?_
      obtain rfl := Option.some.inj hf
      exact tc_ri X hP hD hS rfl dX12_sizeOf_33 rfl rfl
    · have hf := tc_neg hc hf
      refine lv_iload_n hx hb dX12_sizeOf_10 rfl (lv_at hl 1 rfl) ?_
      refine lv_iload_n hx hb dX12_sizeOf_11 rfl (lv_at hl 0 rfl) ?_
      refine lv_iload_n hx hb dX12_sizeOf_12 rfl (lv_at hl 2 rfl) ?_
      obtain ⟨z1, hg, hf⟩ := tc_bi hf
      refine tc_iS0 (As := [.int (v0), .int (v2)]) (rest := [.int (v1)]) X hP hD hS (mX12_has hg) okX12_has wl_X12_102 wt_X12_has ⟨rfl, rfl, Nat.le_of_ble_eq_true rfl, Nat.le_of_ble_eq_true rfl⟩ rfl hl.1 (Nat.le_of_ble_eq_true rfl) dX12_sizeOf_13 (fun H locs hP hD hS => ?_)
      refine lv_if_eq (tgt := 23) hx hb dX12_sizeOf_16 (by decide) (fun hc => ?_) (fun hc => ?_)
      · have hf := tc_pos hc hf
        refine lv_iconst (v := (0 : Int32)) hx hb dX12_sizeOf_23 (by decide) ?_
        refine lv_iadd hx hb dX12_sizeOf_24 ?_
        refine lv_istore_n (lv' := [(1, .int (v1 + (0 : Int32))), (0, .int (v0)), (2, .int (v2))]) hx hb dX12_sizeOf_25 rfl hl (by decide) rfl (fun ls hl => ?_)
        refine lv_iinc (v := v2 + (1 : Int32)) (lv' := [(2, .int (v2 + (1 : Int32))), (1, .int (v1 + (0 : Int32))), (0, .int (v0))]) hx hb dX12_sizeOf_26 hl (k := 2) rfl rfl (by decide) rfl (fun ls hl => ?_)
        refine lv_goto (tgt := 4) hx hb dX12_sizeOf_29 (by decide) ?_
        exact ih v0 (v1 + (0 : Int32)) (v2 + (1 : Int32)) hf _ _ _ hP hD hS (lv_sub hl [2, 1, 0] rfl)
      · have hf := tc_neg hc hf
        refine lv_iconst (v := (1 : Int32)) hx hb dX12_sizeOf_19 (by decide) ?_
        refine lv_goto (tgt := 24) hx hb dX12_sizeOf_20 (by decide) ?_
        refine lv_iadd hx hb dX12_sizeOf_24 ?_
        refine lv_istore_n (lv' := [(1, .int (v1 + (1 : Int32))), (0, .int (v0)), (2, .int (v2))]) hx hb dX12_sizeOf_25 rfl hl (by decide) rfl (fun ls hl => ?_)
        refine lv_iinc (v := v2 + (1 : Int32)) (lv' := [(2, .int (v2 + (1 : Int32))), (1, .int (v1 + (1 : Int32))), (0, .int (v0))]) hx hb dX12_sizeOf_26 hl (k := 2) rfl rfl (by decide) rfl (fun ls hl => ?_)
        refine lv_goto (tgt := 4) hx hb dX12_sizeOf_29 (by decide) ?_
        exact ih v0 (v1 + (1 : Int32)) (v2 + (1 : Int32)) hf _ _ _ hP hD hS (lv_sub hl [2, 1, 0] rfl)
set_option maxRecDepth 20000 in
theorem mX12_sizeOf    {a0 : Int32} {z : Int32}  (hf : fX12_sizeOf a0 = some z) : tc_MI l dC dI ca yX12_sizeOf cX12_sizeOf 3 (some .int) rmX12_sizeOf [.int (a0)] [] [] (z) := by
  refine tc_metI (own := RX12) (by decide) rfl ?_ (Nat.le_of_ble_eq_true rfl)
  intro p e s m below meth c A X hP hD hS ls hl
  obtain ⟨hx, hb, hr, hml, hown, hts, hlk, hK, hA, hG⟩ := id X
  unfold fX12_sizeOf at hf
  have hl : lv_has ls 3 [(0, .int (a0))] := hl
  refine lv_iconst (v := (0 : Int32)) hx hb dX12_sizeOf_0 (by decide) ?_
  refine lv_istore_n (lv' := [(1, .int ((0 : Int32))), (0, .int (a0))]) hx hb dX12_sizeOf_1 rfl hl (by decide) rfl (fun ls hl => ?_)
  refine lv_iconst (v := (0 : Int32)) hx hb dX12_sizeOf_2 (by decide) ?_
  refine lv_istore_n (lv' := [(2, .int ((0 : Int32))), (1, .int ((0 : Int32))), (0, .int (a0))]) hx hb dX12_sizeOf_3 rfl hl (by decide) rfl (fun ls hl => ?_)
  exact tX12_sizeOf_4 X z FU a0 (0 : Int32) (0 : Int32) hf _ _ _ hP hD hS (lv_sub hl [2, 1, 0] rfl)
def fX12_look2  (S : ms_T) (a1 : Int32) : Option (Int32) :=
  if (gi S 9) ≤ a1 then
    some ((0 : Int32))
  else
    if inb a1 900 = true then
      some ((ia S 4 a1) &&& (255 : Int32))
    else none
abbrev rmX12_look2 : Room := { frames := 0, cells := 0, slots := 0, locals := 0 }
theorem okX12_look2 : tc_ok yX12_look2 cX12_look2 2 (some .int) 1 := ⟨wc_X12_look2, wn_X12, by decide, by decide, by decide +kernel⟩
set_option maxRecDepth 20000 in
theorem mX12_look2 {q : Nat → Nat}  {S : ms_T} {a1 : Int32} {z : Int32}  (hf : fX12_look2 S a1 = some z) : tc_MI l dC dI ca yX12_look2 cX12_look2 2 (some .int) rmX12_look2 [.ref (q 0), .int (a1)] (w12 ca q S) (w12 ca q S) (z) := by
  refine tc_metI (own := RX12) (by decide) rfl ?_ (Nat.le_of_ble_eq_true rfl)
  intro p e s m below meth c A X hP hD hS ls hl
  obtain ⟨hx, hb, hr, hml, hown, hts, hlk, hK, hA, hG⟩ := id X
  unfold fX12_look2 at hf
  have hl : lv_has ls 2 [(0, .ref (q 0)), (1, .int (a1))] := hl
  refine lv_iload_n hx hb dX12_look2_0 rfl (lv_at hl 1 rfl) ?_
  refine lv_aload_n hx hb dX12_look2_1 rfl (lv_at hl 0 rfl) ?_
  refine va_get (D := (dC, dI)) (ci := 12) (v := .int (gi S 9)) (C := RX12) (T := TX12) (N := 49) hx hb hts i_X12 hown hK hP 0 rfl rfl 9 (by decide) (hts _ wf_X12_106) (fun _ h9 => h9) rfl dX12_look2_2 ?_
  refine lv_icmp_ge (tgt := 21) hx hb dX12_look2_5 (by decide) (fun hc => ?_) (fun hc => ?_)
  · have hf := tc_pos hc hf
    refine lv_iconst (v := (0 : Int32)) hx hb dX12_look2_21 (by decide) ?_
    obtain rfl := Option.some.inj hf
    exact tc_ri X hP hD hS rfl dX12_look2_22 rfl rfl
  · have hf := tc_neg hc hf
    refine lv_aload_n hx hb dX12_look2_8 rfl (lv_at hl 0 rfl) ?_
    refine va_get (D := (dC, dI)) (ci := 12) (v := .ref (q 4)) (C := RX12) (T := TX12) (N := 49) hx hb hts i_X12 hown hK hP 0 rfl rfl 7 (by decide) (hts _ wf_X12_24) (fun _ h9 => h9) rfl dX12_look2_9 ?_
    refine lv_iload_n hx hb dX12_look2_12 rfl (lv_at hl 1 rfl) ?_
    obtain ⟨hi1, hf⟩ := tc_in hf
    refine va_bald hx hb hK hP 4 0 rfl rfl hi1 dX12_look2_13 ?_
    refine lv_sipush (v := (255 : Int32)) hx hb dX12_look2_14 (by decide) ?_
    refine lv_iand hx hb dX12_look2_17 ?_
    refine lv_goto (tgt := 22) hx hb dX12_look2_18 (by decide) ?_
    obtain rfl := Option.some.inj hf
    exact tc_ri X hP hD hS rfl dX12_look2_22 rfl rfl
def fX12_isLetter   (a0 : Int32) : Option (Int32) :=
  if a0 < (97 : Int32) then
    some ((0 : Int32))
  else
    if (122 : Int32) < a0 then
      some ((0 : Int32))
    else
      some ((1 : Int32))
abbrev rmX12_isLetter : Room := { frames := 0, cells := 0, slots := 0, locals := 0 }
theorem okX12_isLetter : tc_ok yX12_isLetter cX12_isLetter 1 (some .boolean) 1 := ⟨wc_X12_isLetter, wn_X12, by decide, by decide, by decide +kernel⟩
set_option maxRecDepth 20000 in
theorem mX12_isLetter    {a0 : Int32} {z : Int32}  (hf : fX12_isLetter a0 = some z) : tc_MI l dC dI ca yX12_isLetter cX12_isLetter 1 (some .boolean) rmX12_isLetter [.int (a0)] [] [] (z) := by
  refine tc_metI (own := RX12) (by decide) rfl ?_ (Nat.le_of_ble_eq_true rfl)
  intro p e s m below meth c A X hP hD hS ls hl
  obtain ⟨hx, hb, hr, hml, hown, hts, hlk, hK, hA, hG⟩ := id X
  unfold fX12_isLetter at hf
  have hl : lv_has ls 1 [(0, .int (a0))] := hl
  refine lv_iload_n hx hb dX12_isLetter_0 rfl (lv_at hl 0 rfl) ?_
  refine lv_bipush (v := (97 : Int32)) hx hb dX12_isLetter_1 (by decide) ?_
  refine lv_icmp_lt (tgt := 16) hx hb dX12_isLetter_3 (by decide) (fun hc => ?_) (fun hc => ?_)
  · have hf := tc_pos hc hf
    refine lv_iconst (v := (0 : Int32)) hx hb dX12_isLetter_16 (by decide) ?_
    obtain rfl := Option.some.inj hf
    exact tc_rz X hP hD hS rfl dX12_isLetter_17 (by decide) rfl rfl
  · have hf := tc_neg hc hf
    refine lv_iload_n hx hb dX12_isLetter_6 rfl (lv_at hl 0 rfl) ?_
    refine lv_bipush (v := (122 : Int32)) hx hb dX12_isLetter_7 (by decide) ?_
    refine lv_icmp_gt (tgt := 16) hx hb dX12_isLetter_9 (by decide) (fun hc => ?_) (fun hc => ?_)
    · have hf := tc_pos hc hf
      refine lv_iconst (v := (0 : Int32)) hx hb dX12_isLetter_16 (by decide) ?_
      obtain rfl := Option.some.inj hf
      exact tc_rz X hP hD hS rfl dX12_isLetter_17 (by decide) rfl rfl
    · have hf := tc_neg hc hf
      refine lv_iconst (v := (1 : Int32)) hx hb dX12_isLetter_12 (by decide) ?_
      refine lv_goto (tgt := 17) hx hb dX12_isLetter_13 (by decide) ?_
      obtain rfl := Option.some.inj hf
      exact tc_rz X hP hD hS rfl dX12_isLetter_17 (by decide) rfl rfl
def fX12_isDigit   (a0 : Int32) : Option (Int32) :=
  if a0 < (48 : Int32) then
    some ((0 : Int32))
  else
    if (57 : Int32) < a0 then
      some ((0 : Int32))
    else
      some ((1 : Int32))
abbrev rmX12_isDigit : Room := { frames := 0, cells := 0, slots := 0, locals := 0 }
theorem okX12_isDigit : tc_ok yX12_isDigit cX12_isDigit 1 (some .boolean) 1 := ⟨wc_X12_isDigit, wn_X12, by decide, by decide, by decide +kernel⟩
set_option maxRecDepth 20000 in
theorem mX12_isDigit    {a0 : Int32} {z : Int32}  (hf : fX12_isDigit a0 = some z) : tc_MI l dC dI ca yX12_isDigit cX12_isDigit 1 (some .boolean) rmX12_isDigit [.int (a0)] [] [] (z) := by
  refine tc_metI (own := RX12) (by decide) rfl ?_ (Nat.le_of_ble_eq_true rfl)
  intro p e s m below meth c A X hP hD hS ls hl
  obtain ⟨hx, hb, hr, hml, hown, hts, hlk, hK, hA, hG⟩ := id X
  unfold fX12_isDigit at hf
  have hl : lv_has ls 1 [(0, .int (a0))] := hl
  refine lv_iload_n hx hb dX12_isDigit_0 rfl (lv_at hl 0 rfl) ?_
  refine lv_bipush (v := (48 : Int32)) hx hb dX12_isDigit_1 (by decide) ?_
  refine lv_icmp_lt (tgt := 16) hx hb dX12_isDigit_3 (by decide) (fun hc => ?_) (fun hc => ?_)
  · have hf := tc_pos hc hf
    refine lv_iconst (v := (0 : Int32)) hx hb dX12_isDigit_16 (by decide) ?_
    obtain rfl := Option.some.inj hf
    exact tc_rz X hP hD hS rfl dX12_isDigit_17 (by decide) rfl rfl
  · have hf := tc_neg hc hf
    refine lv_iload_n hx hb dX12_isDigit_6 rfl (lv_at hl 0 rfl) ?_
    refine lv_bipush (v := (57 : Int32)) hx hb dX12_isDigit_7 (by decide) ?_
    refine lv_icmp_gt (tgt := 16) hx hb dX12_isDigit_9 (by decide) (fun hc => ?_) (fun hc => ?_)
    · have hf := tc_pos hc hf
      refine lv_iconst (v := (0 : Int32)) hx hb dX12_isDigit_16 (by decide) ?_
      obtain rfl := Option.some.inj hf
      exact tc_rz X hP hD hS rfl dX12_isDigit_17 (by decide) rfl rfl
    · have hf := tc_neg hc hf
      refine lv_iconst (v := (1 : Int32)) hx hb dX12_isDigit_12 (by decide) ?_
      refine lv_goto (tgt := 17) hx hb dX12_isDigit_13 (by decide) ?_
      obtain rfl := Option.some.inj hf
      exact tc_rz X hP hD hS rfl dX12_isDigit_17 (by decide) rfl rfl
def fX12_isSignByte  (S : ms_T) (a1 : Int32) : Option (Int32) :=
  if a1 = (59 : Int32) then
    some ((1 : Int32))
  else
    if a1 = (60 : Int32) then
      some ((1 : Int32))
    else
      if a1 = (62 : Int32) then
        some ((1 : Int32))
      else
        if a1 = (61 : Int32) then
          some ((1 : Int32))
        else
          some ((0 : Int32))
abbrev rmX12_isSignByte : Room := { frames := 0, cells := 0, slots := 0, locals := 0 }
theorem okX12_isSignByte : tc_ok yX12_isSignByte cX12_isSignByte 2 (some .boolean) 1 := ⟨wc_X12_isSignByte, wn_X12, by decide, by decide, by decide +kernel⟩
set_option maxRecDepth 20000 in
theorem mX12_isSignByte {q : Nat → Nat}  {S : ms_T} {a1 : Int32} {z : Int32}  (hf : fX12_isSignByte S a1 = some z) : tc_MI l dC dI ca yX12_isSignByte cX12_isSignByte 2 (some .boolean) rmX12_isSignByte [.ref (q 0), .int (a1)] (w12 ca q S) (w12 ca q S) (z) := by
  refine tc_metI (own := RX12) (by decide) rfl ?_ (Nat.le_of_ble_eq_true rfl)
  intro p e s m below meth c A X hP hD hS ls hl
  obtain ⟨hx, hb, hr, hml, hown, hts, hlk, hK, hA, hG⟩ := id X
  unfold fX12_isSignByte at hf
  have hl : lv_has ls 2 [(0, .ref (q 0)), (1, .int (a1))] := hl
  refine lv_iload_n hx hb dX12_isSignByte_0 rfl (lv_at hl 1 rfl) ?_
  refine lv_bipush (v := (59 : Int32)) hx hb dX12_isSignByte_1 (by decide) ?_
  refine lv_icmp_eq (tgt := 24) hx hb dX12_isSignByte_3 (by decide) (fun hc => ?_) (fun hc => ?_)
  · have hf := tc_pos hc hf
    refine lv_iconst (v := (1 : Int32)) hx hb dX12_isSignByte_24 (by decide) ?_
    refine lv_goto (tgt := 29) hx hb dX12_isSignByte_25 (by decide) ?_
    obtain rfl := Option.some.inj hf
    exact tc_rz X hP hD hS rfl dX12_isSignByte_29 (by decide) rfl rfl
  · have hf := tc_neg hc hf
    refine lv_iload_n hx hb dX12_isSignByte_6 rfl (lv_at hl 1 rfl) ?_
    refine lv_bipush (v := (60 : Int32)) hx hb dX12_isSignByte_7 (by decide) ?_
    refine lv_icmp_eq (tgt := 24) hx hb dX12_isSignByte_9 (by decide) (fun hc => ?_) (fun hc => ?_)
    · have hf := tc_pos hc hf
      refine lv_iconst (v := (1 : Int32)) hx hb dX12_isSignByte_24 (by decide) ?_
      refine lv_goto (tgt := 29) hx hb dX12_isSignByte_25 (by decide) ?_
      obtain rfl := Option.some.inj hf
      exact tc_rz X hP hD hS rfl dX12_isSignByte_29 (by decide) rfl rfl
    · have hf := tc_neg hc hf
      refine lv_iload_n hx hb dX12_isSignByte_12 rfl (lv_at hl 1 rfl) ?_
      refine lv_bipush (v := (62 : Int32)) hx hb dX12_isSignByte_13 (by decide) ?_
      refine lv_icmp_eq (tgt := 24) hx hb dX12_isSignByte_15 (by decide) (fun hc => ?_) (fun hc => ?_)
      · have hf := tc_pos hc hf
        refine lv_iconst (v := (1 : Int32)) hx hb dX12_isSignByte_24 (by decide) ?_
        refine lv_goto (tgt := 29) hx hb dX12_isSignByte_25 (by decide) ?_
        obtain rfl := Option.some.inj hf
        exact tc_rz X hP hD hS rfl dX12_isSignByte_29 (by decide) rfl rfl
      · have hf := tc_neg hc hf
        refine lv_iload_n hx hb dX12_isSignByte_18 rfl (lv_at hl 1 rfl) ?_
        refine lv_bipush (v := (61 : Int32)) hx hb dX12_isSignByte_19 (by decide) ?_
        refine lv_icmp_ne (tgt := 28) hx hb dX12_isSignByte_21 (by decide) (fun hc => ?_) (fun hc => ?_)
        · have hf := tc_neg hc hf
          refine lv_iconst (v := (0 : Int32)) hx hb dX12_isSignByte_28 (by decide) ?_
          obtain rfl := Option.some.inj hf
          exact tc_rz X hP hD hS rfl dX12_isSignByte_29 (by decide) rfl rfl
        · have hf := tc_pos hc hf
          refine lv_iconst (v := (1 : Int32)) hx hb dX12_isSignByte_24 (by decide) ?_
          refine lv_goto (tgt := 29) hx hb dX12_isSignByte_25 (by decide) ?_
          obtain rfl := Option.some.inj hf
          exact tc_rz X hP hD hS rfl dX12_isSignByte_29 (by decide) rfl rfl
def fX12_advance_210    : Nat → ms_T → Option (ms_T)
  | 0, _ => none
  | n + 1, S =>
    (fX12_look2 S (gi S 16)).bind fun z5 =>
    (fX12_isDigit z5).bind fun z6 =>
    if z6 = 0 then
      if ((gi S 16) - (gi S 15)) ≤ (4 : Int32) then
        some (si S 14 (2 : Int32))
      else
        some (si S 14 (4 : Int32))
    else
      if (4 : Int32) ≤ ((gi S 16) - (gi S 15)) then
        fX12_advance_210 n (si S 16 ((gi S 16) + (1 : Int32)))
      else
        (fX12_look2 S (gi S 16)).bind fun z7 =>
        fX12_advance_210 n (si (si S 17 ((((10 : Int32) * (gi S 17)) + z7) - (48 : Int32))) 16 ((gi (si S 17 ((((10 : Int32) * (gi S 17)) + z7) - (48 : Int32))) 16) + (1 : Int32)))
def fX12_advance_166   (k109 : ms_T → Option (ms_T)) (S : ms_T) (t0 : Int64) : Option (ms_T) :=
  k109 (si (sl S 19 t0) 16 ((gi (sl S 19 t0) 16) + (1 : Int32)))
def fX12_advance_109    : Nat → ms_T → Option (ms_T)
  | 0, _ => none
  | n + 1, S =>
    (fX12_look2 S (gi S 16)).bind fun z8 =>
    (fX12_isLetter z8).bind fun z9 =>
    if z9 = 0 then
      some (si S 18 ((gi S 16) - (gi S 15)))
    else
      if (8 : Int32) ≤ ((gi S 16) - (gi S 15)) then
        fX12_advance_166 (fX12_advance_109 n) S (-1 : Int64)
      else
        (fX12_look2 S (gi S 16)).bind fun z10 =>
        fX12_advance_166 (fX12_advance_109 n) S ((((gl S 19) * (32 : Int64)) + z10.toInt64) - (96 : Int64))
def fX12_advance_58    (S : ms_T) : Option (ms_T) :=
  if (gi (si S 16 (gi S 15)) 15) < (gi (si S 16 (gi S 15)) 9) then
    (fX12_look2 (si S 16 (gi S 15)) (gi (si S 16 (gi S 15)) 15)).bind fun z1 =>
    (fX12_isLetter z1).bind fun z2 =>
    if z2 = 0 then
      (fX12_isDigit z1).bind fun z3 =>
      if z3 = 0 then
        (fX12_isSignByte (si (si (si S 16 (gi S 15)) 16 ((gi (si S 16 (gi S 15)) 15) + (1 : Int32))) 17 z1) z1).bind fun z4 =>
        if z4 = 0 then
          some (si (si (si (si S 16 (gi S 15)) 16 ((gi (si S 16 (gi S 15)) 15) + (1 : Int32))) 17 z1) 14 (4 : Int32))
        else
          some (si (si (si (si S 16 (gi S 15)) 16 ((gi (si S 16 (gi S 15)) 15) + (1 : Int32))) 17 z1) 14 (3 : Int32))
      else
        fX12_advance_210 FU (si (si S 16 (gi S 15)) 17 (0 : Int32))
    else
      fX12_advance_109 FU (sl (si (si S 16 (gi S 15)) 14 (1 : Int32)) 19 (0 : Int64))
  else
    some (si (si S 16 (gi S 15)) 14 (0 : Int32))
def fX12_advance_8    : Nat → ms_T → Option (ms_T)
  | 0, _ => none
  | n + 1, S =>
    if (gi S 9) ≤ (gi S 15) then
      fX12_advance_58 S
    else
      (fX12_look2 S (gi S 15)).bind fun z11 =>
      if z11 = (10 : Int32) then
        fX12_advance_8 n (si S 15 ((gi S 15) + (1 : Int32)))
      else
        (fX12_look2 S (gi S 15)).bind fun z12 =>
        if z12 = (32 : Int32) then
          fX12_advance_8 n (si S 15 ((gi S 15) + (1 : Int32)))
        else
          fX12_advance_58 S
def fX12_advance  (S : ms_T)  : Option (ms_T) :=
  fX12_advance_8 FU (si S 15 (gi S 16))
abbrev rmX12_advance : Room := { frames := 1, cells := 0, slots := 0, locals := 21 }
theorem okX12_advance : tc_ok yX12_advance cX12_advance 2 none 0 := ⟨wc_X12_advance, wn_X12, by decide, by decide, by decide +kernel⟩
set_option maxRecDepth 20000 in
theorem tX12_advance_210 {q : Nat → Nat}  (X : tc_X dC dI ca A RX12 cX12_advance 2 none p s m args meth c) (z : ms_T)     : ∀ n : Nat, ∀ (S : ms_T), fX12_advance_210 n S = some z → ∀ (H : Heap) (locs : List Loc) (ls : Array Slot), va_P (dC, dI) classes (w12 ca q S) H → va_D A (w12 ca q S) → va_S A s.heap H locs → lv_has ls 2 [(0, .ref (q 0))] → W p l e rmX12_advance s m args below meth c H locs 0 0 (MQ below (tc_QV dC dI ca A (w12 ca q z)) args s 0 0 A) (F0 m 210 ls []) := by
  obtain ⟨hx, hb, hr, hml, hown, hts, hlk, hK, hA, hG⟩ := id X
  intro n
  induction n with
  | zero => intro S hf; exact absurd (show none = some z from hf) (fun h => by cases h)
  | succ n ih =>
    intro S hf H locs ls hP hD hS hl
    rw [fX12_advance_210] at hf
    refine lv_aload_n hx hb dX12_advance_210 rfl (lv_at hl 0 rfl) ?_
    refine lv_aload_n hx hb dX12_advance_211 rfl (lv_at hl 0 rfl) ?_
    refine va_get (D := (dC, dI)) (ci := 12) (v := .int (gi S 16)) (C := RX12) (T := TX12) (N := 49) hx hb hts i_X12 hown hK hP 0 rfl rfl 16 (by decide) (hts _ wf_X12_109) (fun _ h9 => h9) rfl dX12_advance_212 ?_
    obtain ⟨z5, hg, hf⟩ := tc_bi hf
    refine tc_iVs (As := [.int (gi S 16)]) (rest := []) (b := q 0) X hP hD hS (mX12_look2 hg) okX12_look2 wl_X12_115 wi_X12_look2 ws_X12_X12_look2_X12_look2 ⟨rfl, rfl, Nat.le_of_ble_eq_true rfl, Nat.le_of_ble_eq_true rfl⟩ 12 0 rfl rfl rfl hl.1 (Nat.le_of_ble_eq_true rfl) dX12_advance_215 (fun H locs hP hD hS => ?_)
    obtain ⟨z6, hg, hf⟩ := tc_bi hf
    refine tc_iS0 (As := [.int (z5)]) (rest := []) X hP hD hS (mX12_isDigit hg) okX12_isDigit wl_X12_134 wt_X12_isDigit ⟨rfl, rfl, Nat.le_of_ble_eq_true rfl, Nat.le_of_ble_eq_true rfl⟩ rfl hl.1 (Nat.le_of_ble_eq_true rfl) dX12_advance_218 (fun H locs hP hD hS => ?_)
    refine lv_if_eq (tgt := 273) hx hb dX12_advance_221 (by decide) (fun hc => ?_) (fun hc => ?_)
    · have hf := tc_pos hc hf
      refine lv_aload_n hx hb dX12_advance_273 rfl (lv_at hl 0 rfl) ?_
      refine lv_aload_n hx hb dX12_advance_274 rfl (lv_at hl 0 rfl) ?_
      refine va_get (D := (dC, dI)) (ci := 12) (v := .int (gi S 16)) (C := RX12) (T := TX12) (N := 49) hx hb hts i_X12 hown hK hP 0 rfl rfl 16 (by decide) (hts _ wf_X12_109) (fun _ h9 => h9) rfl dX12_advance_275 ?_
      refine lv_aload_n hx hb dX12_advance_278 rfl (lv_at hl 0 rfl) ?_
      refine va_get (D := (dC, dI)) (ci := 12) (v := .int (gi S 15)) (C := RX12) (T := TX12) (N := 49) hx hb hts i_X12 hown hK hP 0 rfl rfl 15 (by decide) (hts _ wf_X12_112) (fun _ h9 => h9) rfl dX12_advance_279 ?_
      refine lv_isub hx hb dX12_advance_282 ?_
      refine lv_iconst (v := (4 : Int32)) hx hb dX12_advance_283 (by decide) ?_
      refine lv_icmp_le (tgt := 291) hx hb dX12_advance_284 (by decide) (fun hc => ?_) (fun hc => ?_)
      · have hf := tc_pos hc hf
        refine lv_iconst (v := (2 : Int32)) hx hb dX12_advance_291 (by decide) ?_
        refine va_put (D := (dC, dI)) (ci := 12) (v := .int ((2 : Int32))) (ty := .int) (C := RX12) (T := TX12) (N := 49) hx hb hts i_X12 tyX12 tyX12_ok nmX12 hown hK hP hD hS 0 rfl rfl 14 (by decide) (hts _ wf_X12_118) (fun _ h9 => h9) rfl (tyX12_ok 14 (by decide)) rfl rfl (Nat.le_of_ble_eq_true rfl) dX12_advance_292 (fun H locs hP hD hS => ?_)
        have hP := tc_eP (pw12_0_14 ca q S (2 : Int32)) hP
        have hD := tc_eD (pw12_0_14 ca q S (2 : Int32)) hD
        refine lv_goto (tgt := 330) hx hb dX12_advance_295 (by decide) ?_
        obtain rfl := Option.some.inj hf
        exact tc_rv X hP hD hS rfl dX12_advance_330 rfl
      · have hf := tc_neg hc hf
        refine lv_iconst (v := (4 : Int32)) hx hb dX12_advance_287 (by decide) ?_
        refine lv_goto (tgt := 292) hx hb dX12_advance_288 (by decide) ?_
        refine va_put (D := (dC, dI)) (ci := 12) (v := .int ((4 : Int32))) (ty := .int) (C := RX12) (T := TX12) (N := 49) hx hb hts i_X12 tyX12 tyX12_ok nmX12 hown hK hP hD hS 0 rfl rfl 14 (by decide) (hts _ wf_X12_118) (fun _ h9 => h9) rfl (tyX12_ok 14 (by decide)) rfl rfl (Nat.le_of_ble_eq_true rfl) dX12_advance_292 (fun H locs hP hD hS => ?_)
        have hP := tc_eP (pw12_0_14 ca q S (4 : Int32)) hP
        have hD := tc_eD (pw12_0_14 ca q S (4 : Int32)) hD
        refine lv_goto (tgt := 330) hx hb dX12_advance_295 (by decide) ?_
        obtain rfl := Option.some.inj hf
        exact tc_rv X hP hD hS rfl dX12_advance_330 rfl
    · have hf := tc_neg hc hf
      refine lv_aload_n hx hb dX12_advance_224 rfl (lv_at hl 0 rfl) ?_
      refine va_get (D := (dC, dI)) (ci := 12) (v := .int (gi S 16)) (C := RX12) (T := TX12) (N := 49) hx hb hts i_X12 hown hK hP 0 rfl rfl 16 (by decide) (hts _ wf_X12_109) (fun _ h9 => h9) rfl dX12_advance_225 ?_
      refine lv_aload_n hx hb dX12_advance_228 rfl (lv_at hl 0 rfl) ?_
      refine va_get (D := (dC, dI)) (ci := 12) (v := .int (gi S 15)) (C := RX12) (T := TX12) (N := 49) hx hb hts i_X12 hown hK hP 0 rfl rfl 15 (by decide) (hts _ wf_X12_112) (fun _ h9 => h9) rfl dX12_advance_229 ?_
      refine lv_isub hx hb dX12_advance_232 ?_
      refine lv_iconst (v := (4 : Int32)) hx hb dX12_advance_233 (by decide) ?_
      refine lv_icmp_ge (tgt := 260) hx hb dX12_advance_234 (by decide) (fun hc => ?_) (fun hc => ?_)
      · have hf := tc_pos hc hf
        refine lv_aload_n hx hb dX12_advance_260 rfl (lv_at hl 0 rfl) ?_
        refine lv_dup hx hb dX12_advance_261 rfl ?_
        refine va_get (D := (dC, dI)) (ci := 12) (v := .int (gi S 16)) (C := RX12) (T := TX12) (N := 49) hx hb hts i_X12 hown hK hP 0 rfl rfl 16 (by decide) (hts _ wf_X12_109) (fun _ h9 => h9) rfl dX12_advance_262 ?_
        refine lv_iconst (v := (1 : Int32)) hx hb dX12_advance_265 (by decide) ?_
        refine lv_iadd hx hb dX12_advance_266 ?_
        refine va_put (D := (dC, dI)) (ci := 12) (v := .int ((gi S 16) + (1 : Int32))) (ty := .int) (C := RX12) (T := TX12) (N := 49) hx hb hts i_X12 tyX12 tyX12_ok nmX12 hown hK hP hD hS 0 rfl rfl 16 (by decide) (hts _ wf_X12_109) (fun _ h9 => h9) rfl (tyX12_ok 16 (by decide)) rfl rfl (Nat.le_of_ble_eq_true rfl) dX12_advance_267 (fun H locs hP hD hS => ?_)
        have hP := tc_eP (pw12_0_16 ca q S ((gi S 16) + (1 : Int32))) hP
        have hD := tc_eD (pw12_0_16 ca q S ((gi S 16) + (1 : Int32))) hD
        refine lv_goto (tgt := 210) hx hb dX12_advance_270 (by decide) ?_
        exact ih (si S 16 ((gi S 16) + (1 : Int32))) hf _ _ _ hP hD hS (lv_sub hl [0] rfl)
      · have hf := tc_neg hc hf
        refine lv_aload_n hx hb dX12_advance_237 rfl (lv_at hl 0 rfl) ?_
        refine lv_bipush (v := (10 : Int32)) hx hb dX12_advance_238 (by decide) ?_
        refine lv_aload_n hx hb dX12_advance_240 rfl (lv_at hl 0 rfl) ?_
        refine va_get (D := (dC, dI)) (ci := 12) (v := .int (gi S 17)) (C := RX12) (T := TX12) (N := 49) hx hb hts i_X12 hown hK hP 0 rfl rfl 17 (by decide) (hts _ wf_X12_137) (fun _ h9 => h9) rfl dX12_advance_241 ?_
        refine lv_imul hx hb dX12_advance_244 ?_
        refine lv_aload_n hx hb dX12_advance_245 rfl (lv_at hl 0 rfl) ?_
        refine lv_aload_n hx hb dX12_advance_246 rfl (lv_at hl 0 rfl) ?_
        refine va_get (D := (dC, dI)) (ci := 12) (v := .int (gi S 16)) (C := RX12) (T := TX12) (N := 49) hx hb hts i_X12 hown hK hP 0 rfl rfl 16 (by decide) (hts _ wf_X12_109) (fun _ h9 => h9) rfl dX12_advance_247 ?_
        obtain ⟨z7, hg, hf⟩ := tc_bi hf
        refine tc_iVs (As := [.int (gi S 16)]) (rest := [.int ((10 : Int32) * (gi S 17)), .ref (q 0)]) (b := q 0) X hP hD hS (mX12_look2 hg) okX12_look2 wl_X12_115 wi_X12_look2 ws_X12_X12_look2_X12_look2 ⟨rfl, rfl, Nat.le_of_ble_eq_true rfl, Nat.le_of_ble_eq_true rfl⟩ 12 0 rfl rfl rfl hl.1 (Nat.le_of_ble_eq_true rfl) dX12_advance_250 (fun H locs hP hD hS => ?_)
        refine lv_iadd hx hb dX12_advance_253 ?_
        refine lv_bipush (v := (48 : Int32)) hx hb dX12_advance_254 (by decide) ?_
        refine lv_isub hx hb dX12_advance_256 ?_
        refine va_put (D := (dC, dI)) (ci := 12) (v := .int ((((10 : Int32) * (gi S 17)) + z7) - (48 : Int32))) (ty := .int) (C := RX12) (T := TX12) (N := 49) hx hb hts i_X12 tyX12 tyX12_ok nmX12 hown hK hP hD hS 0 rfl rfl 17 (by decide) (hts _ wf_X12_137) (fun _ h9 => h9) rfl (tyX12_ok 17 (by decide)) rfl rfl (Nat.le_of_ble_eq_true rfl) dX12_advance_257 (fun H locs hP hD hS => ?_)
        have hP := tc_eP (pw12_0_17 ca q S ((((10 : Int32) * (gi S 17)) + z7) - (48 : Int32))) hP
        have hD := tc_eD (pw12_0_17 ca q S ((((10 : Int32) * (gi S 17)) + z7) - (48 : Int32))) hD
        refine lv_aload_n hx hb dX12_advance_260 rfl (lv_at hl 0 rfl) ?_
        refine lv_dup hx hb dX12_advance_261 rfl ?_
        refine va_get (D := (dC, dI)) (ci := 12) (v := .int (gi (si S 17 ((((10 : Int32) * (gi S 17)) + z7) - (48 : Int32))) 16)) (C := RX12) (T := TX12) (N := 49) hx hb hts i_X12 hown hK hP 0 rfl rfl 16 (by decide) (hts _ wf_X12_109) (fun _ h9 => h9) rfl dX12_advance_262 ?_
        refine lv_iconst (v := (1 : Int32)) hx hb dX12_advance_265 (by decide) ?_
        refine lv_iadd hx hb dX12_advance_266 ?_
        refine va_put (D := (dC, dI)) (ci := 12) (v := .int ((gi (si S 17 ((((10 : Int32) * (gi S 17)) + z7) - (48 : Int32))) 16) + (1 : Int32))) (ty := .int) (C := RX12) (T := TX12) (N := 49) hx hb hts i_X12 tyX12 tyX12_ok nmX12 hown hK hP hD hS 0 rfl rfl 16 (by decide) (hts _ wf_X12_109) (fun _ h9 => h9) rfl (tyX12_ok 16 (by decide)) rfl rfl (Nat.le_of_ble_eq_true rfl) dX12_advance_267 (fun H locs hP hD hS => ?_)
        have hP := tc_eP (pw12_0_16 ca q (si S 17 ((((10 : Int32) * (gi S 17)) + z7) - (48 : Int32))) ((gi (si S 17 ((((10 : Int32) * (gi S 17)) + z7) - (48 : Int32))) 16) + (1 : Int32))) hP
        have hD := tc_eD (pw12_0_16 ca q (si S 17 ((((10 : Int32) * (gi S 17)) + z7) - (48 : Int32))) ((gi (si S 17 ((((10 : Int32) * (gi S 17)) + z7) - (48 : Int32))) 16) + (1 : Int32))) hD
        refine lv_goto (tgt := 210) hx hb dX12_advance_270 (by decide) ?_
        exact ih (si (si S 17 ((((10 : Int32) * (gi S 17)) + z7) - (48 : Int32))) 16 ((gi (si S 17 ((((10 : Int32) * (gi S 17)) + z7) - (48 : Int32))) 16) + (1 : Int32))) hf _ _ _ hP hD hS (lv_sub hl [0] rfl)
set_option maxRecDepth 20000 in
theorem tX12_advance_166 {q : Nat → Nat}  (X : tc_X dC dI ca A RX12 cX12_advance 2 none p s m args meth c) (z : ms_T)   (k109 : ms_T → Option (ms_T)) (hk109 : ∀ (S : ms_T), k109 S = some z → ∀ (H : Heap) (locs : List Loc) (ls : Array Slot), va_P (dC, dI) classes (w12 ca q S) H → va_D A (w12 ca q S) → va_S A s.heap H locs → lv_has ls 2 [(0, .ref (q 0))] → W p l e rmX12_advance s m args below meth c H locs 0 0 (MQ below (tc_QV dC dI ca A (w12 ca q z)) args s 0 0 A) (F0 m 109 ls [])) : ∀ (S : ms_T) (t0 : Int64), fX12_advance_166 k109 S t0 = some z → ∀ (H : Heap) (locs : List Loc) (ls : Array Slot), va_P (dC, dI) classes (w12 ca q S) H → va_D A (w12 ca q S) → va_S A s.heap H locs → lv_has ls 2 [(0, .ref (q 0))] → W p l e rmX12_advance s m args below meth c H locs 0 0 (MQ below (tc_QV dC dI ca A (w12 ca q z)) args s 0 0 A) (F0 m 166 ls [.long (t0), .ref (q 0)]) := by
  obtain ⟨hx, hb, hr, hml, hown, hts, hlk, hK, hA, hG⟩ := id X
  intro S t0 hf H locs ls hP hD hS hl
  unfold fX12_advance_166 at hf
  refine va_put (D := (dC, dI)) (ci := 12) (v := .long (t0)) (ty := .long) (C := RX12) (T := TX12) (N := 49) hx hb hts i_X12 tyX12 tyX12_ok nmX12 hown hK hP hD hS 0 rfl rfl 19 (by decide) (hts _ wf_X12_124) (fun _ h9 => h9) rfl (tyX12_ok 19 (by decide)) rfl rfl (Nat.le_of_ble_eq_true rfl) dX12_advance_166 (fun H locs hP hD hS => ?_)
  have hP := tc_eP (pw12_0_19 ca q S t0) hP
  have hD := tc_eD (pw12_0_19 ca q S t0) hD
  refine lv_aload_n hx hb dX12_advance_169 rfl (lv_at hl 0 rfl) ?_
  refine lv_dup hx hb dX12_advance_170 rfl ?_
  refine va_get (D := (dC, dI)) (ci := 12) (v := .int (gi (sl S 19 t0) 16)) (C := RX12) (T := TX12) (N := 49) hx hb hts i_X12 hown hK hP 0 rfl rfl 16 (by decide) (hts _ wf_X12_109) (fun _ h9 => h9) rfl dX12_advance_171 ?_
  refine lv_iconst (v := (1 : Int32)) hx hb dX12_advance_174 (by decide) ?_
  refine lv_iadd hx hb dX12_advance_175 ?_
  refine va_put (D := (dC, dI)) (ci := 12) (v := .int ((gi (sl S 19 t0) 16) + (1 : Int32))) (ty := .int) (C := RX12) (T := TX12) (N := 49) hx hb hts i_X12 tyX12 tyX12_ok nmX12 hown hK hP hD hS 0 rfl rfl 16 (by decide) (hts _ wf_X12_109) (fun _ h9 => h9) rfl (tyX12_ok 16 (by decide)) rfl rfl (Nat.le_of_ble_eq_true rfl) dX12_advance_176 (fun H locs hP hD hS => ?_)
  have hP := tc_eP (pw12_0_16 ca q (sl S 19 t0) ((gi (sl S 19 t0) 16) + (1 : Int32))) hP
  have hD := tc_eD (pw12_0_16 ca q (sl S 19 t0) ((gi (sl S 19 t0) 16) + (1 : Int32))) hD
  refine lv_goto (tgt := 109) hx hb dX12_advance_179 (by decide) ?_
  exact hk109 (si (sl S 19 t0) 16 ((gi (sl S 19 t0) 16) + (1 : Int32))) hf _ _ _ hP hD hS (lv_sub hl [0] rfl)
set_option maxRecDepth 20000 in
theorem tX12_advance_109 {q : Nat → Nat}  (X : tc_X dC dI ca A RX12 cX12_advance 2 none p s m args meth c) (z : ms_T)     : ∀ n : Nat, ∀ (S : ms_T), fX12_advance_109 n S = some z → ∀ (H : Heap) (locs : List Loc) (ls : Array Slot), va_P (dC, dI) classes (w12 ca q S) H → va_D A (w12 ca q S) → va_S A s.heap H locs → lv_has ls 2 [(0, .ref (q 0))] → W p l e rmX12_advance s m args below meth c H locs 0 0 (MQ below (tc_QV dC dI ca A (w12 ca q z)) args s 0 0 A) (F0 m 109 ls []) := by
  obtain ⟨hx, hb, hr, hml, hown, hts, hlk, hK, hA, hG⟩ := id X
  intro n
  induction n with
  | zero => intro S hf; exact absurd (show none = some z from hf) (fun h => by cases h)
  | succ n ih =>
    intro S hf H locs ls hP hD hS hl
    rw [fX12_advance_109] at hf
    refine lv_aload_n hx hb dX12_advance_109 rfl (lv_at hl 0 rfl) ?_
    refine lv_aload_n hx hb dX12_advance_110 rfl (lv_at hl 0 rfl) ?_
    refine va_get (D := (dC, dI)) (ci := 12) (v := .int (gi S 16)) (C := RX12) (T := TX12) (N := 49) hx hb hts i_X12 hown hK hP 0 rfl rfl 16 (by decide) (hts _ wf_X12_109) (fun _ h9 => h9) rfl dX12_advance_111 ?_
    obtain ⟨z8, hg, hf⟩ := tc_bi hf
    refine tc_iVs (As := [.int (gi S 16)]) (rest := []) (b := q 0) X hP hD hS (mX12_look2 hg) okX12_look2 wl_X12_115 wi_X12_look2 ws_X12_X12_look2_X12_look2 ⟨rfl, rfl, Nat.le_of_ble_eq_true rfl, Nat.le_of_ble_eq_true rfl⟩ 12 0 rfl rfl rfl hl.1 (Nat.le_of_ble_eq_true rfl) dX12_advance_114 (fun H locs hP hD hS => ?_)
    obtain ⟨z9, hg, hf⟩ := tc_bi hf
    refine tc_iS0 (As := [.int (z8)]) (rest := []) X hP hD hS (mX12_isLetter hg) okX12_isLetter wl_X12_121 wt_X12_isLetter ⟨rfl, rfl, Nat.le_of_ble_eq_true rfl, Nat.le_of_ble_eq_true rfl⟩ rfl hl.1 (Nat.le_of_ble_eq_true rfl) dX12_advance_117 (fun H locs hP hD hS => ?_)
    refine lv_if_eq (tgt := 182) hx hb dX12_advance_120 (by decide) (fun hc => ?_) (fun hc => ?_)
    · have hf := tc_pos hc hf
      refine lv_aload_n hx hb dX12_advance_182 rfl (lv_at hl 0 rfl) ?_
      refine lv_aload_n hx hb dX12_advance_183 rfl (lv_at hl 0 rfl) ?_
      refine va_get (D := (dC, dI)) (ci := 12) (v := .int (gi S 16)) (C := RX12) (T := TX12) (N := 49) hx hb hts i_X12 hown hK hP 0 rfl rfl 16 (by decide) (hts _ wf_X12_109) (fun _ h9 => h9) rfl dX12_advance_184 ?_
      refine lv_aload_n hx hb dX12_advance_187 rfl (lv_at hl 0 rfl) ?_
      refine va_get (D := (dC, dI)) (ci := 12) (v := .int (gi S 15)) (C := RX12) (T := TX12) (N := 49) hx hb hts i_X12 hown hK hP 0 rfl rfl 15 (by decide) (hts _ wf_X12_112) (fun _ h9 => h9) rfl dX12_advance_188 ?_
      refine lv_isub hx hb dX12_advance_191 ?_
      refine va_put (D := (dC, dI)) (ci := 12) (v := .int ((gi S 16) - (gi S 15))) (ty := .int) (C := RX12) (T := TX12) (N := 49) hx hb hts i_X12 tyX12 tyX12_ok nmX12 hown hK hP hD hS 0 rfl rfl 18 (by decide) (hts _ wf_X12_131) (fun _ h9 => h9) rfl (tyX12_ok 18 (by decide)) rfl rfl (Nat.le_of_ble_eq_true rfl) dX12_advance_192 (fun H locs hP hD hS => ?_)
      have hP := tc_eP (pw12_0_18 ca q S ((gi S 16) - (gi S 15))) hP
      have hD := tc_eD (pw12_0_18 ca q S ((gi S 16) - (gi S 15))) hD
      refine lv_goto (tgt := 330) hx hb dX12_advance_195 (by decide) ?_
      obtain rfl := Option.some.inj hf
      exact tc_rv X hP hD hS rfl dX12_advance_330 rfl
    · have hf := tc_neg hc hf
      refine lv_aload_n hx hb dX12_advance_123 rfl (lv_at hl 0 rfl) ?_
      refine lv_aload_n hx hb dX12_advance_124 rfl (lv_at hl 0 rfl) ?_
      refine va_get (D := (dC, dI)) (ci := 12) (v := .int (gi S 16)) (C := RX12) (T := TX12) (N := 49) hx hb hts i_X12 hown hK hP 0 rfl rfl 16 (by decide) (hts _ wf_X12_109) (fun _ h9 => h9) rfl dX12_advance_125 ?_
      refine lv_aload_n hx hb dX12_advance_128 rfl (lv_at hl 0 rfl) ?_
      refine va_get (D := (dC, dI)) (ci := 12) (v := .int (gi S 15)) (C := RX12) (T := TX12) (N := 49) hx hb hts i_X12 hown hK hP 0 rfl rfl 15 (by decide) (hts _ wf_X12_112) (fun _ h9 => h9) rfl dX12_advance_129 ?_
      refine lv_isub hx hb dX12_advance_132 ?_
      refine lv_bipush (v := (8 : Int32)) hx hb dX12_advance_133 (by decide) ?_
      refine lv_icmp_ge (tgt := 163) hx hb dX12_advance_135 (by decide) (fun hc => ?_) (fun hc => ?_)
      · have hf := tc_pos hc hf
        refine lv_ldc2 (v := (-1 : Int64)) hx hb hown (hts _ wk_X12_94) dX12_advance_163 ?_
        exact tX12_advance_166 X z (fX12_advance_109 n) ih S (-1 : Int64) hf _ _ _ hP hD hS (lv_sub hl [0] rfl)
      · have hf := tc_neg hc hf
        refine lv_aload_n hx hb dX12_advance_138 rfl (lv_at hl 0 rfl) ?_
        refine va_get (D := (dC, dI)) (ci := 12) (v := .long (gl S 19)) (C := RX12) (T := TX12) (N := 49) hx hb hts i_X12 hown hK hP 0 rfl rfl 19 (by decide) (hts _ wf_X12_124) (fun _ h9 => h9) rfl dX12_advance_139 ?_
        refine lv_ldc2 (v := (32 : Int64)) hx hb hown (hts _ wk_X12_127) dX12_advance_142 ?_
        refine lv_lmul hx hb dX12_advance_145 ?_
        refine lv_aload_n hx hb dX12_advance_146 rfl (lv_at hl 0 rfl) ?_
        refine lv_aload_n hx hb dX12_advance_147 rfl (lv_at hl 0 rfl) ?_
        refine va_get (D := (dC, dI)) (ci := 12) (v := .int (gi S 16)) (C := RX12) (T := TX12) (N := 49) hx hb hts i_X12 hown hK hP 0 rfl rfl 16 (by decide) (hts _ wf_X12_109) (fun _ h9 => h9) rfl dX12_advance_148 ?_
        obtain ⟨z10, hg, hf⟩ := tc_bi hf
        refine tc_iVs (As := [.int (gi S 16)]) (rest := [.long ((gl S 19) * (32 : Int64)), .ref (q 0)]) (b := q 0) X hP hD hS (mX12_look2 hg) okX12_look2 wl_X12_115 wi_X12_look2 ws_X12_X12_look2_X12_look2 ⟨rfl, rfl, Nat.le_of_ble_eq_true rfl, Nat.le_of_ble_eq_true rfl⟩ 12 0 rfl rfl rfl hl.1 (Nat.le_of_ble_eq_true rfl) dX12_advance_151 (fun H locs hP hD hS => ?_)
        refine lv_i2l (v := z10.toInt64) hx hb dX12_advance_154 rfl ?_
        refine lv_ladd hx hb dX12_advance_155 ?_
        refine lv_ldc2 (v := (96 : Int64)) hx hb hown (hts _ wk_X12_129) dX12_advance_156 ?_
        refine lv_lsub hx hb dX12_advance_159 ?_
        refine lv_goto (tgt := 166) hx hb dX12_advance_160 (by decide) ?_
        exact tX12_advance_166 X z (fX12_advance_109 n) ih S ((((gl S 19) * (32 : Int64)) + z10.toInt64) - (96 : Int64)) hf _ _ _ hP hD hS (lv_sub hl [0] rfl)
set_option maxRecDepth 20000 in
theorem tX12_advance_58 {q : Nat → Nat}  (X : tc_X dC dI ca A RX12 cX12_advance 2 none p s m args meth c) (z : ms_T)     : ∀ (S : ms_T), fX12_advance_58 S = some z → ∀ (H : Heap) (locs : List Loc) (ls : Array Slot), va_P (dC, dI) classes (w12 ca q S) H → va_D A (w12 ca q S) → va_S A s.heap H locs → lv_has ls 2 [(0, .ref (q 0))] → W p l e rmX12_advance s m args below meth c H locs 0 0 (MQ below (tc_QV dC dI ca A (w12 ca q z)) args s 0 0 A) (F0 m 58 ls []) := by
  obtain ⟨hx, hb, hr, hml, hown, hts, hlk, hK, hA, hG⟩ := id X
  intro S hf H locs ls hP hD hS hl
  unfold fX12_advance_58 at hf
  refine lv_aload_n hx hb dX12_advance_58 rfl (lv_at hl 0 rfl) ?_
  refine lv_aload_n hx hb dX12_advance_59 rfl (lv_at hl 0 rfl) ?_
  refine va_get (D := (dC, dI)) (ci := 12) (v := .int (gi S 15)) (C := RX12) (T := TX12) (N := 49) hx hb hts i_X12 hown hK hP 0 rfl rfl 15 (by decide) (hts _ wf_X12_112) (fun _ h9 => h9) rfl dX12_advance_60 ?_
  refine va_put (D := (dC, dI)) (ci := 12) (v := .int (gi S 15)) (ty := .int) (C := RX12) (T := TX12) (N := 49) hx hb hts i_X12 tyX12 tyX12_ok nmX12 hown hK hP hD hS 0 rfl rfl 16 (by decide) (hts _ wf_X12_109) (fun _ h9 => h9) rfl (tyX12_ok 16 (by decide)) rfl rfl (Nat.le_of_ble_eq_true rfl) dX12_advance_63 (fun H locs hP hD hS => ?_)
  have hP := tc_eP (pw12_0_16 ca q S (gi S 15)) hP
  have hD := tc_eD (pw12_0_16 ca q S (gi S 15)) hD
  refine lv_aload_n hx hb dX12_advance_66 rfl (lv_at hl 0 rfl) ?_
  refine va_get (D := (dC, dI)) (ci := 12) (v := .int (gi (si S 16 (gi S 15)) 15)) (C := RX12) (T := TX12) (N := 49) hx hb hts i_X12 hown hK hP 0 rfl rfl 15 (by decide) (hts _ wf_X12_112) (fun _ h9 => h9) rfl dX12_advance_67 ?_
  refine lv_aload_n hx hb dX12_advance_70 rfl (lv_at hl 0 rfl) ?_
  refine va_get (D := (dC, dI)) (ci := 12) (v := .int (gi (si S 16 (gi S 15)) 9)) (C := RX12) (T := TX12) (N := 49) hx hb hts i_X12 hown hK hP 0 rfl rfl 9 (by decide) (hts _ wf_X12_106) (fun _ h9 => h9) rfl dX12_advance_71 ?_
  refine lv_icmp_lt (tgt := 83) hx hb dX12_advance_74 (by decide) (fun hc => ?_) (fun hc => ?_)
  · have hf := tc_pos hc hf
    refine lv_aload_n hx hb dX12_advance_83 rfl (lv_at hl 0 rfl) ?_
    refine lv_aload_n hx hb dX12_advance_84 rfl (lv_at hl 0 rfl) ?_
    refine va_get (D := (dC, dI)) (ci := 12) (v := .int (gi (si S 16 (gi S 15)) 15)) (C := RX12) (T := TX12) (N := 49) hx hb hts i_X12 hown hK hP 0 rfl rfl 15 (by decide) (hts _ wf_X12_112) (fun _ h9 => h9) rfl dX12_advance_85 ?_
    obtain ⟨z1, hg, hf⟩ := tc_bi hf
    refine tc_iVs (As := [.int (gi (si S 16 (gi S 15)) 15)]) (rest := []) (b := q 0) X hP hD hS (mX12_look2 hg) okX12_look2 wl_X12_115 wi_X12_look2 ws_X12_X12_look2_X12_look2 ⟨rfl, rfl, Nat.le_of_ble_eq_true rfl, Nat.le_of_ble_eq_true rfl⟩ 12 0 rfl rfl rfl hl.1 (Nat.le_of_ble_eq_true rfl) dX12_advance_88 (fun H locs hP hD hS => ?_)
    refine lv_istore_n (lv' := [(1, .int (z1)), (0, .ref (q 0))]) hx hb dX12_advance_91 rfl hl (by decide) rfl (fun ls hl => ?_)
    refine lv_iload_n hx hb dX12_advance_92 rfl (lv_at hl 0 rfl) ?_
    obtain ⟨z2, hg, hf⟩ := tc_bi hf
    refine tc_iS0 (As := [.int (z1)]) (rest := []) X hP hD hS (mX12_isLetter hg) okX12_isLetter wl_X12_121 wt_X12_isLetter ⟨rfl, rfl, Nat.le_of_ble_eq_true rfl, Nat.le_of_ble_eq_true rfl⟩ rfl hl.1 (Nat.le_of_ble_eq_true rfl) dX12_advance_93 (fun H locs hP hD hS => ?_)
    refine lv_if_eq (tgt := 198) hx hb dX12_advance_96 (by decide) (fun hc => ?_) (fun hc => ?_)
    · have hf := tc_pos hc hf
      refine lv_iload_n hx hb dX12_advance_198 rfl (lv_at hl 0 rfl) ?_
      obtain ⟨z3, hg, hf⟩ := tc_bi hf
      refine tc_iS0 (As := [.int (z1)]) (rest := []) X hP hD hS (mX12_isDigit hg) okX12_isDigit wl_X12_134 wt_X12_isDigit ⟨rfl, rfl, Nat.le_of_ble_eq_true rfl, Nat.le_of_ble_eq_true rfl⟩ rfl hl.1 (Nat.le_of_ble_eq_true rfl) dX12_advance_199 (fun H locs hP hD hS => ?_)
      refine lv_if_eq (tgt := 298) hx hb dX12_advance_202 (by decide) (fun hc => ?_) (fun hc => ?_)
      · have hf := tc_pos hc hf
        refine lv_aload_n hx hb dX12_advance_298 rfl (lv_at hl 1 rfl) ?_
        refine lv_aload_n hx hb dX12_advance_299 rfl (lv_at hl 1 rfl) ?_
        refine va_get (D := (dC, dI)) (ci := 12) (v := .int (gi (si S 16 (gi S 15)) 15)) (C := RX12) (T := TX12) (N := 49) hx hb hts i_X12 hown hK hP 0 rfl rfl 15 (by decide) (hts _ wf_X12_112) (fun _ h9 => h9) rfl dX12_advance_300 ?_
        refine lv_iconst (v := (1 : Int32)) hx hb dX12_advance_303 (by decide) ?_
        refine lv_iadd hx hb dX12_advance_304 ?_
        refine va_put (D := (dC, dI)) (ci := 12) (v := .int ((gi (si S 16 (gi S 15)) 15) + (1 : Int32))) (ty := .int) (C := RX12) (T := TX12) (N := 49) hx hb hts i_X12 tyX12 tyX12_ok nmX12 hown hK hP hD hS 0 rfl rfl 16 (by decide) (hts _ wf_X12_109) (fun _ h9 => h9) rfl (tyX12_ok 16 (by decide)) rfl rfl (Nat.le_of_ble_eq_true rfl) dX12_advance_305 (fun H locs hP hD hS => ?_)
        have hP := tc_eP (pw12_0_16 ca q (si S 16 (gi S 15)) ((gi (si S 16 (gi S 15)) 15) + (1 : Int32))) hP
        have hD := tc_eD (pw12_0_16 ca q (si S 16 (gi S 15)) ((gi (si S 16 (gi S 15)) 15) + (1 : Int32))) hD
        refine lv_aload_n hx hb dX12_advance_308 rfl (lv_at hl 1 rfl) ?_
        refine lv_iload_n hx hb dX12_advance_309 rfl (lv_at hl 0 rfl) ?_
        refine va_put (D := (dC, dI)) (ci := 12) (v := .int (z1)) (ty := .int) (C := RX12) (T := TX12) (N := 49) hx hb hts i_X12 tyX12 tyX12_ok nmX12 hown hK hP hD hS 0 rfl rfl 17 (by decide) (hts _ wf_X12_137) (fun _ h9 => h9) rfl (tyX12_ok 17 (by decide)) rfl rfl (Nat.le_of_ble_eq_true rfl) dX12_advance_310 (fun H locs hP hD hS => ?_)
        have hP := tc_eP (pw12_0_17 ca q (si (si S 16 (gi S 15)) 16 ((gi (si S 16 (gi S 15)) 15) + (1 : Int32))) z1) hP
        have hD := tc_eD (pw12_0_17 ca q (si (si S 16 (gi S 15)) 16 ((gi (si S 16 (gi S 15)) 15) + (1 : Int32))) z1) hD
        refine lv_aload_n hx hb dX12_advance_313 rfl (lv_at hl 1 rfl) ?_
        refine lv_aload_n hx hb dX12_advance_314 rfl (lv_at hl 1 rfl) ?_
        refine lv_iload_n hx hb dX12_advance_315 rfl (lv_at hl 0 rfl) ?_
        obtain ⟨z4, hg, hf⟩ := tc_bi hf
        refine tc_iVs (As := [.int (z1)]) (rest := [.ref (q 0)]) (b := q 0) X hP hD hS (mX12_isSignByte hg) okX12_isSignByte wl_X12_140 wi_X12_isSignByte ws_X12_X12_isSignByte_X12_isSignByte ⟨rfl, rfl, Nat.le_of_ble_eq_true rfl, Nat.le_of_ble_eq_true rfl⟩ 12 0 rfl rfl rfl hl.1 (Nat.le_of_ble_eq_true rfl) dX12_advance_316 (fun H locs hP hD hS => ?_)
        refine lv_if_eq (tgt := 326) hx hb dX12_advance_319 (by decide) (fun hc => ?_) (fun hc => ?_)
        · have hf := tc_pos hc hf
          refine lv_iconst (v := (4 : Int32)) hx hb dX12_advance_326 (by decide) ?_
          refine va_put (D := (dC, dI)) (ci := 12) (v := .int ((4 : Int32))) (ty := .int) (C := RX12) (T := TX12) (N := 49) hx hb hts i_X12 tyX12 tyX12_ok nmX12 hown hK hP hD hS 0 rfl rfl 14 (by decide) (hts _ wf_X12_118) (fun _ h9 => h9) rfl (tyX12_ok 14 (by decide)) rfl rfl (Nat.le_of_ble_eq_true rfl) dX12_advance_327 (fun H locs hP hD hS => ?_)
          have hP := tc_eP (pw12_0_14 ca q (si (si (si S 16 (gi S 15)) 16 ((gi (si S 16 (gi S 15)) 15) + (1 : Int32))) 17 z1) (4 : Int32)) hP
          have hD := tc_eD (pw12_0_14 ca q (si (si (si S 16 (gi S 15)) 16 ((gi (si S 16 (gi S 15)) 15) + (1 : Int32))) 17 z1) (4 : Int32)) hD
          obtain rfl := Option.some.inj hf
          exact tc_rv X hP hD hS rfl dX12_advance_330 rfl
        · have hf := tc_neg hc hf
          refine lv_iconst (v := (3 : Int32)) hx hb dX12_advance_322 (by decide) ?_
          refine lv_goto (tgt := 327) hx hb dX12_advance_323 (by decide) ?_
          refine va_put (D := (dC, dI)) (ci := 12) (v := .int ((3 : Int32))) (ty := .int) (C := RX12) (T := TX12) (N := 49) hx hb hts i_X12 tyX12 tyX12_ok nmX12 hown hK hP hD hS 0 rfl rfl 14 (by decide) (hts _ wf_X12_118) (fun _ h9 => h9) rfl (tyX12_ok 14 (by decide)) rfl rfl (Nat.le_of_ble_eq_true rfl) dX12_advance_327 (fun H locs hP hD hS => ?_)
          have hP := tc_eP (pw12_0_14 ca q (si (si (si S 16 (gi S 15)) 16 ((gi (si S 16 (gi S 15)) 15) + (1 : Int32))) 17 z1) (3 : Int32)) hP
          have hD := tc_eD (pw12_0_14 ca q (si (si (si S 16 (gi S 15)) 16 ((gi (si S 16 (gi S 15)) 15) + (1 : Int32))) 17 z1) (3 : Int32)) hD
          obtain rfl := Option.some.inj hf
          exact tc_rv X hP hD hS rfl dX12_advance_330 rfl
      · have hf := tc_neg hc hf
        refine lv_aload_n hx hb dX12_advance_205 rfl (lv_at hl 1 rfl) ?_
        refine lv_iconst (v := (0 : Int32)) hx hb dX12_advance_206 (by decide) ?_
        refine va_put (D := (dC, dI)) (ci := 12) (v := .int ((0 : Int32))) (ty := .int) (C := RX12) (T := TX12) (N := 49) hx hb hts i_X12 tyX12 tyX12_ok nmX12 hown hK hP hD hS 0 rfl rfl 17 (by decide) (hts _ wf_X12_137) (fun _ h9 => h9) rfl (tyX12_ok 17 (by decide)) rfl rfl (Nat.le_of_ble_eq_true rfl) dX12_advance_207 (fun H locs hP hD hS => ?_)
        have hP := tc_eP (pw12_0_17 ca q (si S 16 (gi S 15)) (0 : Int32)) hP
        have hD := tc_eD (pw12_0_17 ca q (si S 16 (gi S 15)) (0 : Int32)) hD
        exact tX12_advance_210 X z FU (si (si S 16 (gi S 15)) 17 (0 : Int32)) hf _ _ _ hP hD hS (lv_sub hl [1] rfl)
    · have hf := tc_neg hc hf
      refine lv_aload_n hx hb dX12_advance_99 rfl (lv_at hl 1 rfl) ?_
      refine lv_iconst (v := (1 : Int32)) hx hb dX12_advance_100 (by decide) ?_
      refine va_put (D := (dC, dI)) (ci := 12) (v := .int ((1 : Int32))) (ty := .int) (C := RX12) (T := TX12) (N := 49) hx hb hts i_X12 tyX12 tyX12_ok nmX12 hown hK hP hD hS 0 rfl rfl 14 (by decide) (hts _ wf_X12_118) (fun _ h9 => h9) rfl (tyX12_ok 14 (by decide)) rfl rfl (Nat.le_of_ble_eq_true rfl) dX12_advance_101 (fun H locs hP hD hS => ?_)
      have hP := tc_eP (pw12_0_14 ca q (si S 16 (gi S 15)) (1 : Int32)) hP
      have hD := tc_eD (pw12_0_14 ca q (si S 16 (gi S 15)) (1 : Int32)) hD
      refine lv_aload_n hx hb dX12_advance_104 rfl (lv_at hl 1 rfl) ?_
      refine lv_lconst (v := (0 : Int64)) hx hb dX12_advance_105 (by decide) ?_
      refine va_put (D := (dC, dI)) (ci := 12) (v := .long ((0 : Int64))) (ty := .long) (C := RX12) (T := TX12) (N := 49) hx hb hts i_X12 tyX12 tyX12_ok nmX12 hown hK hP hD hS 0 rfl rfl 19 (by decide) (hts _ wf_X12_124) (fun _ h9 => h9) rfl (tyX12_ok 19 (by decide)) rfl rfl (Nat.le_of_ble_eq_true rfl) dX12_advance_106 (fun H locs hP hD hS => ?_)
      have hP := tc_eP (pw12_0_19 ca q (si (si S 16 (gi S 15)) 14 (1 : Int32)) (0 : Int64)) hP
      have hD := tc_eD (pw12_0_19 ca q (si (si S 16 (gi S 15)) 14 (1 : Int32)) (0 : Int64)) hD
      exact tX12_advance_109 X z FU (sl (si (si S 16 (gi S 15)) 14 (1 : Int32)) 19 (0 : Int64)) hf _ _ _ hP hD hS (lv_sub hl [1] rfl)
  · have hf := tc_neg hc hf
    refine lv_aload_n hx hb dX12_advance_77 rfl (lv_at hl 0 rfl) ?_
    refine lv_iconst (v := (0 : Int32)) hx hb dX12_advance_78 (by decide) ?_
    refine va_put (D := (dC, dI)) (ci := 12) (v := .int ((0 : Int32))) (ty := .int) (C := RX12) (T := TX12) (N := 49) hx hb hts i_X12 tyX12 tyX12_ok nmX12 hown hK hP hD hS 0 rfl rfl 14 (by decide) (hts _ wf_X12_118) (fun _ h9 => h9) rfl (tyX12_ok 14 (by decide)) rfl rfl (Nat.le_of_ble_eq_true rfl) dX12_advance_79 (fun H locs hP hD hS => ?_)
    have hP := tc_eP (pw12_0_14 ca q (si S 16 (gi S 15)) (0 : Int32)) hP
    have hD := tc_eD (pw12_0_14 ca q (si S 16 (gi S 15)) (0 : Int32)) hD
    obtain rfl := Option.some.inj hf
    exact tc_rv X hP hD hS rfl dX12_advance_82 rfl
set_option maxRecDepth 20000 in
theorem tX12_advance_8 {q : Nat → Nat}  (X : tc_X dC dI ca A RX12 cX12_advance 2 none p s m args meth c) (z : ms_T)     : ∀ n : Nat, ∀ (S : ms_T), fX12_advance_8 n S = some z → ∀ (H : Heap) (locs : List Loc) (ls : Array Slot), va_P (dC, dI) classes (w12 ca q S) H → va_D A (w12 ca q S) → va_S A s.heap H locs → lv_has ls 2 [(0, .ref (q 0))] → W p l e rmX12_advance s m args below meth c H locs 0 0 (MQ below (tc_QV dC dI ca A (w12 ca q z)) args s 0 0 A) (F0 m 8 ls []) := by
  obtain ⟨hx, hb, hr, hml, hown, hts, hlk, hK, hA, hG⟩ := id X
  intro n
  induction n with
  | zero => intro S hf; exact absurd (show none = some z from hf) (fun h => by cases h)
  | succ n ih =>
    intro S hf H locs ls hP hD hS hl
    rw [fX12_advance_8] at hf
    refine lv_aload_n hx hb dX12_advance_8 rfl (lv_at hl 0 rfl) ?_
    refine va_get (D := (dC, dI)) (ci := 12) (v := .int (gi S 15)) (C := RX12) (T := TX12) (N := 49) hx hb hts i_X12 hown hK hP 0 rfl rfl 15 (by decide) (hts _ wf_X12_112) (fun _ h9 => h9) rfl dX12_advance_9 ?_
    refine lv_aload_n hx hb dX12_advance_12 rfl (lv_at hl 0 rfl) ?_
    refine va_get (D := (dC, dI)) (ci := 12) (v := .int (gi S 9)) (C := RX12) (T := TX12) (N := 49) hx hb hts i_X12 hown hK hP 0 rfl rfl 9 (by decide) (hts _ wf_X12_106) (fun _ h9 => h9) rfl dX12_advance_13 ?_
    refine lv_icmp_ge (tgt := 58) hx hb dX12_advance_16 (by decide) (fun hc => ?_) (fun hc => ?_)
    · have hf := tc_pos hc hf
      exact tX12_advance_58 X z S hf _ _ _ hP hD hS (lv_sub hl [0] rfl)
    · have hf := tc_neg hc hf
      refine lv_aload_n hx hb dX12_advance_19 rfl (lv_at hl 0 rfl) ?_
      refine lv_aload_n hx hb dX12_advance_20 rfl (lv_at hl 0 rfl) ?_
      refine va_get (D := (dC, dI)) (ci := 12) (v := .int (gi S 15)) (C := RX12) (T := TX12) (N := 49) hx hb hts i_X12 hown hK hP 0 rfl rfl 15 (by decide) (hts _ wf_X12_112) (fun _ h9 => h9) rfl dX12_advance_21 ?_
      obtain ⟨z11, hg, hf⟩ := tc_bi hf
      refine tc_iVs (As := [.int (gi S 15)]) (rest := []) (b := q 0) X hP hD hS (mX12_look2 hg) okX12_look2 wl_X12_115 wi_X12_look2 ws_X12_X12_look2_X12_look2 ⟨rfl, rfl, Nat.le_of_ble_eq_true rfl, Nat.le_of_ble_eq_true rfl⟩ 12 0 rfl rfl rfl hl.1 (Nat.le_of_ble_eq_true rfl) dX12_advance_24 (fun H locs hP hD hS => ?_)
      refine lv_bipush (v := (10 : Int32)) hx hb dX12_advance_27 (by decide) ?_
      refine lv_icmp_eq (tgt := 45) hx hb dX12_advance_29 (by decide) (fun hc => ?_) (fun hc => ?_)
      · have hf := tc_pos hc hf
        refine lv_aload_n hx hb dX12_advance_45 rfl (lv_at hl 0 rfl) ?_
        refine lv_dup hx hb dX12_advance_46 rfl ?_
        refine va_get (D := (dC, dI)) (ci := 12) (v := .int (gi S 15)) (C := RX12) (T := TX12) (N := 49) hx hb hts i_X12 hown hK hP 0 rfl rfl 15 (by decide) (hts _ wf_X12_112) (fun _ h9 => h9) rfl dX12_advance_47 ?_
        refine lv_iconst (v := (1 : Int32)) hx hb dX12_advance_50 (by decide) ?_
        refine lv_iadd hx hb dX12_advance_51 ?_
        refine va_put (D := (dC, dI)) (ci := 12) (v := .int ((gi S 15) + (1 : Int32))) (ty := .int) (C := RX12) (T := TX12) (N := 49) hx hb hts i_X12 tyX12 tyX12_ok nmX12 hown hK hP hD hS 0 rfl rfl 15 (by decide) (hts _ wf_X12_112) (fun _ h9 => h9) rfl (tyX12_ok 15 (by decide)) rfl rfl (Nat.le_of_ble_eq_true rfl) dX12_advance_52 (fun H locs hP hD hS => ?_)
        have hP := tc_eP (pw12_0_15 ca q S ((gi S 15) + (1 : Int32))) hP
        have hD := tc_eD (pw12_0_15 ca q S ((gi S 15) + (1 : Int32))) hD
        refine lv_goto (tgt := 8) hx hb dX12_advance_55 (by decide) ?_
        exact ih (si S 15 ((gi S 15) + (1 : Int32))) hf _ _ _ hP hD hS (lv_sub hl [0] rfl)
      · have hf := tc_neg hc hf
        refine lv_aload_n hx hb dX12_advance_32 rfl (lv_at hl 0 rfl) ?_
        refine lv_aload_n hx hb dX12_advance_33 rfl (lv_at hl 0 rfl) ?_
        refine va_get (D := (dC, dI)) (ci := 12) (v := .int (gi S 15)) (C := RX12) (T := TX12) (N := 49) hx hb hts i_X12 hown hK hP 0 rfl rfl 15 (by decide) (hts _ wf_X12_112) (fun _ h9 => h9) rfl dX12_advance_34 ?_
        obtain ⟨z12, hg, hf⟩ := tc_bi hf
        refine tc_iVs (As := [.int (gi S 15)]) (rest := []) (b := q 0) X hP hD hS (mX12_look2 hg) okX12_look2 wl_X12_115 wi_X12_look2 ws_X12_X12_look2_X12_look2 ⟨rfl, rfl, Nat.le_of_ble_eq_true rfl, Nat.le_of_ble_eq_true rfl⟩ 12 0 rfl rfl rfl hl.1 (Nat.le_of_ble_eq_true rfl) dX12_advance_37 (fun H locs hP hD hS => ?_)
        refine lv_bipush (v := (32 : Int32)) hx hb dX12_advance_40 (by decide) ?_
        refine lv_icmp_ne (tgt := 58) hx hb dX12_advance_42 (by decide) (fun hc => ?_) (fun hc => ?_)
        · have hf := tc_neg hc hf
          exact tX12_advance_58 X z S hf _ _ _ hP hD hS (lv_sub hl [0] rfl)
        · have hf := tc_pos hc hf
          refine lv_aload_n hx hb dX12_advance_45 rfl (lv_at hl 0 rfl) ?_
          refine lv_dup hx hb dX12_advance_46 rfl ?_
          refine va_get (D := (dC, dI)) (ci := 12) (v := .int (gi S 15)) (C := RX12) (T := TX12) (N := 49) hx hb hts i_X12 hown hK hP 0 rfl rfl 15 (by decide) (hts _ wf_X12_112) (fun _ h9 => h9) rfl dX12_advance_47 ?_
          refine lv_iconst (v := (1 : Int32)) hx hb dX12_advance_50 (by decide) ?_
          refine lv_iadd hx hb dX12_advance_51 ?_
          refine va_put (D := (dC, dI)) (ci := 12) (v := .int ((gi S 15) + (1 : Int32))) (ty := .int) (C := RX12) (T := TX12) (N := 49) hx hb hts i_X12 tyX12 tyX12_ok nmX12 hown hK hP hD hS 0 rfl rfl 15 (by decide) (hts _ wf_X12_112) (fun _ h9 => h9) rfl (tyX12_ok 15 (by decide)) rfl rfl (Nat.le_of_ble_eq_true rfl) dX12_advance_52 (fun H locs hP hD hS => ?_)
          have hP := tc_eP (pw12_0_15 ca q S ((gi S 15) + (1 : Int32))) hP
          have hD := tc_eD (pw12_0_15 ca q S ((gi S 15) + (1 : Int32))) hD
          refine lv_goto (tgt := 8) hx hb dX12_advance_55 (by decide) ?_
          exact ih (si S 15 ((gi S 15) + (1 : Int32))) hf _ _ _ hP hD hS (lv_sub hl [0] rfl)
set_option maxRecDepth 20000 in
theorem mX12_advance {q : Nat → Nat}  {S : ms_T}  {z : ms_T}  (hf : fX12_advance S = some z) : tc_MV l dC dI ca yX12_advance cX12_advance 2 none rmX12_advance [.ref (q 0)] (w12 ca q S) (w12 ca q z) := by
  refine tc_metV (own := RX12) (by decide) rfl ?_ (Nat.le_of_ble_eq_true rfl)
  intro p e s m below meth c A X hP hD hS ls hl
  obtain ⟨hx, hb, hr, hml, hown, hts, hlk, hK, hA, hG⟩ := id X
  unfold fX12_advance at hf
  have hl : lv_has ls 2 [(0, .ref (q 0))] := hl
  refine lv_aload_n hx hb dX12_advance_0 rfl (lv_at hl 0 rfl) ?_
  refine lv_aload_n hx hb dX12_advance_1 rfl (lv_at hl 0 rfl) ?_
  refine va_get (D := (dC, dI)) (ci := 12) (v := .int (gi S 16)) (C := RX12) (T := TX12) (N := 49) hx hb hts i_X12 hown hK hP 0 rfl rfl 16 (by decide) (hts _ wf_X12_109) (fun _ h9 => h9) rfl dX12_advance_2 ?_
  refine va_put (D := (dC, dI)) (ci := 12) (v := .int (gi S 16)) (ty := .int) (C := RX12) (T := TX12) (N := 49) hx hb hts i_X12 tyX12 tyX12_ok nmX12 hown hK hP hD hS 0 rfl rfl 15 (by decide) (hts _ wf_X12_112) (fun _ h9 => h9) rfl (tyX12_ok 15 (by decide)) rfl rfl (Nat.le_of_ble_eq_true rfl) dX12_advance_5 (fun H locs hP hD hS => ?_)
  have hP := tc_eP (pw12_0_15 ca q S (gi S 16)) hP
  have hD := tc_eD (pw12_0_15 ca q S (gi S 16)) hD
  exact tX12_advance_8 X z FU (si S 15 (gi S 16)) hf _ _ _ hP hD hS (lv_sub hl [0] rfl)
def fX12_isSign  (S : ms_T) (a1 : Int32) : Option (Int32) :=
  if (gi S 14) = (3 : Int32) then
    if (gi S 17) = a1 then
      some ((1 : Int32))
    else
      some ((0 : Int32))
  else
    some ((0 : Int32))
abbrev rmX12_isSign : Room := { frames := 0, cells := 0, slots := 0, locals := 0 }
theorem okX12_isSign : tc_ok yX12_isSign cX12_isSign 2 (some .boolean) 1 := ⟨wc_X12_isSign, wn_X12, by decide, by decide, by decide +kernel⟩
set_option maxRecDepth 20000 in
theorem mX12_isSign {q : Nat → Nat}  {S : ms_T} {a1 : Int32} {z : Int32}  (hf : fX12_isSign S a1 = some z) : tc_MI l dC dI ca yX12_isSign cX12_isSign 2 (some .boolean) rmX12_isSign [.ref (q 0), .int (a1)] (w12 ca q S) (w12 ca q S) (z) := by
  refine tc_metI (own := RX12) (by decide) rfl ?_ (Nat.le_of_ble_eq_true rfl)
  intro p e s m below meth c A X hP hD hS ls hl
  obtain ⟨hx, hb, hr, hml, hown, hts, hlk, hK, hA, hG⟩ := id X
  unfold fX12_isSign at hf
  have hl : lv_has ls 2 [(0, .ref (q 0)), (1, .int (a1))] := hl
  refine lv_aload_n hx hb dX12_isSign_0 rfl (lv_at hl 0 rfl) ?_
  refine va_get (D := (dC, dI)) (ci := 12) (v := .int (gi S 14)) (C := RX12) (T := TX12) (N := 49) hx hb hts i_X12 hown hK hP 0 rfl rfl 14 (by decide) (hts _ wf_X12_118) (fun _ h9 => h9) rfl dX12_isSign_1 ?_
  refine lv_iconst (v := (3 : Int32)) hx hb dX12_isSign_4 (by decide) ?_
  refine lv_icmp_ne (tgt := 20) hx hb dX12_isSign_5 (by decide) (fun hc => ?_) (fun hc => ?_)
  · have hf := tc_neg hc hf
    refine lv_iconst (v := (0 : Int32)) hx hb dX12_isSign_20 (by decide) ?_
    obtain rfl := Option.some.inj hf
    exact tc_rz X hP hD hS rfl dX12_isSign_21 (by decide) rfl rfl
  · have hf := tc_pos hc hf
    refine lv_aload_n hx hb dX12_isSign_8 rfl (lv_at hl 0 rfl) ?_
    refine va_get (D := (dC, dI)) (ci := 12) (v := .int (gi S 17)) (C := RX12) (T := TX12) (N := 49) hx hb hts i_X12 hown hK hP 0 rfl rfl 17 (by decide) (hts _ wf_X12_137) (fun _ h9 => h9) rfl dX12_isSign_9 ?_
    refine lv_iload_n hx hb dX12_isSign_12 rfl (lv_at hl 1 rfl) ?_
    refine lv_icmp_ne (tgt := 20) hx hb dX12_isSign_13 (by decide) (fun hc => ?_) (fun hc => ?_)
    · have hf := tc_neg hc hf
      refine lv_iconst (v := (0 : Int32)) hx hb dX12_isSign_20 (by decide) ?_
      obtain rfl := Option.some.inj hf
      exact tc_rz X hP hD hS rfl dX12_isSign_21 (by decide) rfl rfl
    · have hf := tc_pos hc hf
      refine lv_iconst (v := (1 : Int32)) hx hb dX12_isSign_16 (by decide) ?_
      refine lv_goto (tgt := 21) hx hb dX12_isSign_17 (by decide) ?_
      obtain rfl := Option.some.inj hf
      exact tc_rz X hP hD hS rfl dX12_isSign_21 (by decide) rfl rfl
def fX12_spelled_91    (v5 : Int32) (t0 : Int64) : Option (Int64) :=
  if v5 ≤ 0 then
    some (t0)
  else
    some (((t0 * (32 : Int64)) + v5.toInt64) - (96 : Int64))
def fX12_spelled_65    (v4 : Int32) (v5 : Int32) (t0 : Int64) : Option (Int64) :=
  if v4 ≤ 0 then
    fX12_spelled_91 v5 t0
  else
    fX12_spelled_91 v5 (((t0 * (32 : Int64)) + v4.toInt64) - (96 : Int64))
def fX12_spelled_41    (v3 : Int32) (v4 : Int32) (v5 : Int32) (t0 : Int64) : Option (Int64) :=
  if v3 ≤ 0 then
    fX12_spelled_65 v4 v5 t0
  else
    fX12_spelled_65 v4 v5 (((t0 * (32 : Int64)) + v3.toInt64) - (96 : Int64))
def fX12_spelled   (a0 : Int32) (a1 : Int32) (a2 : Int32) (a3 : Int32) (a4 : Int32) (a5 : Int32) : Option (Int64) :=
  if a2 ≤ 0 then
    fX12_spelled_41 a3 a4 a5 ((((a0.toInt64 - (96 : Int64)) * (32 : Int64)) + a1.toInt64) - (96 : Int64))
  else
    fX12_spelled_41 a3 a4 a5 (((((((a0.toInt64 - (96 : Int64)) * (32 : Int64)) + a1.toInt64) - (96 : Int64)) * (32 : Int64)) + a2.toInt64) - (96 : Int64))
abbrev rmX12_spelled : Room := { frames := 0, cells := 0, slots := 0, locals := 0 }
theorem okX12_spelled : tc_ok yX12_spelled cX12_spelled 8 (some .long) 6 := ⟨wc_X12_spelled, wn_X12, by decide, by decide, by decide +kernel⟩
set_option maxRecDepth 20000 in
theorem tX12_spelled_91   (X : tc_X dC dI ca A RX12 cX12_spelled 8 (some .long) p s m args meth c) (z : Int64)     : ∀ (v5 : Int32) (t0 : Int64), fX12_spelled_91 v5 t0 = some z → ∀ (H : Heap) (locs : List Loc) (ls : Array Slot), va_P (dC, dI) classes [] H → va_D A [] → va_S A s.heap H locs → lv_has ls 8 [(5, .int (v5))] → W p l e rmX12_spelled s m args below meth c H locs 0 0 (MQ below (tc_QL dC dI ca A [] (z)) args s 0 0 A) (F0 m 91 ls [.long (t0)]) := by
  obtain ⟨hx, hb, hr, hml, hown, hts, hlk, hK, hA, hG⟩ := id X
  intro v5 t0 hf H locs ls hP hD hS hl
  unfold fX12_spelled_91 at hf
  refine lv_lstore (lv' := [(6, .long (t0)), (5, .int (v5))]) hx hb dX12_spelled_91 hl (by decide) rfl (fun ls hl => ?_)
  refine lv_iload hx hb dX12_spelled_93 (lv_at hl 1 rfl) ?_
  refine lv_if_le (tgt := 115) hx hb dX12_spelled_95 (by decide) (fun hc => ?_) (fun hc => ?_)
  · have hf := tc_pos hc hf
    refine lv_lload hx hb dX12_spelled_115 (lv_at hl 0 rfl) ?_
    obtain rfl := Option.some.inj hf
    exact tc_rl X hP hD hS rfl dX12_spelled_117 rfl rfl
  · have hf := tc_neg hc hf
    refine lv_lload hx hb dX12_spelled_98 (lv_at hl 0 rfl) ?_
    refine lv_ldc2 (v := (32 : Int64)) hx hb hown (hts _ wk_X12_127) dX12_spelled_100 ?_
    refine lv_lmul hx hb dX12_spelled_103 ?_
    refine lv_iload hx hb dX12_spelled_104 (lv_at hl 1 rfl) ?_
    refine lv_i2l (v := v5.toInt64) hx hb dX12_spelled_106 rfl ?_
    refine lv_ladd hx hb dX12_spelled_107 ?_
    refine lv_ldc2 (v := (96 : Int64)) hx hb hown (hts _ wk_X12_129) dX12_spelled_108 ?_
    refine lv_lsub hx hb dX12_spelled_111 ?_
    refine lv_goto (tgt := 117) hx hb dX12_spelled_112 (by decide) ?_
    obtain rfl := Option.some.inj hf
    exact tc_rl X hP hD hS rfl dX12_spelled_117 rfl rfl
set_option maxRecDepth 20000 in
theorem tX12_spelled_65   (X : tc_X dC dI ca A RX12 cX12_spelled 8 (some .long) p s m args meth c) (z : Int64)     : ∀ (v4 : Int32) (v5 : Int32) (t0 : Int64), fX12_spelled_65 v4 v5 t0 = some z → ∀ (H : Heap) (locs : List Loc) (ls : Array Slot), va_P (dC, dI) classes [] H → va_D A [] → va_S A s.heap H locs → lv_has ls 8 [(4, .int (v4)), (5, .int (v5))] → W p l e rmX12_spelled s m args below meth c H locs 0 0 (MQ below (tc_QL dC dI ca A [] (z)) args s 0 0 A) (F0 m 65 ls [.long (t0)]) := by
  obtain ⟨hx, hb, hr, hml, hown, hts, hlk, hK, hA, hG⟩ := id X
  intro v4 v5 t0 hf H locs ls hP hD hS hl
  unfold fX12_spelled_65 at hf
  refine lv_lstore (lv' := [(6, .long (t0)), (4, .int (v4)), (5, .int (v5))]) hx hb dX12_spelled_65 hl (by decide) rfl (fun ls hl => ?_)
  refine lv_iload hx hb dX12_spelled_67 (lv_at hl 1 rfl) ?_
  refine lv_if_le (tgt := 89) hx hb dX12_spelled_69 (by decide) (fun hc => ?_) (fun hc => ?_)
  · have hf := tc_pos hc hf
    refine lv_lload hx hb dX12_spelled_89 (lv_at hl 0 rfl) ?_
    exact tX12_spelled_91 X z v5 t0 hf _ _ _ hP hD hS (lv_sub hl [2] rfl)
  · have hf := tc_neg hc hf
    refine lv_lload hx hb dX12_spelled_72 (lv_at hl 0 rfl) ?_
    refine lv_ldc2 (v := (32 : Int64)) hx hb hown (hts _ wk_X12_127) dX12_spelled_74 ?_
    refine lv_lmul hx hb dX12_spelled_77 ?_
    refine lv_iload hx hb dX12_spelled_78 (lv_at hl 1 rfl) ?_
    refine lv_i2l (v := v4.toInt64) hx hb dX12_spelled_80 rfl ?_
    refine lv_ladd hx hb dX12_spelled_81 ?_
    refine lv_ldc2 (v := (96 : Int64)) hx hb hown (hts _ wk_X12_129) dX12_spelled_82 ?_
    refine lv_lsub hx hb dX12_spelled_85 ?_
    refine lv_goto (tgt := 91) hx hb dX12_spelled_86 (by decide) ?_
    exact tX12_spelled_91 X z v5 (((t0 * (32 : Int64)) + v4.toInt64) - (96 : Int64)) hf _ _ _ hP hD hS (lv_sub hl [2] rfl)
set_option maxRecDepth 20000 in
theorem tX12_spelled_41   (X : tc_X dC dI ca A RX12 cX12_spelled 8 (some .long) p s m args meth c) (z : Int64)     : ∀ (v3 : Int32) (v4 : Int32) (v5 : Int32) (t0 : Int64), fX12_spelled_41 v3 v4 v5 t0 = some z → ∀ (H : Heap) (locs : List Loc) (ls : Array Slot), va_P (dC, dI) classes [] H → va_D A [] → va_S A s.heap H locs → lv_has ls 8 [(3, .int (v3)), (4, .int (v4)), (5, .int (v5))] → W p l e rmX12_spelled s m args below meth c H locs 0 0 (MQ below (tc_QL dC dI ca A [] (z)) args s 0 0 A) (F0 m 41 ls [.long (t0)]) := by
  obtain ⟨hx, hb, hr, hml, hown, hts, hlk, hK, hA, hG⟩ := id X
  intro v3 v4 v5 t0 hf H locs ls hP hD hS hl
  unfold fX12_spelled_41 at hf
  refine lv_lstore (lv' := [(6, .long (t0)), (3, .int (v3)), (4, .int (v4)), (5, .int (v5))]) hx hb dX12_spelled_41 hl (by decide) rfl (fun ls hl => ?_)
  refine lv_iload_n hx hb dX12_spelled_43 rfl (lv_at hl 1 rfl) ?_
  refine lv_if_le (tgt := 63) hx hb dX12_spelled_44 (by decide) (fun hc => ?_) (fun hc => ?_)
  · have hf := tc_pos hc hf
    refine lv_lload hx hb dX12_spelled_63 (lv_at hl 0 rfl) ?_
    exact tX12_spelled_65 X z v4 v5 t0 hf _ _ _ hP hD hS (lv_sub hl [2, 3] rfl)
  · have hf := tc_neg hc hf
    refine lv_lload hx hb dX12_spelled_47 (lv_at hl 0 rfl) ?_
    refine lv_ldc2 (v := (32 : Int64)) hx hb hown (hts _ wk_X12_127) dX12_spelled_49 ?_
    refine lv_lmul hx hb dX12_spelled_52 ?_
    refine lv_iload_n hx hb dX12_spelled_53 rfl (lv_at hl 1 rfl) ?_
    refine lv_i2l (v := v3.toInt64) hx hb dX12_spelled_54 rfl ?_
    refine lv_ladd hx hb dX12_spelled_55 ?_
    refine lv_ldc2 (v := (96 : Int64)) hx hb hown (hts _ wk_X12_129) dX12_spelled_56 ?_
    refine lv_lsub hx hb dX12_spelled_59 ?_
    refine lv_goto (tgt := 65) hx hb dX12_spelled_60 (by decide) ?_
    exact tX12_spelled_65 X z v4 v5 (((t0 * (32 : Int64)) + v3.toInt64) - (96 : Int64)) hf _ _ _ hP hD hS (lv_sub hl [2, 3] rfl)
set_option maxRecDepth 20000 in
theorem mX12_spelled    {a0 : Int32} {a1 : Int32} {a2 : Int32} {a3 : Int32} {a4 : Int32} {a5 : Int32} {z : Int64}  (hf : fX12_spelled a0 a1 a2 a3 a4 a5 = some z) : tc_ML l dC dI ca yX12_spelled cX12_spelled 8 (some .long) rmX12_spelled [.int (a0), .int (a1), .int (a2), .int (a3), .int (a4), .int (a5)] [] [] (z) := by
  refine tc_metL (own := RX12) (by decide) rfl ?_ (Nat.le_of_ble_eq_true rfl)
  intro p e s m below meth c A X hP hD hS ls hl
  obtain ⟨hx, hb, hr, hml, hown, hts, hlk, hK, hA, hG⟩ := id X
  unfold fX12_spelled at hf
  have hl : lv_has ls 8 [(0, .int (a0)), (1, .int (a1)), (2, .int (a2)), (3, .int (a3)), (4, .int (a4)), (5, .int (a5))] := hl
  refine lv_iload_n hx hb dX12_spelled_0 rfl (lv_at hl 0 rfl) ?_
  refine lv_i2l (v := a0.toInt64) hx hb dX12_spelled_1 rfl ?_
  refine lv_ldc2 (v := (96 : Int64)) hx hb hown (hts _ wk_X12_129) dX12_spelled_2 ?_
  refine lv_lsub hx hb dX12_spelled_5 ?_
  refine lv_ldc2 (v := (32 : Int64)) hx hb hown (hts _ wk_X12_127) dX12_spelled_6 ?_
  refine lv_lmul hx hb dX12_spelled_9 ?_
  refine lv_iload_n hx hb dX12_spelled_10 rfl (lv_at hl 1 rfl) ?_
  refine lv_i2l (v := a1.toInt64) hx hb dX12_spelled_11 rfl ?_
  refine lv_ladd hx hb dX12_spelled_12 ?_
  refine lv_ldc2 (v := (96 : Int64)) hx hb hown (hts _ wk_X12_129) dX12_spelled_13 ?_
  refine lv_lsub hx hb dX12_spelled_16 ?_
  refine lv_lstore (lv' := [(6, .long ((((a0.toInt64 - (96 : Int64)) * (32 : Int64)) + a1.toInt64) - (96 : Int64))), (0, .int (a0)), (1, .int (a1)), (2, .int (a2)), (3, .int (a3)), (4, .int (a4)), (5, .int (a5))]) hx hb dX12_spelled_17 hl (by decide) rfl (fun ls hl => ?_)
  refine lv_iload_n hx hb dX12_spelled_19 rfl (lv_at hl 3 rfl) ?_
  refine lv_if_le (tgt := 39) hx hb dX12_spelled_20 (by decide) (fun hc => ?_) (fun hc => ?_)
  · have hf := tc_pos hc hf
    refine lv_lload hx hb dX12_spelled_39 (lv_at hl 0 rfl) ?_
    exact tX12_spelled_41 X z a3 a4 a5 ((((a0.toInt64 - (96 : Int64)) * (32 : Int64)) + a1.toInt64) - (96 : Int64)) hf _ _ _ hP hD hS (lv_sub hl [4, 5, 6] rfl)
  · have hf := tc_neg hc hf
    refine lv_lload hx hb dX12_spelled_23 (lv_at hl 0 rfl) ?_
    refine lv_ldc2 (v := (32 : Int64)) hx hb hown (hts _ wk_X12_127) dX12_spelled_25 ?_
    refine lv_lmul hx hb dX12_spelled_28 ?_
    refine lv_iload_n hx hb dX12_spelled_29 rfl (lv_at hl 3 rfl) ?_
    refine lv_i2l (v := a2.toInt64) hx hb dX12_spelled_30 rfl ?_
    refine lv_ladd hx hb dX12_spelled_31 ?_
    refine lv_ldc2 (v := (96 : Int64)) hx hb hown (hts _ wk_X12_129) dX12_spelled_32 ?_
    refine lv_lsub hx hb dX12_spelled_35 ?_
    refine lv_goto (tgt := 41) hx hb dX12_spelled_36 (by decide) ?_
    exact tX12_spelled_41 X z a3 a4 a5 (((((((a0.toInt64 - (96 : Int64)) * (32 : Int64)) + a1.toInt64) - (96 : Int64)) * (32 : Int64)) + a2.toInt64) - (96 : Int64)) hf _ _ _ hP hD hS (lv_sub hl [4, 5, 6] rfl)
def fX12_isWord  (S : ms_T) (a1 : Int64) : Option (Int32) :=
  if (gi S 14) = (1 : Int32) then
    if (lg_cmp (gl S 19) a1) = 0 then
      some ((1 : Int32))
    else
      some ((0 : Int32))
  else
    some ((0 : Int32))
abbrev rmX12_isWord : Room := { frames := 0, cells := 0, slots := 0, locals := 0 }
theorem okX12_isWord : tc_ok yX12_isWord cX12_isWord 3 (some .boolean) 1 := ⟨wc_X12_isWord, wn_X12, by decide, by decide, by decide +kernel⟩
set_option maxRecDepth 20000 in
theorem mX12_isWord {q : Nat → Nat}  {S : ms_T} {a1 : Int64} {z : Int32}  (hf : fX12_isWord S a1 = some z) : tc_MI l dC dI ca yX12_isWord cX12_isWord 3 (some .boolean) rmX12_isWord [.ref (q 0), .long (a1)] (w12 ca q S) (w12 ca q S) (z) := by
  refine tc_metI (own := RX12) (by decide) rfl ?_ (Nat.le_of_ble_eq_true rfl)
  intro p e s m below meth c A X hP hD hS ls hl
  obtain ⟨hx, hb, hr, hml, hown, hts, hlk, hK, hA, hG⟩ := id X
  unfold fX12_isWord at hf
  have hl : lv_has ls 3 [(0, .ref (q 0)), (1, .long (a1))] := hl
  refine lv_aload_n hx hb dX12_isWord_0 rfl (lv_at hl 0 rfl) ?_
  refine va_get (D := (dC, dI)) (ci := 12) (v := .int (gi S 14)) (C := RX12) (T := TX12) (N := 49) hx hb hts i_X12 hown hK hP 0 rfl rfl 14 (by decide) (hts _ wf_X12_118) (fun _ h9 => h9) rfl dX12_isWord_1 ?_
  refine lv_iconst (v := (1 : Int32)) hx hb dX12_isWord_4 (by decide) ?_
  refine lv_icmp_ne (tgt := 21) hx hb dX12_isWord_5 (by decide) (fun hc => ?_) (fun hc => ?_)
  · have hf := tc_neg hc hf
    refine lv_iconst (v := (0 : Int32)) hx hb dX12_isWord_21 (by decide) ?_
    obtain rfl := Option.some.inj hf
    exact tc_rz X hP hD hS rfl dX12_isWord_22 (by decide) rfl rfl
  · have hf := tc_pos hc hf
    refine lv_aload_n hx hb dX12_isWord_8 rfl (lv_at hl 0 rfl) ?_
    refine va_get (D := (dC, dI)) (ci := 12) (v := .long (gl S 19)) (C := RX12) (T := TX12) (N := 49) hx hb hts i_X12 hown hK hP 0 rfl rfl 19 (by decide) (hts _ wf_X12_124) (fun _ h9 => h9) rfl dX12_isWord_9 ?_
    refine lv_lload_n hx hb dX12_isWord_12 rfl (lv_at hl 1 rfl) ?_
    refine W.lcmp hx hb dX12_isWord_13 ?_
    refine lv_if_ne (tgt := 21) hx hb dX12_isWord_14 (by decide) (fun hc => ?_) (fun hc => ?_)
    · have hf := tc_neg hc hf
      refine lv_iconst (v := (0 : Int32)) hx hb dX12_isWord_21 (by decide) ?_
      obtain rfl := Option.some.inj hf
      exact tc_rz X hP hD hS rfl dX12_isWord_22 (by decide) rfl rfl
    · have hf := tc_pos hc hf
      refine lv_iconst (v := (1 : Int32)) hx hb dX12_isWord_17 (by decide) ?_
      refine lv_goto (tgt := 22) hx hb dX12_isWord_18 (by decide) ?_
      obtain rfl := Option.some.inj hf
      exact tc_rz X hP hD hS rfl dX12_isWord_22 (by decide) rfl rfl
def fX12_isOdds  (S : ms_T)  : Option (Int32) :=
  (fX12_spelled (111 : Int32) (100 : Int32) (100 : Int32) (115 : Int32) (0 : Int32) (0 : Int32)).bind fun z1 =>
  (fX12_isWord S z1).bind fun z2 =>
  if z2 &&& 1 = z2 then
    some (z2)
  else none
abbrev rmX12_isOdds : Room := { frames := 1, cells := 0, slots := 0, locals := 27 }
theorem okX12_isOdds : tc_ok yX12_isOdds cX12_isOdds 1 (some .boolean) 0 := ⟨wc_X12_isOdds, wn_X12, by decide, by decide, by decide +kernel⟩
set_option maxRecDepth 20000 in
theorem mX12_isOdds {q : Nat → Nat}  {S : ms_T}  {z : Int32}  (hf : fX12_isOdds S = some z) : tc_MI l dC dI ca yX12_isOdds cX12_isOdds 1 (some .boolean) rmX12_isOdds [.ref (q 0)] (w12 ca q S) (w12 ca q S) (z) := by
  refine tc_metI (own := RX12) (by decide) rfl ?_ (Nat.le_of_ble_eq_true rfl)
  intro p e s m below meth c A X hP hD hS ls hl
  obtain ⟨hx, hb, hr, hml, hown, hts, hlk, hK, hA, hG⟩ := id X
  unfold fX12_isOdds at hf
  have hl : lv_has ls 1 [(0, .ref (q 0))] := hl
  refine lv_aload_n hx hb dX12_isOdds_0 rfl (lv_at hl 0 rfl) ?_
  refine lv_bipush (v := (111 : Int32)) hx hb dX12_isOdds_1 (by decide) ?_
  refine lv_bipush (v := (100 : Int32)) hx hb dX12_isOdds_3 (by decide) ?_
  refine lv_bipush (v := (100 : Int32)) hx hb dX12_isOdds_5 (by decide) ?_
  refine lv_bipush (v := (115 : Int32)) hx hb dX12_isOdds_7 (by decide) ?_
  refine lv_iconst (v := (0 : Int32)) hx hb dX12_isOdds_9 (by decide) ?_
  refine lv_iconst (v := (0 : Int32)) hx hb dX12_isOdds_10 (by decide) ?_
  obtain ⟨z1, hg, hf⟩ := tc_bi hf
  refine tc_lS0 (As := [.int ((111 : Int32)), .int ((100 : Int32)), .int ((100 : Int32)), .int ((115 : Int32)), .int ((0 : Int32)), .int ((0 : Int32))]) (rest := [.ref (q 0)]) X hP hD hS (mX12_spelled hg) okX12_spelled wl_X12_143 wt_X12_spelled ⟨rfl, rfl, Nat.le_of_ble_eq_true rfl, Nat.le_of_ble_eq_true rfl⟩ rfl hl.1 (Nat.le_of_ble_eq_true rfl) dX12_isOdds_11 (fun H locs hP hD hS => ?_)
  obtain ⟨z2, hg, hf⟩ := tc_bi hf
  refine tc_iVs (As := [.long (z1)]) (rest := []) (b := q 0) X hP hD hS (mX12_isWord hg) okX12_isWord wl_X12_147 wi_X12_isWord ws_X12_X12_isWord_X12_isWord ⟨rfl, rfl, Nat.le_of_ble_eq_true rfl, Nat.le_of_ble_eq_true rfl⟩ 12 0 rfl rfl rfl hl.1 (Nat.le_of_ble_eq_true rfl) dX12_isOdds_14 (fun H locs hP hD hS => ?_)
  obtain ⟨hz1, hf⟩ := tc_ck hf
  obtain rfl := Option.some.inj hf
  exact tc_rz X hP hD hS rfl dX12_isOdds_17 hz1 rfl rfl
def fX12_isTopic  (S : ms_T)  : Option (Int32) :=
  (fX12_spelled (116 : Int32) (111 : Int32) (112 : Int32) (105 : Int32) (99 : Int32) (0 : Int32)).bind fun z1 =>
  (fX12_isWord S z1).bind fun z2 =>
  if z2 &&& 1 = z2 then
    some (z2)
  else none
abbrev rmX12_isTopic : Room := { frames := 1, cells := 0, slots := 0, locals := 27 }
theorem okX12_isTopic : tc_ok yX12_isTopic cX12_isTopic 1 (some .boolean) 0 := ⟨wc_X12_isTopic, wn_X12, by decide, by decide, by decide +kernel⟩
set_option maxRecDepth 20000 in
theorem mX12_isTopic {q : Nat → Nat}  {S : ms_T}  {z : Int32}  (hf : fX12_isTopic S = some z) : tc_MI l dC dI ca yX12_isTopic cX12_isTopic 1 (some .boolean) rmX12_isTopic [.ref (q 0)] (w12 ca q S) (w12 ca q S) (z) := by
  refine tc_metI (own := RX12) (by decide) rfl ?_ (Nat.le_of_ble_eq_true rfl)
  intro p e s m below meth c A X hP hD hS ls hl
  obtain ⟨hx, hb, hr, hml, hown, hts, hlk, hK, hA, hG⟩ := id X
  unfold fX12_isTopic at hf
  have hl : lv_has ls 1 [(0, .ref (q 0))] := hl
  refine lv_aload_n hx hb dX12_isTopic_0 rfl (lv_at hl 0 rfl) ?_
  refine lv_bipush (v := (116 : Int32)) hx hb dX12_isTopic_1 (by decide) ?_
  refine lv_bipush (v := (111 : Int32)) hx hb dX12_isTopic_3 (by decide) ?_
  refine lv_bipush (v := (112 : Int32)) hx hb dX12_isTopic_5 (by decide) ?_
  refine lv_bipush (v := (105 : Int32)) hx hb dX12_isTopic_7 (by decide) ?_
  refine lv_bipush (v := (99 : Int32)) hx hb dX12_isTopic_9 (by decide) ?_
  refine lv_iconst (v := (0 : Int32)) hx hb dX12_isTopic_11 (by decide) ?_
  obtain ⟨z1, hg, hf⟩ := tc_bi hf
  refine tc_lS0 (As := [.int ((116 : Int32)), .int ((111 : Int32)), .int ((112 : Int32)), .int ((105 : Int32)), .int ((99 : Int32)), .int ((0 : Int32))]) (rest := [.ref (q 0)]) X hP hD hS (mX12_spelled hg) okX12_spelled wl_X12_143 wt_X12_spelled ⟨rfl, rfl, Nat.le_of_ble_eq_true rfl, Nat.le_of_ble_eq_true rfl⟩ rfl hl.1 (Nat.le_of_ble_eq_true rfl) dX12_isTopic_12 (fun H locs hP hD hS => ?_)
  obtain ⟨z2, hg, hf⟩ := tc_bi hf
  refine tc_iVs (As := [.long (z1)]) (rest := []) (b := q 0) X hP hD hS (mX12_isWord hg) okX12_isWord wl_X12_147 wi_X12_isWord ws_X12_X12_isWord_X12_isWord ⟨rfl, rfl, Nat.le_of_ble_eq_true rfl, Nat.le_of_ble_eq_true rfl⟩ 12 0 rfl rfl rfl hl.1 (Nat.le_of_ble_eq_true rfl) dX12_isTopic_15 (fun H locs hP hD hS => ?_)
  obtain ⟨hz1, hf⟩ := tc_ck hf
  obtain rfl := Option.some.inj hf
  exact tc_rz X hP hD hS rfl dX12_isTopic_18 hz1 rfl rfl
def fX12_isWorth  (S : ms_T)  : Option (Int32) :=
  (fX12_spelled (119 : Int32) (111 : Int32) (114 : Int32) (116 : Int32) (104 : Int32) (0 : Int32)).bind fun z1 =>
  (fX12_isWord S z1).bind fun z2 =>
  if z2 &&& 1 = z2 then
    some (z2)
  else none
abbrev rmX12_isWorth : Room := { frames := 1, cells := 0, slots := 0, locals := 27 }
theorem okX12_isWorth : tc_ok yX12_isWorth cX12_isWorth 1 (some .boolean) 0 := ⟨wc_X12_isWorth, wn_X12, by decide, by decide, by decide +kernel⟩
set_option maxRecDepth 20000 in
theorem mX12_isWorth {q : Nat → Nat}  {S : ms_T}  {z : Int32}  (hf : fX12_isWorth S = some z) : tc_MI l dC dI ca yX12_isWorth cX12_isWorth 1 (some .boolean) rmX12_isWorth [.ref (q 0)] (w12 ca q S) (w12 ca q S) (z) := by
  refine tc_metI (own := RX12) (by decide) rfl ?_ (Nat.le_of_ble_eq_true rfl)
  intro p e s m below meth c A X hP hD hS ls hl
  obtain ⟨hx, hb, hr, hml, hown, hts, hlk, hK, hA, hG⟩ := id X
  unfold fX12_isWorth at hf
  have hl : lv_has ls 1 [(0, .ref (q 0))] := hl
  refine lv_aload_n hx hb dX12_isWorth_0 rfl (lv_at hl 0 rfl) ?_
  refine lv_bipush (v := (119 : Int32)) hx hb dX12_isWorth_1 (by decide) ?_
  refine lv_bipush (v := (111 : Int32)) hx hb dX12_isWorth_3 (by decide) ?_
  refine lv_bipush (v := (114 : Int32)) hx hb dX12_isWorth_5 (by decide) ?_
  refine lv_bipush (v := (116 : Int32)) hx hb dX12_isWorth_7 (by decide) ?_
  refine lv_bipush (v := (104 : Int32)) hx hb dX12_isWorth_9 (by decide) ?_
  refine lv_iconst (v := (0 : Int32)) hx hb dX12_isWorth_11 (by decide) ?_
  obtain ⟨z1, hg, hf⟩ := tc_bi hf
  refine tc_lS0 (As := [.int ((119 : Int32)), .int ((111 : Int32)), .int ((114 : Int32)), .int ((116 : Int32)), .int ((104 : Int32)), .int ((0 : Int32))]) (rest := [.ref (q 0)]) X hP hD hS (mX12_spelled hg) okX12_spelled wl_X12_143 wt_X12_spelled ⟨rfl, rfl, Nat.le_of_ble_eq_true rfl, Nat.le_of_ble_eq_true rfl⟩ rfl hl.1 (Nat.le_of_ble_eq_true rfl) dX12_isWorth_12 (fun H locs hP hD hS => ?_)
  obtain ⟨z2, hg, hf⟩ := tc_bi hf
  refine tc_iVs (As := [.long (z1)]) (rest := []) (b := q 0) X hP hD hS (mX12_isWord hg) okX12_isWord wl_X12_147 wi_X12_isWord ws_X12_X12_isWord_X12_isWord ⟨rfl, rfl, Nat.le_of_ble_eq_true rfl, Nat.le_of_ble_eq_true rfl⟩ 12 0 rfl rfl rfl hl.1 (Nat.le_of_ble_eq_true rfl) dX12_isWorth_15 (fun H locs hP hD hS => ?_)
  obtain ⟨hz1, hf⟩ := tc_ck hf
  obtain rfl := Option.some.inj hf
  exact tc_rz X hP hD hS rfl dX12_isWorth_18 hz1 rfl rfl
def fX12_isDrift  (S : ms_T)  : Option (Int32) :=
  (fX12_spelled (100 : Int32) (114 : Int32) (105 : Int32) (102 : Int32) (116 : Int32) (0 : Int32)).bind fun z1 =>
  (fX12_isWord S z1).bind fun z2 =>
  if z2 &&& 1 = z2 then
    some (z2)
  else none
abbrev rmX12_isDrift : Room := { frames := 1, cells := 0, slots := 0, locals := 27 }
theorem okX12_isDrift : tc_ok yX12_isDrift cX12_isDrift 1 (some .boolean) 0 := ⟨wc_X12_isDrift, wn_X12, by decide, by decide, by decide +kernel⟩
set_option maxRecDepth 20000 in
theorem mX12_isDrift {q : Nat → Nat}  {S : ms_T}  {z : Int32}  (hf : fX12_isDrift S = some z) : tc_MI l dC dI ca yX12_isDrift cX12_isDrift 1 (some .boolean) rmX12_isDrift [.ref (q 0)] (w12 ca q S) (w12 ca q S) (z) := by
  refine tc_metI (own := RX12) (by decide) rfl ?_ (Nat.le_of_ble_eq_true rfl)
  intro p e s m below meth c A X hP hD hS ls hl
  obtain ⟨hx, hb, hr, hml, hown, hts, hlk, hK, hA, hG⟩ := id X
  unfold fX12_isDrift at hf
  have hl : lv_has ls 1 [(0, .ref (q 0))] := hl
  refine lv_aload_n hx hb dX12_isDrift_0 rfl (lv_at hl 0 rfl) ?_
  refine lv_bipush (v := (100 : Int32)) hx hb dX12_isDrift_1 (by decide) ?_
  refine lv_bipush (v := (114 : Int32)) hx hb dX12_isDrift_3 (by decide) ?_
  refine lv_bipush (v := (105 : Int32)) hx hb dX12_isDrift_5 (by decide) ?_
  refine lv_bipush (v := (102 : Int32)) hx hb dX12_isDrift_7 (by decide) ?_
  refine lv_bipush (v := (116 : Int32)) hx hb dX12_isDrift_9 (by decide) ?_
  refine lv_iconst (v := (0 : Int32)) hx hb dX12_isDrift_11 (by decide) ?_
  obtain ⟨z1, hg, hf⟩ := tc_bi hf
  refine tc_lS0 (As := [.int ((100 : Int32)), .int ((114 : Int32)), .int ((105 : Int32)), .int ((102 : Int32)), .int ((116 : Int32)), .int ((0 : Int32))]) (rest := [.ref (q 0)]) X hP hD hS (mX12_spelled hg) okX12_spelled wl_X12_143 wt_X12_spelled ⟨rfl, rfl, Nat.le_of_ble_eq_true rfl, Nat.le_of_ble_eq_true rfl⟩ rfl hl.1 (Nat.le_of_ble_eq_true rfl) dX12_isDrift_12 (fun H locs hP hD hS => ?_)
  obtain ⟨z2, hg, hf⟩ := tc_bi hf
  refine tc_iVs (As := [.long (z1)]) (rest := []) (b := q 0) X hP hD hS (mX12_isWord hg) okX12_isWord wl_X12_147 wi_X12_isWord ws_X12_X12_isWord_X12_isWord ⟨rfl, rfl, Nat.le_of_ble_eq_true rfl, Nat.le_of_ble_eq_true rfl⟩ 12 0 rfl rfl rfl hl.1 (Nat.le_of_ble_eq_true rfl) dX12_isDrift_15 (fun H locs hP hD hS => ?_)
  obtain ⟨hz1, hf⟩ := tc_ck hf
  obtain rfl := Option.some.inj hf
  exact tc_rz X hP hD hS rfl dX12_isDrift_18 hz1 rfl rfl
def fX12_isClaim  (S : ms_T)  : Option (Int32) :=
  (fX12_spelled (99 : Int32) (108 : Int32) (97 : Int32) (105 : Int32) (109 : Int32) (0 : Int32)).bind fun z1 =>
  (fX12_isWord S z1).bind fun z2 =>
  if z2 &&& 1 = z2 then
    some (z2)
  else none
abbrev rmX12_isClaim : Room := { frames := 1, cells := 0, slots := 0, locals := 27 }
theorem okX12_isClaim : tc_ok yX12_isClaim cX12_isClaim 1 (some .boolean) 0 := ⟨wc_X12_isClaim, wn_X12, by decide, by decide, by decide +kernel⟩
set_option maxRecDepth 20000 in
theorem mX12_isClaim {q : Nat → Nat}  {S : ms_T}  {z : Int32}  (hf : fX12_isClaim S = some z) : tc_MI l dC dI ca yX12_isClaim cX12_isClaim 1 (some .boolean) rmX12_isClaim [.ref (q 0)] (w12 ca q S) (w12 ca q S) (z) := by
  refine tc_metI (own := RX12) (by decide) rfl ?_ (Nat.le_of_ble_eq_true rfl)
  intro p e s m below meth c A X hP hD hS ls hl
  obtain ⟨hx, hb, hr, hml, hown, hts, hlk, hK, hA, hG⟩ := id X
  unfold fX12_isClaim at hf
  have hl : lv_has ls 1 [(0, .ref (q 0))] := hl
  refine lv_aload_n hx hb dX12_isClaim_0 rfl (lv_at hl 0 rfl) ?_
  refine lv_bipush (v := (99 : Int32)) hx hb dX12_isClaim_1 (by decide) ?_
  refine lv_bipush (v := (108 : Int32)) hx hb dX12_isClaim_3 (by decide) ?_
  refine lv_bipush (v := (97 : Int32)) hx hb dX12_isClaim_5 (by decide) ?_
  refine lv_bipush (v := (105 : Int32)) hx hb dX12_isClaim_7 (by decide) ?_
  refine lv_bipush (v := (109 : Int32)) hx hb dX12_isClaim_9 (by decide) ?_
  refine lv_iconst (v := (0 : Int32)) hx hb dX12_isClaim_11 (by decide) ?_
  obtain ⟨z1, hg, hf⟩ := tc_bi hf
  refine tc_lS0 (As := [.int ((99 : Int32)), .int ((108 : Int32)), .int ((97 : Int32)), .int ((105 : Int32)), .int ((109 : Int32)), .int ((0 : Int32))]) (rest := [.ref (q 0)]) X hP hD hS (mX12_spelled hg) okX12_spelled wl_X12_143 wt_X12_spelled ⟨rfl, rfl, Nat.le_of_ble_eq_true rfl, Nat.le_of_ble_eq_true rfl⟩ rfl hl.1 (Nat.le_of_ble_eq_true rfl) dX12_isClaim_12 (fun H locs hP hD hS => ?_)
  obtain ⟨z2, hg, hf⟩ := tc_bi hf
  refine tc_iVs (As := [.long (z1)]) (rest := []) (b := q 0) X hP hD hS (mX12_isWord hg) okX12_isWord wl_X12_147 wi_X12_isWord ws_X12_X12_isWord_X12_isWord ⟨rfl, rfl, Nat.le_of_ble_eq_true rfl, Nat.le_of_ble_eq_true rfl⟩ 12 0 rfl rfl rfl hl.1 (Nat.le_of_ble_eq_true rfl) dX12_isClaim_15 (fun H locs hP hD hS => ?_)
  obtain ⟨hz1, hf⟩ := tc_ck hf
  obtain rfl := Option.some.inj hf
  exact tc_rz X hP hD hS rfl dX12_isClaim_18 hz1 rfl rfl
def fX12_isAtWord  (S : ms_T)  : Option (Int32) :=
  (fX12_spelled (97 : Int32) (116 : Int32) (0 : Int32) (0 : Int32) (0 : Int32) (0 : Int32)).bind fun z1 =>
  (fX12_isWord S z1).bind fun z2 =>
  if z2 &&& 1 = z2 then
    some (z2)
  else none
abbrev rmX12_isAtWord : Room := { frames := 1, cells := 0, slots := 0, locals := 27 }
theorem okX12_isAtWord : tc_ok yX12_isAtWord cX12_isAtWord 1 (some .boolean) 0 := ⟨wc_X12_isAtWord, wn_X12, by decide, by decide, by decide +kernel⟩
set_option maxRecDepth 20000 in
theorem mX12_isAtWord {q : Nat → Nat}  {S : ms_T}  {z : Int32}  (hf : fX12_isAtWord S = some z) : tc_MI l dC dI ca yX12_isAtWord cX12_isAtWord 1 (some .boolean) rmX12_isAtWord [.ref (q 0)] (w12 ca q S) (w12 ca q S) (z) := by
  refine tc_metI (own := RX12) (by decide) rfl ?_ (Nat.le_of_ble_eq_true rfl)
  intro p e s m below meth c A X hP hD hS ls hl
  obtain ⟨hx, hb, hr, hml, hown, hts, hlk, hK, hA, hG⟩ := id X
  unfold fX12_isAtWord at hf
  have hl : lv_has ls 1 [(0, .ref (q 0))] := hl
  refine lv_aload_n hx hb dX12_isAtWord_0 rfl (lv_at hl 0 rfl) ?_
  refine lv_bipush (v := (97 : Int32)) hx hb dX12_isAtWord_1 (by decide) ?_
  refine lv_bipush (v := (116 : Int32)) hx hb dX12_isAtWord_3 (by decide) ?_
  refine lv_iconst (v := (0 : Int32)) hx hb dX12_isAtWord_5 (by decide) ?_
  refine lv_iconst (v := (0 : Int32)) hx hb dX12_isAtWord_6 (by decide) ?_
  refine lv_iconst (v := (0 : Int32)) hx hb dX12_isAtWord_7 (by decide) ?_
  refine lv_iconst (v := (0 : Int32)) hx hb dX12_isAtWord_8 (by decide) ?_
  obtain ⟨z1, hg, hf⟩ := tc_bi hf
  refine tc_lS0 (As := [.int ((97 : Int32)), .int ((116 : Int32)), .int ((0 : Int32)), .int ((0 : Int32)), .int ((0 : Int32)), .int ((0 : Int32))]) (rest := [.ref (q 0)]) X hP hD hS (mX12_spelled hg) okX12_spelled wl_X12_143 wt_X12_spelled ⟨rfl, rfl, Nat.le_of_ble_eq_true rfl, Nat.le_of_ble_eq_true rfl⟩ rfl hl.1 (Nat.le_of_ble_eq_true rfl) dX12_isAtWord_9 (fun H locs hP hD hS => ?_)
  obtain ⟨z2, hg, hf⟩ := tc_bi hf
  refine tc_iVs (As := [.long (z1)]) (rest := []) (b := q 0) X hP hD hS (mX12_isWord hg) okX12_isWord wl_X12_147 wi_X12_isWord ws_X12_X12_isWord_X12_isWord ⟨rfl, rfl, Nat.le_of_ble_eq_true rfl, Nat.le_of_ble_eq_true rfl⟩ 12 0 rfl rfl rfl hl.1 (Nat.le_of_ble_eq_true rfl) dX12_isAtWord_12 (fun H locs hP hD hS => ?_)
  obtain ⟨hz1, hf⟩ := tc_ck hf
  obtain rfl := Option.some.inj hf
  exact tc_rz X hP hD hS rfl dX12_isAtWord_15 hz1 rfl rfl
def fX12_isProppedWord  (S : ms_T)  : Option (Int32) :=
  (fX12_spelled (112 : Int32) (114 : Int32) (111 : Int32) (112 : Int32) (112 : Int32) (101 : Int32)).bind fun z1 =>
  (fX12_isWord S (((z1 * (32 : Int64)) + (100 : Int64)) - (96 : Int64))).bind fun z2 =>
  if z2 &&& 1 = z2 then
    some (z2)
  else none
abbrev rmX12_isProppedWord : Room := { frames := 1, cells := 0, slots := 0, locals := 27 }
theorem okX12_isProppedWord : tc_ok yX12_isProppedWord cX12_isProppedWord 1 (some .boolean) 0 := ⟨wc_X12_isProppedWord, wn_X12, by decide, by decide, by decide +kernel⟩
set_option maxRecDepth 20000 in
theorem mX12_isProppedWord {q : Nat → Nat}  {S : ms_T}  {z : Int32}  (hf : fX12_isProppedWord S = some z) : tc_MI l dC dI ca yX12_isProppedWord cX12_isProppedWord 1 (some .boolean) rmX12_isProppedWord [.ref (q 0)] (w12 ca q S) (w12 ca q S) (z) := by
  refine tc_metI (own := RX12) (by decide) rfl ?_ (Nat.le_of_ble_eq_true rfl)
  intro p e s m below meth c A X hP hD hS ls hl
  obtain ⟨hx, hb, hr, hml, hown, hts, hlk, hK, hA, hG⟩ := id X
  unfold fX12_isProppedWord at hf
  have hl : lv_has ls 1 [(0, .ref (q 0))] := hl
  refine lv_aload_n hx hb dX12_isProppedWord_0 rfl (lv_at hl 0 rfl) ?_
  refine lv_bipush (v := (112 : Int32)) hx hb dX12_isProppedWord_1 (by decide) ?_
  refine lv_bipush (v := (114 : Int32)) hx hb dX12_isProppedWord_3 (by decide) ?_
  refine lv_bipush (v := (111 : Int32)) hx hb dX12_isProppedWord_5 (by decide) ?_
  refine lv_bipush (v := (112 : Int32)) hx hb dX12_isProppedWord_7 (by decide) ?_
  refine lv_bipush (v := (112 : Int32)) hx hb dX12_isProppedWord_9 (by decide) ?_
  refine lv_bipush (v := (101 : Int32)) hx hb dX12_isProppedWord_11 (by decide) ?_
  obtain ⟨z1, hg, hf⟩ := tc_bi hf
  refine tc_lS0 (As := [.int ((112 : Int32)), .int ((114 : Int32)), .int ((111 : Int32)), .int ((112 : Int32)), .int ((112 : Int32)), .int ((101 : Int32))]) (rest := [.ref (q 0)]) X hP hD hS (mX12_spelled hg) okX12_spelled wl_X12_143 wt_X12_spelled ⟨rfl, rfl, Nat.le_of_ble_eq_true rfl, Nat.le_of_ble_eq_true rfl⟩ rfl hl.1 (Nat.le_of_ble_eq_true rfl) dX12_isProppedWord_13 (fun H locs hP hD hS => ?_)
  refine lv_ldc2 (v := (32 : Int64)) hx hb hown (hts _ wk_X12_127) dX12_isProppedWord_16 ?_
  refine lv_lmul hx hb dX12_isProppedWord_19 ?_
  refine lv_ldc2 (v := (100 : Int64)) hx hb hown (hts _ wk_X12_151) dX12_isProppedWord_20 ?_
  refine lv_ladd hx hb dX12_isProppedWord_23 ?_
  refine lv_ldc2 (v := (96 : Int64)) hx hb hown (hts _ wk_X12_129) dX12_isProppedWord_24 ?_
  refine lv_lsub hx hb dX12_isProppedWord_27 ?_
  obtain ⟨z2, hg, hf⟩ := tc_bi hf
  refine tc_iVs (As := [.long (((z1 * (32 : Int64)) + (100 : Int64)) - (96 : Int64))]) (rest := []) (b := q 0) X hP hD hS (mX12_isWord hg) okX12_isWord wl_X12_147 wi_X12_isWord ws_X12_X12_isWord_X12_isWord ⟨rfl, rfl, Nat.le_of_ble_eq_true rfl, Nat.le_of_ble_eq_true rfl⟩ 12 0 rfl rfl rfl hl.1 (Nat.le_of_ble_eq_true rfl) dX12_isProppedWord_28 (fun H locs hP hD hS => ?_)
  obtain ⟨hz1, hf⟩ := tc_ck hf
  obtain rfl := Option.some.inj hf
  exact tc_rz X hP hD hS rfl dX12_isProppedWord_31 hz1 rfl rfl
def fX12_isNeeds  (S : ms_T)  : Option (Int32) :=
  (fX12_spelled (110 : Int32) (101 : Int32) (101 : Int32) (100 : Int32) (115 : Int32) (0 : Int32)).bind fun z1 =>
  (fX12_isWord S z1).bind fun z2 =>
  if z2 &&& 1 = z2 then
    some (z2)
  else none
abbrev rmX12_isNeeds : Room := { frames := 1, cells := 0, slots := 0, locals := 27 }
theorem okX12_isNeeds : tc_ok yX12_isNeeds cX12_isNeeds 1 (some .boolean) 0 := ⟨wc_X12_isNeeds, wn_X12, by decide, by decide, by decide +kernel⟩
set_option maxRecDepth 20000 in
theorem mX12_isNeeds {q : Nat → Nat}  {S : ms_T}  {z : Int32}  (hf : fX12_isNeeds S = some z) : tc_MI l dC dI ca yX12_isNeeds cX12_isNeeds 1 (some .boolean) rmX12_isNeeds [.ref (q 0)] (w12 ca q S) (w12 ca q S) (z) := by
  refine tc_metI (own := RX12) (by decide) rfl ?_ (Nat.le_of_ble_eq_true rfl)
  intro p e s m below meth c A X hP hD hS ls hl
  obtain ⟨hx, hb, hr, hml, hown, hts, hlk, hK, hA, hG⟩ := id X
  unfold fX12_isNeeds at hf
  have hl : lv_has ls 1 [(0, .ref (q 0))] := hl
  refine lv_aload_n hx hb dX12_isNeeds_0 rfl (lv_at hl 0 rfl) ?_
  refine lv_bipush (v := (110 : Int32)) hx hb dX12_isNeeds_1 (by decide) ?_
  refine lv_bipush (v := (101 : Int32)) hx hb dX12_isNeeds_3 (by decide) ?_
  refine lv_bipush (v := (101 : Int32)) hx hb dX12_isNeeds_5 (by decide) ?_
  refine lv_bipush (v := (100 : Int32)) hx hb dX12_isNeeds_7 (by decide) ?_
  refine lv_bipush (v := (115 : Int32)) hx hb dX12_isNeeds_9 (by decide) ?_
  refine lv_iconst (v := (0 : Int32)) hx hb dX12_isNeeds_11 (by decide) ?_
  obtain ⟨z1, hg, hf⟩ := tc_bi hf
  refine tc_lS0 (As := [.int ((110 : Int32)), .int ((101 : Int32)), .int ((101 : Int32)), .int ((100 : Int32)), .int ((115 : Int32)), .int ((0 : Int32))]) (rest := [.ref (q 0)]) X hP hD hS (mX12_spelled hg) okX12_spelled wl_X12_143 wt_X12_spelled ⟨rfl, rfl, Nat.le_of_ble_eq_true rfl, Nat.le_of_ble_eq_true rfl⟩ rfl hl.1 (Nat.le_of_ble_eq_true rfl) dX12_isNeeds_12 (fun H locs hP hD hS => ?_)
  obtain ⟨z2, hg, hf⟩ := tc_bi hf
  refine tc_iVs (As := [.long (z1)]) (rest := []) (b := q 0) X hP hD hS (mX12_isWord hg) okX12_isWord wl_X12_147 wi_X12_isWord ws_X12_X12_isWord_X12_isWord ⟨rfl, rfl, Nat.le_of_ble_eq_true rfl, Nat.le_of_ble_eq_true rfl⟩ 12 0 rfl rfl rfl hl.1 (Nat.le_of_ble_eq_true rfl) dX12_isNeeds_15 (fun H locs hP hD hS => ?_)
  obtain ⟨hz1, hf⟩ := tc_ck hf
  obtain rfl := Option.some.inj hf
  exact tc_rz X hP hD hS rfl dX12_isNeeds_18 hz1 rfl rfl
def fX12_isTalker  (S : ms_T)  : Option (Int32) :=
  (fX12_spelled (116 : Int32) (97 : Int32) (108 : Int32) (107 : Int32) (101 : Int32) (114 : Int32)).bind fun z1 =>
  (fX12_isWord S z1).bind fun z2 =>
  if z2 &&& 1 = z2 then
    some (z2)
  else none
abbrev rmX12_isTalker : Room := { frames := 1, cells := 0, slots := 0, locals := 27 }
theorem okX12_isTalker : tc_ok yX12_isTalker cX12_isTalker 1 (some .boolean) 0 := ⟨wc_X12_isTalker, wn_X12, by decide, by decide, by decide +kernel⟩
set_option maxRecDepth 20000 in
theorem mX12_isTalker {q : Nat → Nat}  {S : ms_T}  {z : Int32}  (hf : fX12_isTalker S = some z) : tc_MI l dC dI ca yX12_isTalker cX12_isTalker 1 (some .boolean) rmX12_isTalker [.ref (q 0)] (w12 ca q S) (w12 ca q S) (z) := by
  refine tc_metI (own := RX12) (by decide) rfl ?_ (Nat.le_of_ble_eq_true rfl)
  intro p e s m below meth c A X hP hD hS ls hl
  obtain ⟨hx, hb, hr, hml, hown, hts, hlk, hK, hA, hG⟩ := id X
  unfold fX12_isTalker at hf
  have hl : lv_has ls 1 [(0, .ref (q 0))] := hl
  refine lv_aload_n hx hb dX12_isTalker_0 rfl (lv_at hl 0 rfl) ?_
  refine lv_bipush (v := (116 : Int32)) hx hb dX12_isTalker_1 (by decide) ?_
  refine lv_bipush (v := (97 : Int32)) hx hb dX12_isTalker_3 (by decide) ?_
  refine lv_bipush (v := (108 : Int32)) hx hb dX12_isTalker_5 (by decide) ?_
  refine lv_bipush (v := (107 : Int32)) hx hb dX12_isTalker_7 (by decide) ?_
  refine lv_bipush (v := (101 : Int32)) hx hb dX12_isTalker_9 (by decide) ?_
  refine lv_bipush (v := (114 : Int32)) hx hb dX12_isTalker_11 (by decide) ?_
  obtain ⟨z1, hg, hf⟩ := tc_bi hf
  refine tc_lS0 (As := [.int ((116 : Int32)), .int ((97 : Int32)), .int ((108 : Int32)), .int ((107 : Int32)), .int ((101 : Int32)), .int ((114 : Int32))]) (rest := [.ref (q 0)]) X hP hD hS (mX12_spelled hg) okX12_spelled wl_X12_143 wt_X12_spelled ⟨rfl, rfl, Nat.le_of_ble_eq_true rfl, Nat.le_of_ble_eq_true rfl⟩ rfl hl.1 (Nat.le_of_ble_eq_true rfl) dX12_isTalker_13 (fun H locs hP hD hS => ?_)
  obtain ⟨z2, hg, hf⟩ := tc_bi hf
  refine tc_iVs (As := [.long (z1)]) (rest := []) (b := q 0) X hP hD hS (mX12_isWord hg) okX12_isWord wl_X12_147 wi_X12_isWord ws_X12_X12_isWord_X12_isWord ⟨rfl, rfl, Nat.le_of_ble_eq_true rfl, Nat.le_of_ble_eq_true rfl⟩ 12 0 rfl rfl rfl hl.1 (Nat.le_of_ble_eq_true rfl) dX12_isTalker_16 (fun H locs hP hD hS => ?_)
  obtain ⟨hz1, hf⟩ := tc_ck hf
  obtain rfl := Option.some.inj hf
  exact tc_rz X hP hD hS rfl dX12_isTalker_19 hz1 rfl rfl
def fX12_isSeat  (S : ms_T)  : Option (Int32) :=
  (fX12_spelled (115 : Int32) (101 : Int32) (97 : Int32) (116 : Int32) (0 : Int32) (0 : Int32)).bind fun z1 =>
  (fX12_isWord S z1).bind fun z2 =>
  if z2 &&& 1 = z2 then
    some (z2)
  else none
abbrev rmX12_isSeat : Room := { frames := 1, cells := 0, slots := 0, locals := 27 }
theorem okX12_isSeat : tc_ok yX12_isSeat cX12_isSeat 1 (some .boolean) 0 := ⟨wc_X12_isSeat, wn_X12, by decide, by decide, by decide +kernel⟩
set_option maxRecDepth 20000 in
theorem mX12_isSeat {q : Nat → Nat}  {S : ms_T}  {z : Int32}  (hf : fX12_isSeat S = some z) : tc_MI l dC dI ca yX12_isSeat cX12_isSeat 1 (some .boolean) rmX12_isSeat [.ref (q 0)] (w12 ca q S) (w12 ca q S) (z) := by
  refine tc_metI (own := RX12) (by decide) rfl ?_ (Nat.le_of_ble_eq_true rfl)
  intro p e s m below meth c A X hP hD hS ls hl
  obtain ⟨hx, hb, hr, hml, hown, hts, hlk, hK, hA, hG⟩ := id X
  unfold fX12_isSeat at hf
  have hl : lv_has ls 1 [(0, .ref (q 0))] := hl
  refine lv_aload_n hx hb dX12_isSeat_0 rfl (lv_at hl 0 rfl) ?_
  refine lv_bipush (v := (115 : Int32)) hx hb dX12_isSeat_1 (by decide) ?_
  refine lv_bipush (v := (101 : Int32)) hx hb dX12_isSeat_3 (by decide) ?_
  refine lv_bipush (v := (97 : Int32)) hx hb dX12_isSeat_5 (by decide) ?_
  refine lv_bipush (v := (116 : Int32)) hx hb dX12_isSeat_7 (by decide) ?_
  refine lv_iconst (v := (0 : Int32)) hx hb dX12_isSeat_9 (by decide) ?_
  refine lv_iconst (v := (0 : Int32)) hx hb dX12_isSeat_10 (by decide) ?_
  obtain ⟨z1, hg, hf⟩ := tc_bi hf
  refine tc_lS0 (As := [.int ((115 : Int32)), .int ((101 : Int32)), .int ((97 : Int32)), .int ((116 : Int32)), .int ((0 : Int32)), .int ((0 : Int32))]) (rest := [.ref (q 0)]) X hP hD hS (mX12_spelled hg) okX12_spelled wl_X12_143 wt_X12_spelled ⟨rfl, rfl, Nat.le_of_ble_eq_true rfl, Nat.le_of_ble_eq_true rfl⟩ rfl hl.1 (Nat.le_of_ble_eq_true rfl) dX12_isSeat_11 (fun H locs hP hD hS => ?_)
  obtain ⟨z2, hg, hf⟩ := tc_bi hf
  refine tc_iVs (As := [.long (z1)]) (rest := []) (b := q 0) X hP hD hS (mX12_isWord hg) okX12_isWord wl_X12_147 wi_X12_isWord ws_X12_X12_isWord_X12_isWord ⟨rfl, rfl, Nat.le_of_ble_eq_true rfl, Nat.le_of_ble_eq_true rfl⟩ 12 0 rfl rfl rfl hl.1 (Nat.le_of_ble_eq_true rfl) dX12_isSeat_14 (fun H locs hP hD hS => ?_)
  obtain ⟨hz1, hf⟩ := tc_ck hf
  obtain rfl := Option.some.inj hf
  exact tc_rz X hP hD hS rfl dX12_isSeat_17 hz1 rfl rfl
def fX12_isOn  (S : ms_T)  : Option (Int32) :=
  (fX12_spelled (111 : Int32) (110 : Int32) (0 : Int32) (0 : Int32) (0 : Int32) (0 : Int32)).bind fun z1 =>
  (fX12_isWord S z1).bind fun z2 =>
  if z2 &&& 1 = z2 then
    some (z2)
  else none
abbrev rmX12_isOn : Room := { frames := 1, cells := 0, slots := 0, locals := 27 }
theorem okX12_isOn : tc_ok yX12_isOn cX12_isOn 1 (some .boolean) 0 := ⟨wc_X12_isOn, wn_X12, by decide, by decide, by decide +kernel⟩
set_option maxRecDepth 20000 in
theorem mX12_isOn {q : Nat → Nat}  {S : ms_T}  {z : Int32}  (hf : fX12_isOn S = some z) : tc_MI l dC dI ca yX12_isOn cX12_isOn 1 (some .boolean) rmX12_isOn [.ref (q 0)] (w12 ca q S) (w12 ca q S) (z) := by
  refine tc_metI (own := RX12) (by decide) rfl ?_ (Nat.le_of_ble_eq_true rfl)
  intro p e s m below meth c A X hP hD hS ls hl
  obtain ⟨hx, hb, hr, hml, hown, hts, hlk, hK, hA, hG⟩ := id X
  unfold fX12_isOn at hf
  have hl : lv_has ls 1 [(0, .ref (q 0))] := hl
  refine lv_aload_n hx hb dX12_isOn_0 rfl (lv_at hl 0 rfl) ?_
  refine lv_bipush (v := (111 : Int32)) hx hb dX12_isOn_1 (by decide) ?_
  refine lv_bipush (v := (110 : Int32)) hx hb dX12_isOn_3 (by decide) ?_
  refine lv_iconst (v := (0 : Int32)) hx hb dX12_isOn_5 (by decide) ?_
  refine lv_iconst (v := (0 : Int32)) hx hb dX12_isOn_6 (by decide) ?_
  refine lv_iconst (v := (0 : Int32)) hx hb dX12_isOn_7 (by decide) ?_
  refine lv_iconst (v := (0 : Int32)) hx hb dX12_isOn_8 (by decide) ?_
  obtain ⟨z1, hg, hf⟩ := tc_bi hf
  refine tc_lS0 (As := [.int ((111 : Int32)), .int ((110 : Int32)), .int ((0 : Int32)), .int ((0 : Int32)), .int ((0 : Int32)), .int ((0 : Int32))]) (rest := [.ref (q 0)]) X hP hD hS (mX12_spelled hg) okX12_spelled wl_X12_143 wt_X12_spelled ⟨rfl, rfl, Nat.le_of_ble_eq_true rfl, Nat.le_of_ble_eq_true rfl⟩ rfl hl.1 (Nat.le_of_ble_eq_true rfl) dX12_isOn_9 (fun H locs hP hD hS => ?_)
  obtain ⟨z2, hg, hf⟩ := tc_bi hf
  refine tc_iVs (As := [.long (z1)]) (rest := []) (b := q 0) X hP hD hS (mX12_isWord hg) okX12_isWord wl_X12_147 wi_X12_isWord ws_X12_X12_isWord_X12_isWord ⟨rfl, rfl, Nat.le_of_ble_eq_true rfl, Nat.le_of_ble_eq_true rfl⟩ 12 0 rfl rfl rfl hl.1 (Nat.le_of_ble_eq_true rfl) dX12_isOn_12 (fun H locs hP hD hS => ?_)
  obtain ⟨hz1, hf⟩ := tc_ck hf
  obtain rfl := Option.some.inj hf
  exact tc_rz X hP hD hS rfl dX12_isOn_15 hz1 rfl rfl
def fX12_isFails  (S : ms_T)  : Option (Int32) :=
  (fX12_spelled (102 : Int32) (97 : Int32) (105 : Int32) (108 : Int32) (115 : Int32) (0 : Int32)).bind fun z1 =>
  (fX12_isWord S z1).bind fun z2 =>
  if z2 &&& 1 = z2 then
    some (z2)
  else none
abbrev rmX12_isFails : Room := { frames := 1, cells := 0, slots := 0, locals := 27 }
theorem okX12_isFails : tc_ok yX12_isFails cX12_isFails 1 (some .boolean) 0 := ⟨wc_X12_isFails, wn_X12, by decide, by decide, by decide +kernel⟩
set_option maxRecDepth 20000 in
theorem mX12_isFails {q : Nat → Nat}  {S : ms_T}  {z : Int32}  (hf : fX12_isFails S = some z) : tc_MI l dC dI ca yX12_isFails cX12_isFails 1 (some .boolean) rmX12_isFails [.ref (q 0)] (w12 ca q S) (w12 ca q S) (z) := by
  refine tc_metI (own := RX12) (by decide) rfl ?_ (Nat.le_of_ble_eq_true rfl)
  intro p e s m below meth c A X hP hD hS ls hl
  obtain ⟨hx, hb, hr, hml, hown, hts, hlk, hK, hA, hG⟩ := id X
  unfold fX12_isFails at hf
  have hl : lv_has ls 1 [(0, .ref (q 0))] := hl
  refine lv_aload_n hx hb dX12_isFails_0 rfl (lv_at hl 0 rfl) ?_
  refine lv_bipush (v := (102 : Int32)) hx hb dX12_isFails_1 (by decide) ?_
  refine lv_bipush (v := (97 : Int32)) hx hb dX12_isFails_3 (by decide) ?_
  refine lv_bipush (v := (105 : Int32)) hx hb dX12_isFails_5 (by decide) ?_
  refine lv_bipush (v := (108 : Int32)) hx hb dX12_isFails_7 (by decide) ?_
  refine lv_bipush (v := (115 : Int32)) hx hb dX12_isFails_9 (by decide) ?_
  refine lv_iconst (v := (0 : Int32)) hx hb dX12_isFails_11 (by decide) ?_
  obtain ⟨z1, hg, hf⟩ := tc_bi hf
  refine tc_lS0 (As := [.int ((102 : Int32)), .int ((97 : Int32)), .int ((105 : Int32)), .int ((108 : Int32)), .int ((115 : Int32)), .int ((0 : Int32))]) (rest := [.ref (q 0)]) X hP hD hS (mX12_spelled hg) okX12_spelled wl_X12_143 wt_X12_spelled ⟨rfl, rfl, Nat.le_of_ble_eq_true rfl, Nat.le_of_ble_eq_true rfl⟩ rfl hl.1 (Nat.le_of_ble_eq_true rfl) dX12_isFails_12 (fun H locs hP hD hS => ?_)
  obtain ⟨z2, hg, hf⟩ := tc_bi hf
  refine tc_iVs (As := [.long (z1)]) (rest := []) (b := q 0) X hP hD hS (mX12_isWord hg) okX12_isWord wl_X12_147 wi_X12_isWord ws_X12_X12_isWord_X12_isWord ⟨rfl, rfl, Nat.le_of_ble_eq_true rfl, Nat.le_of_ble_eq_true rfl⟩ 12 0 rfl rfl rfl hl.1 (Nat.le_of_ble_eq_true rfl) dX12_isFails_15 (fun H locs hP hD hS => ?_)
  obtain ⟨hz1, hf⟩ := tc_ck hf
  obtain rfl := Option.some.inj hf
  exact tc_rz X hP hD hS rfl dX12_isFails_18 hz1 rfl rfl
def fX12_isFeud  (S : ms_T)  : Option (Int32) :=
  (fX12_spelled (102 : Int32) (101 : Int32) (117 : Int32) (100 : Int32) (0 : Int32) (0 : Int32)).bind fun z1 =>
  (fX12_isWord S z1).bind fun z2 =>
  if z2 &&& 1 = z2 then
    some (z2)
  else none
abbrev rmX12_isFeud : Room := { frames := 1, cells := 0, slots := 0, locals := 27 }
theorem okX12_isFeud : tc_ok yX12_isFeud cX12_isFeud 1 (some .boolean) 0 := ⟨wc_X12_isFeud, wn_X12, by decide, by decide, by decide +kernel⟩
set_option maxRecDepth 20000 in
theorem mX12_isFeud {q : Nat → Nat}  {S : ms_T}  {z : Int32}  (hf : fX12_isFeud S = some z) : tc_MI l dC dI ca yX12_isFeud cX12_isFeud 1 (some .boolean) rmX12_isFeud [.ref (q 0)] (w12 ca q S) (w12 ca q S) (z) := by
  refine tc_metI (own := RX12) (by decide) rfl ?_ (Nat.le_of_ble_eq_true rfl)
  intro p e s m below meth c A X hP hD hS ls hl
  obtain ⟨hx, hb, hr, hml, hown, hts, hlk, hK, hA, hG⟩ := id X
  unfold fX12_isFeud at hf
  have hl : lv_has ls 1 [(0, .ref (q 0))] := hl
  refine lv_aload_n hx hb dX12_isFeud_0 rfl (lv_at hl 0 rfl) ?_
  refine lv_bipush (v := (102 : Int32)) hx hb dX12_isFeud_1 (by decide) ?_
  refine lv_bipush (v := (101 : Int32)) hx hb dX12_isFeud_3 (by decide) ?_
  refine lv_bipush (v := (117 : Int32)) hx hb dX12_isFeud_5 (by decide) ?_
  refine lv_bipush (v := (100 : Int32)) hx hb dX12_isFeud_7 (by decide) ?_
  refine lv_iconst (v := (0 : Int32)) hx hb dX12_isFeud_9 (by decide) ?_
  refine lv_iconst (v := (0 : Int32)) hx hb dX12_isFeud_10 (by decide) ?_
  obtain ⟨z1, hg, hf⟩ := tc_bi hf
  refine tc_lS0 (As := [.int ((102 : Int32)), .int ((101 : Int32)), .int ((117 : Int32)), .int ((100 : Int32)), .int ((0 : Int32)), .int ((0 : Int32))]) (rest := [.ref (q 0)]) X hP hD hS (mX12_spelled hg) okX12_spelled wl_X12_143 wt_X12_spelled ⟨rfl, rfl, Nat.le_of_ble_eq_true rfl, Nat.le_of_ble_eq_true rfl⟩ rfl hl.1 (Nat.le_of_ble_eq_true rfl) dX12_isFeud_11 (fun H locs hP hD hS => ?_)
  obtain ⟨z2, hg, hf⟩ := tc_bi hf
  refine tc_iVs (As := [.long (z1)]) (rest := []) (b := q 0) X hP hD hS (mX12_isWord hg) okX12_isWord wl_X12_147 wi_X12_isWord ws_X12_X12_isWord_X12_isWord ⟨rfl, rfl, Nat.le_of_ble_eq_true rfl, Nat.le_of_ble_eq_true rfl⟩ 12 0 rfl rfl rfl hl.1 (Nat.le_of_ble_eq_true rfl) dX12_isFeud_14 (fun H locs hP hD hS => ?_)
  obtain ⟨hz1, hf⟩ := tc_ck hf
  obtain rfl := Option.some.inj hf
  exact tc_rz X hP hD hS rfl dX12_isFeud_17 hz1 rfl rfl
def fX12_stepWord  (S : ms_T)  : Option (Int32) :=
  (fX12_spelled (115 : Int32) (97 : Int32) (121 : Int32) (0 : Int32) (0 : Int32) (0 : Int32)).bind fun z1 =>
  (fX12_isWord S z1).bind fun z2 =>
  if z2 = 0 then
    (fX12_spelled (100 : Int32) (114 : Int32) (111 : Int32) (112 : Int32) (0 : Int32) (0 : Int32)).bind fun z3 =>
    (fX12_isWord S z3).bind fun z4 =>
    if z4 = 0 then
      (fX12_spelled (112 : Int32) (117 : Int32) (108 : Int32) (108 : Int32) (0 : Int32) (0 : Int32)).bind fun z5 =>
      (fX12_isWord S z5).bind fun z6 =>
      if z6 = 0 then
        (fX12_spelled (112 : Int32) (114 : Int32) (111 : Int32) (112 : Int32) (0 : Int32) (0 : Int32)).bind fun z7 =>
        (fX12_isWord S z7).bind fun z8 =>
        if z8 = 0 then
          (fX12_spelled (99 : Int32) (117 : Int32) (116 : Int32) (0 : Int32) (0 : Int32) (0 : Int32)).bind fun z9 =>
          (fX12_isWord S z9).bind fun z10 =>
          if z10 = 0 then
            (fX12_spelled (97 : Int32) (110 : Int32) (121 : Int32) (0 : Int32) (0 : Int32) (0 : Int32)).bind fun z11 =>
            (fX12_isWord S z11).bind fun z12 =>
            if z12 = 0 then
              (fX12_spelled (119 : Int32) (104 : Int32) (101 : Int32) (110 : Int32) (0 : Int32) (0 : Int32)).bind fun z13 =>
              (fX12_isWord S z13).bind fun z14 =>
              if z14 = 0 then
                (fX12_spelled (108 : Int32) (111 : Int32) (111 : Int32) (112 : Int32) (0 : Int32) (0 : Int32)).bind fun z15 =>
                (fX12_isWord S z15).bind fun z16 =>
                if z16 = 0 then
                  (fX12_spelled (115 : Int32) (116 : Int32) (111 : Int32) (112 : Int32) (0 : Int32) (0 : Int32)).bind fun z17 =>
                  (fX12_isWord S z17).bind fun z18 =>
                  if z18 = 0 then
                    some ((-1 : Int32))
                  else
                    some ((8 : Int32))
                else
                  some ((7 : Int32))
              else
                some ((6 : Int32))
            else
              some ((5 : Int32))
          else
            some ((4 : Int32))
        else
          some ((3 : Int32))
      else
        some ((2 : Int32))
    else
      some ((1 : Int32))
  else
    some ((0 : Int32))
abbrev rmX12_stepWord : Room := { frames := 1, cells := 0, slots := 0, locals := 27 }
theorem okX12_stepWord : tc_ok yX12_stepWord cX12_stepWord 1 (some .int) 0 := ⟨wc_X12_stepWord, wn_X12, by decide, by decide, by decide +kernel⟩
set_option maxRecDepth 20000 in
theorem mX12_stepWord {q : Nat → Nat}  {S : ms_T}  {z : Int32}  (hf : fX12_stepWord S = some z) : tc_MI l dC dI ca yX12_stepWord cX12_stepWord 1 (some .int) rmX12_stepWord [.ref (q 0)] (w12 ca q S) (w12 ca q S) (z) := by
  refine tc_metI (own := RX12) (by decide) rfl ?_ (Nat.le_of_ble_eq_true rfl)
  intro p e s m below meth c A X hP hD hS ls hl
  obtain ⟨hx, hb, hr, hml, hown, hts, hlk, hK, hA, hG⟩ := id X
  unfold fX12_stepWord at hf
  have hl : lv_has ls 1 [(0, .ref (q 0))] := hl
  refine lv_aload_n hx hb dX12_stepWord_0 rfl (lv_at hl 0 rfl) ?_
  refine lv_bipush (v := (115 : Int32)) hx hb dX12_stepWord_1 (by decide) ?_
  refine lv_bipush (v := (97 : Int32)) hx hb dX12_stepWord_3 (by decide) ?_
  refine lv_bipush (v := (121 : Int32)) hx hb dX12_stepWord_5 (by decide) ?_
  refine lv_iconst (v := (0 : Int32)) hx hb dX12_stepWord_7 (by decide) ?_
  refine lv_iconst (v := (0 : Int32)) hx hb dX12_stepWord_8 (by decide) ?_
  refine lv_iconst (v := (0 : Int32)) hx hb dX12_stepWord_9 (by decide) ?_
  obtain ⟨z1, hg, hf⟩ := tc_bi hf
  refine tc_lS0 (As := [.int ((115 : Int32)), .int ((97 : Int32)), .int ((121 : Int32)), .int ((0 : Int32)), .int ((0 : Int32)), .int ((0 : Int32))]) (rest := [.ref (q 0)]) X hP hD hS (mX12_spelled hg) okX12_spelled wl_X12_143 wt_X12_spelled ⟨rfl, rfl, Nat.le_of_ble_eq_true rfl, Nat.le_of_ble_eq_true rfl⟩ rfl hl.1 (Nat.le_of_ble_eq_true rfl) dX12_stepWord_10 (fun H locs hP hD hS => ?_)
  obtain ⟨z2, hg, hf⟩ := tc_bi hf
  refine tc_iVs (As := [.long (z1)]) (rest := []) (b := q 0) X hP hD hS (mX12_isWord hg) okX12_isWord wl_X12_147 wi_X12_isWord ws_X12_X12_isWord_X12_isWord ⟨rfl, rfl, Nat.le_of_ble_eq_true rfl, Nat.le_of_ble_eq_true rfl⟩ 12 0 rfl rfl rfl hl.1 (Nat.le_of_ble_eq_true rfl) dX12_stepWord_13 (fun H locs hP hD hS => ?_)
  refine lv_if_eq (tgt := 21) hx hb dX12_stepWord_16 (by decide) (fun hc => ?_) (fun hc => ?_)
  · have hf := tc_pos hc hf
    refine lv_aload_n hx hb dX12_stepWord_21 rfl (lv_at hl 0 rfl) ?_
    refine lv_bipush (v := (100 : Int32)) hx hb dX12_stepWord_22 (by decide) ?_
    refine lv_bipush (v := (114 : Int32)) hx hb dX12_stepWord_24 (by decide) ?_
    refine lv_bipush (v := (111 : Int32)) hx hb dX12_stepWord_26 (by decide) ?_
    refine lv_bipush (v := (112 : Int32)) hx hb dX12_stepWord_28 (by decide) ?_
    refine lv_iconst (v := (0 : Int32)) hx hb dX12_stepWord_30 (by decide) ?_
    refine lv_iconst (v := (0 : Int32)) hx hb dX12_stepWord_31 (by decide) ?_
    obtain ⟨z3, hg, hf⟩ := tc_bi hf
    refine tc_lS0 (As := [.int ((100 : Int32)), .int ((114 : Int32)), .int ((111 : Int32)), .int ((112 : Int32)), .int ((0 : Int32)), .int ((0 : Int32))]) (rest := [.ref (q 0)]) X hP hD hS (mX12_spelled hg) okX12_spelled wl_X12_143 wt_X12_spelled ⟨rfl, rfl, Nat.le_of_ble_eq_true rfl, Nat.le_of_ble_eq_true rfl⟩ rfl hl.1 (Nat.le_of_ble_eq_true rfl) dX12_stepWord_32 (fun H locs hP hD hS => ?_)
    obtain ⟨z4, hg, hf⟩ := tc_bi hf
    refine tc_iVs (As := [.long (z3)]) (rest := []) (b := q 0) X hP hD hS (mX12_isWord hg) okX12_isWord wl_X12_147 wi_X12_isWord ws_X12_X12_isWord_X12_isWord ⟨rfl, rfl, Nat.le_of_ble_eq_true rfl, Nat.le_of_ble_eq_true rfl⟩ 12 0 rfl rfl rfl hl.1 (Nat.le_of_ble_eq_true rfl) dX12_stepWord_35 (fun H locs hP hD hS => ?_)
    refine lv_if_eq (tgt := 43) hx hb dX12_stepWord_38 (by decide) (fun hc => ?_) (fun hc => ?_)
    · have hf := tc_pos hc hf
      refine lv_aload_n hx hb dX12_stepWord_43 rfl (lv_at hl 0 rfl) ?_
      refine lv_bipush (v := (112 : Int32)) hx hb dX12_stepWord_44 (by decide) ?_
      refine lv_bipush (v := (117 : Int32)) hx hb dX12_stepWord_46 (by decide) ?_
      refine lv_bipush (v := (108 : Int32)) hx hb dX12_stepWord_48 (by decide) ?_
      refine lv_bipush (v := (108 : Int32)) hx hb dX12_stepWord_50 (by decide) ?_
      refine lv_iconst (v := (0 : Int32)) hx hb dX12_stepWord_52 (by decide) ?_
      refine lv_iconst (v := (0 : Int32)) hx hb dX12_stepWord_53 (by decide) ?_
      obtain ⟨z5, hg, hf⟩ := tc_bi hf
      refine tc_lS0 (As := [.int ((112 : Int32)), .int ((117 : Int32)), .int ((108 : Int32)), .int ((108 : Int32)), .int ((0 : Int32)), .int ((0 : Int32))]) (rest := [.ref (q 0)]) X hP hD hS (mX12_spelled hg) okX12_spelled wl_X12_143 wt_X12_spelled ⟨rfl, rfl, Nat.le_of_ble_eq_true rfl, Nat.le_of_ble_eq_true rfl⟩ rfl hl.1 (Nat.le_of_ble_eq_true rfl) dX12_stepWord_54 (fun H locs hP hD hS => ?_)
      obtain ⟨z6, hg, hf⟩ := tc_bi hf
      refine tc_iVs (As := [.long (z5)]) (rest := []) (b := q 0) X hP hD hS (mX12_isWord hg) okX12_isWord wl_X12_147 wi_X12_isWord ws_X12_X12_isWord_X12_isWord ⟨rfl, rfl, Nat.le_of_ble_eq_true rfl, Nat.le_of_ble_eq_true rfl⟩ 12 0 rfl rfl rfl hl.1 (Nat.le_of_ble_eq_true rfl) dX12_stepWord_57 (fun H locs hP hD hS => ?_)
      refine lv_if_eq (tgt := 65) hx hb dX12_stepWord_60 (by decide) (fun hc => ?_) (fun hc => ?_)
      · have hf := tc_pos hc hf
        refine lv_aload_n hx hb dX12_stepWord_65 rfl (lv_at hl 0 rfl) ?_
        refine lv_bipush (v := (112 : Int32)) hx hb dX12_stepWord_66 (by decide) ?_
        refine lv_bipush (v := (114 : Int32)) hx hb dX12_stepWord_68 (by decide) ?_
        refine lv_bipush (v := (111 : Int32)) hx hb dX12_stepWord_70 (by decide) ?_
        refine lv_bipush (v := (112 : Int32)) hx hb dX12_stepWord_72 (by decide) ?_
        refine lv_iconst (v := (0 : Int32)) hx hb dX12_stepWord_74 (by decide) ?_
        refine lv_iconst (v := (0 : Int32)) hx hb dX12_stepWord_75 (by decide) ?_
        obtain ⟨z7, hg, hf⟩ := tc_bi hf
        refine tc_lS0 (As := [.int ((112 : Int32)), .int ((114 : Int32)), .int ((111 : Int32)), .int ((112 : Int32)), .int ((0 : Int32)), .int ((0 : Int32))]) (rest := [.ref (q 0)]) X hP hD hS (mX12_spelled hg) okX12_spelled wl_X12_143 wt_X12_spelled ⟨rfl, rfl, Nat.le_of_ble_eq_true rfl, Nat.le_of_ble_eq_true rfl⟩ rfl hl.1 (Nat.le_of_ble_eq_true rfl) dX12_stepWord_76 (fun H locs hP hD hS => ?_)
        obtain ⟨z8, hg, hf⟩ := tc_bi hf
        refine tc_iVs (As := [.long (z7)]) (rest := []) (b := q 0) X hP hD hS (mX12_isWord hg) okX12_isWord wl_X12_147 wi_X12_isWord ws_X12_X12_isWord_X12_isWord ⟨rfl, rfl, Nat.le_of_ble_eq_true rfl, Nat.le_of_ble_eq_true rfl⟩ 12 0 rfl rfl rfl hl.1 (Nat.le_of_ble_eq_true rfl) dX12_stepWord_79 (fun H locs hP hD hS => ?_)
        refine lv_if_eq (tgt := 87) hx hb dX12_stepWord_82 (by decide) (fun hc => ?_) (fun hc => ?_)
        · have hf := tc_pos hc hf
          refine lv_aload_n hx hb dX12_stepWord_87 rfl (lv_at hl 0 rfl) ?_
          refine lv_bipush (v := (99 : Int32)) hx hb dX12_stepWord_88 (by decide) ?_
          refine lv_bipush (v := (117 : Int32)) hx hb dX12_stepWord_90 (by decide) ?_
          refine lv_bipush (v := (116 : Int32)) hx hb dX12_stepWord_92 (by decide) ?_
          refine lv_iconst (v := (0 : Int32)) hx hb dX12_stepWord_94 (by decide) ?_
          refine lv_iconst (v := (0 : Int32)) hx hb dX12_stepWord_95 (by decide) ?_
          refine lv_iconst (v := (0 : Int32)) hx hb dX12_stepWord_96 (by decide) ?_
          obtain ⟨z9, hg, hf⟩ := tc_bi hf
          refine tc_lS0 (As := [.int ((99 : Int32)), .int ((117 : Int32)), .int ((116 : Int32)), .int ((0 : Int32)), .int ((0 : Int32)), .int ((0 : Int32))]) (rest := [.ref (q 0)]) X hP hD hS (mX12_spelled hg) okX12_spelled wl_X12_143 wt_X12_spelled ⟨rfl, rfl, Nat.le_of_ble_eq_true rfl, Nat.le_of_ble_eq_true rfl⟩ rfl hl.1 (Nat.le_of_ble_eq_true rfl) dX12_stepWord_97 (fun H locs hP hD hS => ?_)
          obtain ⟨z10, hg, hf⟩ := tc_bi hf
          refine tc_iVs (As := [.long (z9)]) (rest := []) (b := q 0) X hP hD hS (mX12_isWord hg) okX12_isWord wl_X12_147 wi_X12_isWord ws_X12_X12_isWord_X12_isWord ⟨rfl, rfl, Nat.le_of_ble_eq_true rfl, Nat.le_of_ble_eq_true rfl⟩ 12 0 rfl rfl rfl hl.1 (Nat.le_of_ble_eq_true rfl) dX12_stepWord_100 (fun H locs hP hD hS => ?_)
          refine lv_if_eq (tgt := 108) hx hb dX12_stepWord_103 (by decide) (fun hc => ?_) (fun hc => ?_)
          · have hf := tc_pos hc hf
            refine lv_aload_n hx hb dX12_stepWord_108 rfl (lv_at hl 0 rfl) ?_
            refine lv_bipush (v := (97 : Int32)) hx hb dX12_stepWord_109 (by decide) ?_
            refine lv_bipush (v := (110 : Int32)) hx hb dX12_stepWord_111 (by decide) ?_
            refine lv_bipush (v := (121 : Int32)) hx hb dX12_stepWord_113 (by decide) ?_
            refine lv_iconst (v := (0 : Int32)) hx hb dX12_stepWord_115 (by decide) ?_
            refine lv_iconst (v := (0 : Int32)) hx hb dX12_stepWord_116 (by decide) ?_
            refine lv_iconst (v := (0 : Int32)) hx hb dX12_stepWord_117 (by decide) ?_
            obtain ⟨z11, hg, hf⟩ := tc_bi hf
            refine tc_lS0 (As := [.int ((97 : Int32)), .int ((110 : Int32)), .int ((121 : Int32)), .int ((0 : Int32)), .int ((0 : Int32)), .int ((0 : Int32))]) (rest := [.ref (q 0)]) X hP hD hS (mX12_spelled hg) okX12_spelled wl_X12_143 wt_X12_spelled ⟨rfl, rfl, Nat.le_of_ble_eq_true rfl, Nat.le_of_ble_eq_true rfl⟩ rfl hl.1 (Nat.le_of_ble_eq_true rfl) dX12_stepWord_118 (fun H locs hP hD hS => ?_)
            obtain ⟨z12, hg, hf⟩ := tc_bi hf
            refine tc_iVs (As := [.long (z11)]) (rest := []) (b := q 0) X hP hD hS (mX12_isWord hg) okX12_isWord wl_X12_147 wi_X12_isWord ws_X12_X12_isWord_X12_isWord ⟨rfl, rfl, Nat.le_of_ble_eq_true rfl, Nat.le_of_ble_eq_true rfl⟩ 12 0 rfl rfl rfl hl.1 (Nat.le_of_ble_eq_true rfl) dX12_stepWord_121 (fun H locs hP hD hS => ?_)
            refine lv_if_eq (tgt := 129) hx hb dX12_stepWord_124 (by decide) (fun hc => ?_) (fun hc => ?_)
            · have hf := tc_pos hc hf
              refine lv_aload_n hx hb dX12_stepWord_129 rfl (lv_at hl 0 rfl) ?_
              refine lv_bipush (v := (119 : Int32)) hx hb dX12_stepWord_130 (by decide) ?_
              refine lv_bipush (v := (104 : Int32)) hx hb dX12_stepWord_132 (by decide) ?_
              refine lv_bipush (v := (101 : Int32)) hx hb dX12_stepWord_134 (by decide) ?_
              refine lv_bipush (v := (110 : Int32)) hx hb dX12_stepWord_136 (by decide) ?_
              refine lv_iconst (v := (0 : Int32)) hx hb dX12_stepWord_138 (by decide) ?_
              refine lv_iconst (v := (0 : Int32)) hx hb dX12_stepWord_139 (by decide) ?_
              obtain ⟨z13, hg, hf⟩ := tc_bi hf
              refine tc_lS0 (As := [.int ((119 : Int32)), .int ((104 : Int32)), .int ((101 : Int32)), .int ((110 : Int32)), .int ((0 : Int32)), .int ((0 : Int32))]) (rest := [.ref (q 0)]) X hP hD hS (mX12_spelled hg) okX12_spelled wl_X12_143 wt_X12_spelled ⟨rfl, rfl, Nat.le_of_ble_eq_true rfl, Nat.le_of_ble_eq_true rfl⟩ rfl hl.1 (Nat.le_of_ble_eq_true rfl) dX12_stepWord_140 (fun H locs hP hD hS => ?_)
              obtain ⟨z14, hg, hf⟩ := tc_bi hf
              refine tc_iVs (As := [.long (z13)]) (rest := []) (b := q 0) X hP hD hS (mX12_isWord hg) okX12_isWord wl_X12_147 wi_X12_isWord ws_X12_X12_isWord_X12_isWord ⟨rfl, rfl, Nat.le_of_ble_eq_true rfl, Nat.le_of_ble_eq_true rfl⟩ 12 0 rfl rfl rfl hl.1 (Nat.le_of_ble_eq_true rfl) dX12_stepWord_143 (fun H locs hP hD hS => ?_)
              refine lv_if_eq (tgt := 152) hx hb dX12_stepWord_146 (by decide) (fun hc => ?_) (fun hc => ?_)
              · have hf := tc_pos hc hf
                refine lv_aload_n hx hb dX12_stepWord_152 rfl (lv_at hl 0 rfl) ?_
                refine lv_bipush (v := (108 : Int32)) hx hb dX12_stepWord_153 (by decide) ?_
                refine lv_bipush (v := (111 : Int32)) hx hb dX12_stepWord_155 (by decide) ?_
                refine lv_bipush (v := (111 : Int32)) hx hb dX12_stepWord_157 (by decide) ?_
                refine lv_bipush (v := (112 : Int32)) hx hb dX12_stepWord_159 (by decide) ?_
                refine lv_iconst (v := (0 : Int32)) hx hb dX12_stepWord_161 (by decide) ?_
                refine lv_iconst (v := (0 : Int32)) hx hb dX12_stepWord_162 (by decide) ?_
                obtain ⟨z15, hg, hf⟩ := tc_bi hf
                refine tc_lS0 (As := [.int ((108 : Int32)), .int ((111 : Int32)), .int ((111 : Int32)), .int ((112 : Int32)), .int ((0 : Int32)), .int ((0 : Int32))]) (rest := [.ref (q 0)]) X hP hD hS (mX12_spelled hg) okX12_spelled wl_X12_143 wt_X12_spelled ⟨rfl, rfl, Nat.le_of_ble_eq_true rfl, Nat.le_of_ble_eq_true rfl⟩ rfl hl.1 (Nat.le_of_ble_eq_true rfl) dX12_stepWord_163 (fun H locs hP hD hS => ?_)
                obtain ⟨z16, hg, hf⟩ := tc_bi hf
                refine tc_iVs (As := [.long (z15)]) (rest := []) (b := q 0) X hP hD hS (mX12_isWord hg) okX12_isWord wl_X12_147 wi_X12_isWord ws_X12_X12_isWord_X12_isWord ⟨rfl, rfl, Nat.le_of_ble_eq_true rfl, Nat.le_of_ble_eq_true rfl⟩ 12 0 rfl rfl rfl hl.1 (Nat.le_of_ble_eq_true rfl) dX12_stepWord_166 (fun H locs hP hD hS => ?_)
                refine lv_if_eq (tgt := 175) hx hb dX12_stepWord_169 (by decide) (fun hc => ?_) (fun hc => ?_)
                · have hf := tc_pos hc hf
                  refine lv_aload_n hx hb dX12_stepWord_175 rfl (lv_at hl 0 rfl) ?_
                  refine lv_bipush (v := (115 : Int32)) hx hb dX12_stepWord_176 (by decide) ?_
                  refine lv_bipush (v := (116 : Int32)) hx hb dX12_stepWord_178 (by decide) ?_
                  refine lv_bipush (v := (111 : Int32)) hx hb dX12_stepWord_180 (by decide) ?_
                  refine lv_bipush (v := (112 : Int32)) hx hb dX12_stepWord_182 (by decide) ?_
                  refine lv_iconst (v := (0 : Int32)) hx hb dX12_stepWord_184 (by decide) ?_
                  refine lv_iconst (v := (0 : Int32)) hx hb dX12_stepWord_185 (by decide) ?_
                  obtain ⟨z17, hg, hf⟩ := tc_bi hf
                  refine tc_lS0 (As := [.int ((115 : Int32)), .int ((116 : Int32)), .int ((111 : Int32)), .int ((112 : Int32)), .int ((0 : Int32)), .int ((0 : Int32))]) (rest := [.ref (q 0)]) X hP hD hS (mX12_spelled hg) okX12_spelled wl_X12_143 wt_X12_spelled ⟨rfl, rfl, Nat.le_of_ble_eq_true rfl, Nat.le_of_ble_eq_true rfl⟩ rfl hl.1 (Nat.le_of_ble_eq_true rfl) dX12_stepWord_186 (fun H locs hP hD hS => ?_)
                  obtain ⟨z18, hg, hf⟩ := tc_bi hf
                  refine tc_iVs (As := [.long (z17)]) (rest := []) (b := q 0) X hP hD hS (mX12_isWord hg) okX12_isWord wl_X12_147 wi_X12_isWord ws_X12_X12_isWord_X12_isWord ⟨rfl, rfl, Nat.le_of_ble_eq_true rfl, Nat.le_of_ble_eq_true rfl⟩ 12 0 rfl rfl rfl hl.1 (Nat.le_of_ble_eq_true rfl) dX12_stepWord_189 (fun H locs hP hD hS => ?_)
                  refine lv_if_eq (tgt := 200) hx hb dX12_stepWord_192 (by decide) (fun hc => ?_) (fun hc => ?_)
                  · have hf := tc_pos hc hf
                    refine lv_iconst (v := (-1 : Int32)) hx hb dX12_stepWord_200 (by decide) ?_
                    obtain rfl := Option.some.inj hf
                    exact tc_ri X hP hD hS rfl dX12_stepWord_201 rfl rfl
                  · have hf := tc_neg hc hf
                    refine lv_bipush (v := (8 : Int32)) hx hb dX12_stepWord_195 (by decide) ?_
                    refine lv_goto (tgt := 201) hx hb dX12_stepWord_197 (by decide) ?_
                    obtain rfl := Option.some.inj hf
                    exact tc_ri X hP hD hS rfl dX12_stepWord_201 rfl rfl
                · have hf := tc_neg hc hf
                  refine lv_bipush (v := (7 : Int32)) hx hb dX12_stepWord_172 (by decide) ?_
                  obtain rfl := Option.some.inj hf
                  exact tc_ri X hP hD hS rfl dX12_stepWord_174 rfl rfl
              · have hf := tc_neg hc hf
                refine lv_bipush (v := (6 : Int32)) hx hb dX12_stepWord_149 (by decide) ?_
                obtain rfl := Option.some.inj hf
                exact tc_ri X hP hD hS rfl dX12_stepWord_151 rfl rfl
            · have hf := tc_neg hc hf
              refine lv_iconst (v := (5 : Int32)) hx hb dX12_stepWord_127 (by decide) ?_
              obtain rfl := Option.some.inj hf
              exact tc_ri X hP hD hS rfl dX12_stepWord_128 rfl rfl
          · have hf := tc_neg hc hf
            refine lv_iconst (v := (4 : Int32)) hx hb dX12_stepWord_106 (by decide) ?_
            obtain rfl := Option.some.inj hf
            exact tc_ri X hP hD hS rfl dX12_stepWord_107 rfl rfl
        · have hf := tc_neg hc hf
          refine lv_iconst (v := (3 : Int32)) hx hb dX12_stepWord_85 (by decide) ?_
          obtain rfl := Option.some.inj hf
          exact tc_ri X hP hD hS rfl dX12_stepWord_86 rfl rfl
      · have hf := tc_neg hc hf
        refine lv_iconst (v := (2 : Int32)) hx hb dX12_stepWord_63 (by decide) ?_
        obtain rfl := Option.some.inj hf
        exact tc_ri X hP hD hS rfl dX12_stepWord_64 rfl rfl
    · have hf := tc_neg hc hf
      refine lv_iconst (v := (1 : Int32)) hx hb dX12_stepWord_41 (by decide) ?_
      obtain rfl := Option.some.inj hf
      exact tc_ri X hP hD hS rfl dX12_stepWord_42 rfl rfl
  · have hf := tc_neg hc hf
    refine lv_iconst (v := (0 : Int32)) hx hb dX12_stepWord_19 (by decide) ?_
    obtain rfl := Option.some.inj hf
    exact tc_ri X hP hD hS rfl dX12_stepWord_20 rfl rfl
def fX12_testWord  (S : ms_T)  : Option (Int32) :=
  (fX12_spelled (115 : Int32) (116 : Int32) (97 : Int32) (110 : Int32) (100 : Int32) (115 : Int32)).bind fun z1 =>
  (fX12_isWord S z1).bind fun z2 =>
  if z2 = 0 then
    (fX12_spelled (102 : Int32) (97 : Int32) (108 : Int32) (108 : Int32) (115 : Int32) (0 : Int32)).bind fun z3 =>
    (fX12_isWord S z3).bind fun z4 =>
    if z4 = 0 then
      (fX12_spelled (104 : Int32) (105 : Int32) (103 : Int32) (104 : Int32) (0 : Int32) (0 : Int32)).bind fun z5 =>
      (fX12_isWord S z5).bind fun z6 =>
      if z6 = 0 then
        some ((-1 : Int32))
      else
        some ((2 : Int32))
    else
      some ((1 : Int32))
  else
    some ((0 : Int32))
abbrev rmX12_testWord : Room := { frames := 1, cells := 0, slots := 0, locals := 27 }
theorem okX12_testWord : tc_ok yX12_testWord cX12_testWord 1 (some .int) 0 := ⟨wc_X12_testWord, wn_X12, by decide, by decide, by decide +kernel⟩
set_option maxRecDepth 20000 in
theorem mX12_testWord {q : Nat → Nat}  {S : ms_T}  {z : Int32}  (hf : fX12_testWord S = some z) : tc_MI l dC dI ca yX12_testWord cX12_testWord 1 (some .int) rmX12_testWord [.ref (q 0)] (w12 ca q S) (w12 ca q S) (z) := by
  refine tc_metI (own := RX12) (by decide) rfl ?_ (Nat.le_of_ble_eq_true rfl)
  intro p e s m below meth c A X hP hD hS ls hl
  obtain ⟨hx, hb, hr, hml, hown, hts, hlk, hK, hA, hG⟩ := id X
  unfold fX12_testWord at hf
  have hl : lv_has ls 1 [(0, .ref (q 0))] := hl
  refine lv_aload_n hx hb dX12_testWord_0 rfl (lv_at hl 0 rfl) ?_
  refine lv_bipush (v := (115 : Int32)) hx hb dX12_testWord_1 (by decide) ?_
  refine lv_bipush (v := (116 : Int32)) hx hb dX12_testWord_3 (by decide) ?_
  refine lv_bipush (v := (97 : Int32)) hx hb dX12_testWord_5 (by decide) ?_
  refine lv_bipush (v := (110 : Int32)) hx hb dX12_testWord_7 (by decide) ?_
  refine lv_bipush (v := (100 : Int32)) hx hb dX12_testWord_9 (by decide) ?_
  refine lv_bipush (v := (115 : Int32)) hx hb dX12_testWord_11 (by decide) ?_
  obtain ⟨z1, hg, hf⟩ := tc_bi hf
  refine tc_lS0 (As := [.int ((115 : Int32)), .int ((116 : Int32)), .int ((97 : Int32)), .int ((110 : Int32)), .int ((100 : Int32)), .int ((115 : Int32))]) (rest := [.ref (q 0)]) X hP hD hS (mX12_spelled hg) okX12_spelled wl_X12_143 wt_X12_spelled ⟨rfl, rfl, Nat.le_of_ble_eq_true rfl, Nat.le_of_ble_eq_true rfl⟩ rfl hl.1 (Nat.le_of_ble_eq_true rfl) dX12_testWord_13 (fun H locs hP hD hS => ?_)
  obtain ⟨z2, hg, hf⟩ := tc_bi hf
  refine tc_iVs (As := [.long (z1)]) (rest := []) (b := q 0) X hP hD hS (mX12_isWord hg) okX12_isWord wl_X12_147 wi_X12_isWord ws_X12_X12_isWord_X12_isWord ⟨rfl, rfl, Nat.le_of_ble_eq_true rfl, Nat.le_of_ble_eq_true rfl⟩ 12 0 rfl rfl rfl hl.1 (Nat.le_of_ble_eq_true rfl) dX12_testWord_16 (fun H locs hP hD hS => ?_)
  refine lv_if_eq (tgt := 24) hx hb dX12_testWord_19 (by decide) (fun hc => ?_) (fun hc => ?_)
  · have hf := tc_pos hc hf
    refine lv_aload_n hx hb dX12_testWord_24 rfl (lv_at hl 0 rfl) ?_
    refine lv_bipush (v := (102 : Int32)) hx hb dX12_testWord_25 (by decide) ?_
    refine lv_bipush (v := (97 : Int32)) hx hb dX12_testWord_27 (by decide) ?_
    refine lv_bipush (v := (108 : Int32)) hx hb dX12_testWord_29 (by decide) ?_
    refine lv_bipush (v := (108 : Int32)) hx hb dX12_testWord_31 (by decide) ?_
    refine lv_bipush (v := (115 : Int32)) hx hb dX12_testWord_33 (by decide) ?_
    refine lv_iconst (v := (0 : Int32)) hx hb dX12_testWord_35 (by decide) ?_
    obtain ⟨z3, hg, hf⟩ := tc_bi hf
    refine tc_lS0 (As := [.int ((102 : Int32)), .int ((97 : Int32)), .int ((108 : Int32)), .int ((108 : Int32)), .int ((115 : Int32)), .int ((0 : Int32))]) (rest := [.ref (q 0)]) X hP hD hS (mX12_spelled hg) okX12_spelled wl_X12_143 wt_X12_spelled ⟨rfl, rfl, Nat.le_of_ble_eq_true rfl, Nat.le_of_ble_eq_true rfl⟩ rfl hl.1 (Nat.le_of_ble_eq_true rfl) dX12_testWord_36 (fun H locs hP hD hS => ?_)
    obtain ⟨z4, hg, hf⟩ := tc_bi hf
    refine tc_iVs (As := [.long (z3)]) (rest := []) (b := q 0) X hP hD hS (mX12_isWord hg) okX12_isWord wl_X12_147 wi_X12_isWord ws_X12_X12_isWord_X12_isWord ⟨rfl, rfl, Nat.le_of_ble_eq_true rfl, Nat.le_of_ble_eq_true rfl⟩ 12 0 rfl rfl rfl hl.1 (Nat.le_of_ble_eq_true rfl) dX12_testWord_39 (fun H locs hP hD hS => ?_)
    refine lv_if_eq (tgt := 47) hx hb dX12_testWord_42 (by decide) (fun hc => ?_) (fun hc => ?_)
    · have hf := tc_pos hc hf
      refine lv_aload_n hx hb dX12_testWord_47 rfl (lv_at hl 0 rfl) ?_
      refine lv_bipush (v := (104 : Int32)) hx hb dX12_testWord_48 (by decide) ?_
      refine lv_bipush (v := (105 : Int32)) hx hb dX12_testWord_50 (by decide) ?_
      refine lv_bipush (v := (103 : Int32)) hx hb dX12_testWord_52 (by decide) ?_
      refine lv_bipush (v := (104 : Int32)) hx hb dX12_testWord_54 (by decide) ?_
      refine lv_iconst (v := (0 : Int32)) hx hb dX12_testWord_56 (by decide) ?_
      refine lv_iconst (v := (0 : Int32)) hx hb dX12_testWord_57 (by decide) ?_
      obtain ⟨z5, hg, hf⟩ := tc_bi hf
      refine tc_lS0 (As := [.int ((104 : Int32)), .int ((105 : Int32)), .int ((103 : Int32)), .int ((104 : Int32)), .int ((0 : Int32)), .int ((0 : Int32))]) (rest := [.ref (q 0)]) X hP hD hS (mX12_spelled hg) okX12_spelled wl_X12_143 wt_X12_spelled ⟨rfl, rfl, Nat.le_of_ble_eq_true rfl, Nat.le_of_ble_eq_true rfl⟩ rfl hl.1 (Nat.le_of_ble_eq_true rfl) dX12_testWord_58 (fun H locs hP hD hS => ?_)
      obtain ⟨z6, hg, hf⟩ := tc_bi hf
      refine tc_iVs (As := [.long (z5)]) (rest := []) (b := q 0) X hP hD hS (mX12_isWord hg) okX12_isWord wl_X12_147 wi_X12_isWord ws_X12_X12_isWord_X12_isWord ⟨rfl, rfl, Nat.le_of_ble_eq_true rfl, Nat.le_of_ble_eq_true rfl⟩ 12 0 rfl rfl rfl hl.1 (Nat.le_of_ble_eq_true rfl) dX12_testWord_61 (fun H locs hP hD hS => ?_)
      refine lv_if_eq (tgt := 71) hx hb dX12_testWord_64 (by decide) (fun hc => ?_) (fun hc => ?_)
      · have hf := tc_pos hc hf
        refine lv_iconst (v := (-1 : Int32)) hx hb dX12_testWord_71 (by decide) ?_
        obtain rfl := Option.some.inj hf
        exact tc_ri X hP hD hS rfl dX12_testWord_72 rfl rfl
      · have hf := tc_neg hc hf
        refine lv_iconst (v := (2 : Int32)) hx hb dX12_testWord_67 (by decide) ?_
        refine lv_goto (tgt := 72) hx hb dX12_testWord_68 (by decide) ?_
        obtain rfl := Option.some.inj hf
        exact tc_ri X hP hD hS rfl dX12_testWord_72 rfl rfl
    · have hf := tc_neg hc hf
      refine lv_iconst (v := (1 : Int32)) hx hb dX12_testWord_45 (by decide) ?_
      obtain rfl := Option.some.inj hf
      exact tc_ri X hP hD hS rfl dX12_testWord_46 rfl rfl
  · have hf := tc_neg hc hf
    refine lv_iconst (v := (0 : Int32)) hx hb dX12_testWord_22 (by decide) ?_
    obtain rfl := Option.some.inj hf
    exact tc_ri X hP hD hS rfl dX12_testWord_23 rfl rfl
def fX12_isEnd  (S : ms_T)  : Option (Int32) :=
  (fX12_spelled (101 : Int32) (110 : Int32) (100 : Int32) (0 : Int32) (0 : Int32) (0 : Int32)).bind fun z1 =>
  (fX12_isWord S z1).bind fun z2 =>
  if z2 &&& 1 = z2 then
    some (z2)
  else none
abbrev rmX12_isEnd : Room := { frames := 1, cells := 0, slots := 0, locals := 27 }
theorem okX12_isEnd : tc_ok yX12_isEnd cX12_isEnd 1 (some .boolean) 0 := ⟨wc_X12_isEnd, wn_X12, by decide, by decide, by decide +kernel⟩
set_option maxRecDepth 20000 in
theorem mX12_isEnd {q : Nat → Nat}  {S : ms_T}  {z : Int32}  (hf : fX12_isEnd S = some z) : tc_MI l dC dI ca yX12_isEnd cX12_isEnd 1 (some .boolean) rmX12_isEnd [.ref (q 0)] (w12 ca q S) (w12 ca q S) (z) := by
  refine tc_metI (own := RX12) (by decide) rfl ?_ (Nat.le_of_ble_eq_true rfl)
  intro p e s m below meth c A X hP hD hS ls hl
  obtain ⟨hx, hb, hr, hml, hown, hts, hlk, hK, hA, hG⟩ := id X
  unfold fX12_isEnd at hf
  have hl : lv_has ls 1 [(0, .ref (q 0))] := hl
  refine lv_aload_n hx hb dX12_isEnd_0 rfl (lv_at hl 0 rfl) ?_
  refine lv_bipush (v := (101 : Int32)) hx hb dX12_isEnd_1 (by decide) ?_
  refine lv_bipush (v := (110 : Int32)) hx hb dX12_isEnd_3 (by decide) ?_
  refine lv_bipush (v := (100 : Int32)) hx hb dX12_isEnd_5 (by decide) ?_
  refine lv_iconst (v := (0 : Int32)) hx hb dX12_isEnd_7 (by decide) ?_
  refine lv_iconst (v := (0 : Int32)) hx hb dX12_isEnd_8 (by decide) ?_
  refine lv_iconst (v := (0 : Int32)) hx hb dX12_isEnd_9 (by decide) ?_
  obtain ⟨z1, hg, hf⟩ := tc_bi hf
  refine tc_lS0 (As := [.int ((101 : Int32)), .int ((110 : Int32)), .int ((100 : Int32)), .int ((0 : Int32)), .int ((0 : Int32)), .int ((0 : Int32))]) (rest := [.ref (q 0)]) X hP hD hS (mX12_spelled hg) okX12_spelled wl_X12_143 wt_X12_spelled ⟨rfl, rfl, Nat.le_of_ble_eq_true rfl, Nat.le_of_ble_eq_true rfl⟩ rfl hl.1 (Nat.le_of_ble_eq_true rfl) dX12_isEnd_10 (fun H locs hP hD hS => ?_)
  obtain ⟨z2, hg, hf⟩ := tc_bi hf
  refine tc_iVs (As := [.long (z1)]) (rest := []) (b := q 0) X hP hD hS (mX12_isWord hg) okX12_isWord wl_X12_147 wi_X12_isWord ws_X12_X12_isWord_X12_isWord ⟨rfl, rfl, Nat.le_of_ble_eq_true rfl, Nat.le_of_ble_eq_true rfl⟩ 12 0 rfl rfl rfl hl.1 (Nat.le_of_ble_eq_true rfl) dX12_isEnd_13 (fun H locs hP hD hS => ?_)
  obtain ⟨hz1, hf⟩ := tc_ck hf
  obtain rfl := Option.some.inj hf
  exact tc_rz X hP hD hS rfl dX12_isEnd_16 hz1 rfl rfl
def fX12_isKept  (S : ms_T)  : Option (Int32) :=
  (fX12_isOdds S).bind fun z1 =>
  if z1 = 0 then
    (fX12_isTopic S).bind fun z2 =>
    if z2 = 0 then
      (fX12_isWorth S).bind fun z3 =>
      if z3 = 0 then
        (fX12_isDrift S).bind fun z4 =>
        if z4 = 0 then
          (fX12_isClaim S).bind fun z5 =>
          if z5 = 0 then
            (fX12_isAtWord S).bind fun z6 =>
            if z6 = 0 then
              (fX12_isProppedWord S).bind fun z7 =>
              if z7 = 0 then
                (fX12_isNeeds S).bind fun z8 =>
                if z8 = 0 then
                  (fX12_isTalker S).bind fun z9 =>
                  if z9 = 0 then
                    (fX12_isSeat S).bind fun z10 =>
                    if z10 = 0 then
                      (fX12_isOn S).bind fun z11 =>
                      if z11 = 0 then
                        (fX12_isFails S).bind fun z12 =>
                        if z12 = 0 then
                          (fX12_isFeud S).bind fun z13 =>
                          if z13 = 0 then
                            (fX12_stepWord S).bind fun z14 =>
                            if 0 ≤ z14 then
                              some ((1 : Int32))
                            else
                              (fX12_testWord S).bind fun z15 =>
                              if 0 ≤ z15 then
                                some ((1 : Int32))
                              else
                                (fX12_isEnd S).bind fun z16 =>
                                if z16 = 0 then
                                  some ((0 : Int32))
                                else
                                  some ((1 : Int32))
                          else
                            some ((1 : Int32))
                        else
                          some ((1 : Int32))
                      else
                        some ((1 : Int32))
                    else
                      some ((1 : Int32))
                  else
                    some ((1 : Int32))
                else
                  some ((1 : Int32))
              else
                some ((1 : Int32))
            else
              some ((1 : Int32))
          else
            some ((1 : Int32))
        else
          some ((1 : Int32))
      else
        some ((1 : Int32))
    else
      some ((1 : Int32))
  else
    some ((1 : Int32))
abbrev rmX12_isKept : Room := { frames := 2, cells := 0, slots := 0, locals := 47 }
theorem okX12_isKept : tc_ok yX12_isKept cX12_isKept 1 (some .boolean) 0 := ⟨wc_X12_isKept, wn_X12, by decide, by decide, by decide +kernel⟩
set_option maxRecDepth 20000 in
theorem mX12_isKept {q : Nat → Nat}  {S : ms_T}  {z : Int32}  (hf : fX12_isKept S = some z) : tc_MI l dC dI ca yX12_isKept cX12_isKept 1 (some .boolean) rmX12_isKept [.ref (q 0)] (w12 ca q S) (w12 ca q S) (z) := by
  refine tc_metI (own := RX12) (by decide) rfl ?_ (Nat.le_of_ble_eq_true rfl)
  intro p e s m below meth c A X hP hD hS ls hl
  obtain ⟨hx, hb, hr, hml, hown, hts, hlk, hK, hA, hG⟩ := id X
  unfold fX12_isKept at hf
  have hl : lv_has ls 1 [(0, .ref (q 0))] := hl
  refine lv_aload_n hx hb dX12_isKept_0 rfl (lv_at hl 0 rfl) ?_
  obtain ⟨z1, hg, hf⟩ := tc_bi hf
  refine tc_iVs (As := []) (rest := []) (b := q 0) X hP hD hS (mX12_isOdds hg) okX12_isOdds wl_X12_153 wi_X12_isOdds ws_X12_X12_isOdds_X12_isOdds ⟨rfl, rfl, Nat.le_of_ble_eq_true rfl, Nat.le_of_ble_eq_true rfl⟩ 12 0 rfl rfl rfl hl.1 (Nat.le_of_ble_eq_true rfl) dX12_isKept_1 (fun H locs hP hD hS => ?_)
  refine lv_if_ne (tgt := 91) hx hb dX12_isKept_4 (by decide) (fun hc => ?_) (fun hc => ?_)
  · have hf := tc_neg hc hf
    refine lv_iconst (v := (1 : Int32)) hx hb dX12_isKept_91 (by decide) ?_
    obtain rfl := Option.some.inj hf
    exact tc_rz X hP hD hS rfl dX12_isKept_92 (by decide) rfl rfl
  · have hf := tc_pos hc hf
    refine lv_aload_n hx hb dX12_isKept_7 rfl (lv_at hl 0 rfl) ?_
    obtain ⟨z2, hg, hf⟩ := tc_bi hf
    refine tc_iVs (As := []) (rest := []) (b := q 0) X hP hD hS (mX12_isTopic hg) okX12_isTopic wl_X12_157 wi_X12_isTopic ws_X12_X12_isTopic_X12_isTopic ⟨rfl, rfl, Nat.le_of_ble_eq_true rfl, Nat.le_of_ble_eq_true rfl⟩ 12 0 rfl rfl rfl hl.1 (Nat.le_of_ble_eq_true rfl) dX12_isKept_8 (fun H locs hP hD hS => ?_)
    refine lv_if_ne (tgt := 91) hx hb dX12_isKept_11 (by decide) (fun hc => ?_) (fun hc => ?_)
    · have hf := tc_neg hc hf
      refine lv_iconst (v := (1 : Int32)) hx hb dX12_isKept_91 (by decide) ?_
      obtain rfl := Option.some.inj hf
      exact tc_rz X hP hD hS rfl dX12_isKept_92 (by decide) rfl rfl
    · have hf := tc_pos hc hf
      refine lv_aload_n hx hb dX12_isKept_14 rfl (lv_at hl 0 rfl) ?_
      obtain ⟨z3, hg, hf⟩ := tc_bi hf
      refine tc_iVs (As := []) (rest := []) (b := q 0) X hP hD hS (mX12_isWorth hg) okX12_isWorth wl_X12_160 wi_X12_isWorth ws_X12_X12_isWorth_X12_isWorth ⟨rfl, rfl, Nat.le_of_ble_eq_true rfl, Nat.le_of_ble_eq_true rfl⟩ 12 0 rfl rfl rfl hl.1 (Nat.le_of_ble_eq_true rfl) dX12_isKept_15 (fun H locs hP hD hS => ?_)
      refine lv_if_ne (tgt := 91) hx hb dX12_isKept_18 (by decide) (fun hc => ?_) (fun hc => ?_)
      · have hf := tc_neg hc hf
        refine lv_iconst (v := (1 : Int32)) hx hb dX12_isKept_91 (by decide) ?_
        obtain rfl := Option.some.inj hf
        exact tc_rz X hP hD hS rfl dX12_isKept_92 (by decide) rfl rfl
      · have hf := tc_pos hc hf
        refine lv_aload_n hx hb dX12_isKept_21 rfl (lv_at hl 0 rfl) ?_
        obtain ⟨z4, hg, hf⟩ := tc_bi hf
        refine tc_iVs (As := []) (rest := []) (b := q 0) X hP hD hS (mX12_isDrift hg) okX12_isDrift wl_X12_163 wi_X12_isDrift ws_X12_X12_isDrift_X12_isDrift ⟨rfl, rfl, Nat.le_of_ble_eq_true rfl, Nat.le_of_ble_eq_true rfl⟩ 12 0 rfl rfl rfl hl.1 (Nat.le_of_ble_eq_true rfl) dX12_isKept_22 (fun H locs hP hD hS => ?_)
        refine lv_if_ne (tgt := 91) hx hb dX12_isKept_25 (by decide) (fun hc => ?_) (fun hc => ?_)
        · have hf := tc_neg hc hf
          refine lv_iconst (v := (1 : Int32)) hx hb dX12_isKept_91 (by decide) ?_
          obtain rfl := Option.some.inj hf
          exact tc_rz X hP hD hS rfl dX12_isKept_92 (by decide) rfl rfl
        · have hf := tc_pos hc hf
          refine lv_aload_n hx hb dX12_isKept_28 rfl (lv_at hl 0 rfl) ?_
          obtain ⟨z5, hg, hf⟩ := tc_bi hf
          refine tc_iVs (As := []) (rest := []) (b := q 0) X hP hD hS (mX12_isClaim hg) okX12_isClaim wl_X12_166 wi_X12_isClaim ws_X12_X12_isClaim_X12_isClaim ⟨rfl, rfl, Nat.le_of_ble_eq_true rfl, Nat.le_of_ble_eq_true rfl⟩ 12 0 rfl rfl rfl hl.1 (Nat.le_of_ble_eq_true rfl) dX12_isKept_29 (fun H locs hP hD hS => ?_)
          refine lv_if_ne (tgt := 91) hx hb dX12_isKept_32 (by decide) (fun hc => ?_) (fun hc => ?_)
          · have hf := tc_neg hc hf
            refine lv_iconst (v := (1 : Int32)) hx hb dX12_isKept_91 (by decide) ?_
            obtain rfl := Option.some.inj hf
            exact tc_rz X hP hD hS rfl dX12_isKept_92 (by decide) rfl rfl
          · have hf := tc_pos hc hf
            refine lv_aload_n hx hb dX12_isKept_35 rfl (lv_at hl 0 rfl) ?_
            obtain ⟨z6, hg, hf⟩ := tc_bi hf
            refine tc_iVs (As := []) (rest := []) (b := q 0) X hP hD hS (mX12_isAtWord hg) okX12_isAtWord wl_X12_169 wi_X12_isAtWord ws_X12_X12_isAtWord_X12_isAtWord ⟨rfl, rfl, Nat.le_of_ble_eq_true rfl, Nat.le_of_ble_eq_true rfl⟩ 12 0 rfl rfl rfl hl.1 (Nat.le_of_ble_eq_true rfl) dX12_isKept_36 (fun H locs hP hD hS => ?_)
            refine lv_if_ne (tgt := 91) hx hb dX12_isKept_39 (by decide) (fun hc => ?_) (fun hc => ?_)
            · have hf := tc_neg hc hf
              refine lv_iconst (v := (1 : Int32)) hx hb dX12_isKept_91 (by decide) ?_
              obtain rfl := Option.some.inj hf
              exact tc_rz X hP hD hS rfl dX12_isKept_92 (by decide) rfl rfl
            · have hf := tc_pos hc hf
              refine lv_aload_n hx hb dX12_isKept_42 rfl (lv_at hl 0 rfl) ?_
              obtain ⟨z7, hg, hf⟩ := tc_bi hf
              refine tc_iVs (As := []) (rest := []) (b := q 0) X hP hD hS (mX12_isProppedWord hg) okX12_isProppedWord wl_X12_172 wi_X12_isProppedWord ws_X12_X12_isProppedWord_X12_isProppedWord ⟨rfl, rfl, Nat.le_of_ble_eq_true rfl, Nat.le_of_ble_eq_true rfl⟩ 12 0 rfl rfl rfl hl.1 (Nat.le_of_ble_eq_true rfl) dX12_isKept_43 (fun H locs hP hD hS => ?_)
              refine lv_if_ne (tgt := 91) hx hb dX12_isKept_46 (by decide) (fun hc => ?_) (fun hc => ?_)
              · have hf := tc_neg hc hf
                refine lv_iconst (v := (1 : Int32)) hx hb dX12_isKept_91 (by decide) ?_
                obtain rfl := Option.some.inj hf
                exact tc_rz X hP hD hS rfl dX12_isKept_92 (by decide) rfl rfl
              · have hf := tc_pos hc hf
                refine lv_aload_n hx hb dX12_isKept_49 rfl (lv_at hl 0 rfl) ?_
                obtain ⟨z8, hg, hf⟩ := tc_bi hf
                refine tc_iVs (As := []) (rest := []) (b := q 0) X hP hD hS (mX12_isNeeds hg) okX12_isNeeds wl_X12_175 wi_X12_isNeeds ws_X12_X12_isNeeds_X12_isNeeds ⟨rfl, rfl, Nat.le_of_ble_eq_true rfl, Nat.le_of_ble_eq_true rfl⟩ 12 0 rfl rfl rfl hl.1 (Nat.le_of_ble_eq_true rfl) dX12_isKept_50 (fun H locs hP hD hS => ?_)
                refine lv_if_ne (tgt := 91) hx hb dX12_isKept_53 (by decide) (fun hc => ?_) (fun hc => ?_)
                · have hf := tc_neg hc hf
                  refine lv_iconst (v := (1 : Int32)) hx hb dX12_isKept_91 (by decide) ?_
                  obtain rfl := Option.some.inj hf
                  exact tc_rz X hP hD hS rfl dX12_isKept_92 (by decide) rfl rfl
                · have hf := tc_pos hc hf
                  refine lv_aload_n hx hb dX12_isKept_56 rfl (lv_at hl 0 rfl) ?_
                  obtain ⟨z9, hg, hf⟩ := tc_bi hf
                  refine tc_iVs (As := []) (rest := []) (b := q 0) X hP hD hS (mX12_isTalker hg) okX12_isTalker wl_X12_178 wi_X12_isTalker ws_X12_X12_isTalker_X12_isTalker ⟨rfl, rfl, Nat.le_of_ble_eq_true rfl, Nat.le_of_ble_eq_true rfl⟩ 12 0 rfl rfl rfl hl.1 (Nat.le_of_ble_eq_true rfl) dX12_isKept_57 (fun H locs hP hD hS => ?_)
                  refine lv_if_ne (tgt := 91) hx hb dX12_isKept_60 (by decide) (fun hc => ?_) (fun hc => ?_)
                  · have hf := tc_neg hc hf
                    refine lv_iconst (v := (1 : Int32)) hx hb dX12_isKept_91 (by decide) ?_
                    obtain rfl := Option.some.inj hf
                    exact tc_rz X hP hD hS rfl dX12_isKept_92 (by decide) rfl rfl
                  · have hf := tc_pos hc hf
                    refine lv_aload_n hx hb dX12_isKept_63 rfl (lv_at hl 0 rfl) ?_
                    obtain ⟨z10, hg, hf⟩ := tc_bi hf
                    refine tc_iVs (As := []) (rest := []) (b := q 0) X hP hD hS (mX12_isSeat hg) okX12_isSeat wl_X12_181 wi_X12_isSeat ws_X12_X12_isSeat_X12_isSeat ⟨rfl, rfl, Nat.le_of_ble_eq_true rfl, Nat.le_of_ble_eq_true rfl⟩ 12 0 rfl rfl rfl hl.1 (Nat.le_of_ble_eq_true rfl) dX12_isKept_64 (fun H locs hP hD hS => ?_)
                    refine lv_if_ne (tgt := 91) hx hb dX12_isKept_67 (by decide) (fun hc => ?_) (fun hc => ?_)
                    · have hf := tc_neg hc hf
                      refine lv_iconst (v := (1 : Int32)) hx hb dX12_isKept_91 (by decide) ?_
                      obtain rfl := Option.some.inj hf
                      exact tc_rz X hP hD hS rfl dX12_isKept_92 (by decide) rfl rfl
                    · have hf := tc_pos hc hf
                      refine lv_aload_n hx hb dX12_isKept_70 rfl (lv_at hl 0 rfl) ?_
                      obtain ⟨z11, hg, hf⟩ := tc_bi hf
                      refine tc_iVs (As := []) (rest := []) (b := q 0) X hP hD hS (mX12_isOn hg) okX12_isOn wl_X12_184 wi_X12_isOn ws_X12_X12_isOn_X12_isOn ⟨rfl, rfl, Nat.le_of_ble_eq_true rfl, Nat.le_of_ble_eq_true rfl⟩ 12 0 rfl rfl rfl hl.1 (Nat.le_of_ble_eq_true rfl) dX12_isKept_71 (fun H locs hP hD hS => ?_)
                      refine lv_if_ne (tgt := 91) hx hb dX12_isKept_74 (by decide) (fun hc => ?_) (fun hc => ?_)
                      · have hf := tc_neg hc hf
                        refine lv_iconst (v := (1 : Int32)) hx hb dX12_isKept_91 (by decide) ?_
                        obtain rfl := Option.some.inj hf
                        exact tc_rz X hP hD hS rfl dX12_isKept_92 (by decide) rfl rfl
                      · have hf := tc_pos hc hf
                        refine lv_aload_n hx hb dX12_isKept_77 rfl (lv_at hl 0 rfl) ?_
                        obtain ⟨z12, hg, hf⟩ := tc_bi hf
                        refine tc_iVs (As := []) (rest := []) (b := q 0) X hP hD hS (mX12_isFails hg) okX12_isFails wl_X12_187 wi_X12_isFails ws_X12_X12_isFails_X12_isFails ⟨rfl, rfl, Nat.le_of_ble_eq_true rfl, Nat.le_of_ble_eq_true rfl⟩ 12 0 rfl rfl rfl hl.1 (Nat.le_of_ble_eq_true rfl) dX12_isKept_78 (fun H locs hP hD hS => ?_)
                        refine lv_if_ne (tgt := 91) hx hb dX12_isKept_81 (by decide) (fun hc => ?_) (fun hc => ?_)
                        · have hf := tc_neg hc hf
                          refine lv_iconst (v := (1 : Int32)) hx hb dX12_isKept_91 (by decide) ?_
                          obtain rfl := Option.some.inj hf
                          exact tc_rz X hP hD hS rfl dX12_isKept_92 (by decide) rfl rfl
                        · have hf := tc_pos hc hf
                          refine lv_aload_n hx hb dX12_isKept_84 rfl (lv_at hl 0 rfl) ?_
                          obtain ⟨z13, hg, hf⟩ := tc_bi hf
                          refine tc_iVs (As := []) (rest := []) (b := q 0) X hP hD hS (mX12_isFeud hg) okX12_isFeud wl_X12_190 wi_X12_isFeud ws_X12_X12_isFeud_X12_isFeud ⟨rfl, rfl, Nat.le_of_ble_eq_true rfl, Nat.le_of_ble_eq_true rfl⟩ 12 0 rfl rfl rfl hl.1 (Nat.le_of_ble_eq_true rfl) dX12_isKept_85 (fun H locs hP hD hS => ?_)
                          refine lv_if_eq (tgt := 93) hx hb dX12_isKept_88 (by decide) (fun hc => ?_) (fun hc => ?_)
                          · have hf := tc_pos hc hf
                            refine lv_aload_n hx hb dX12_isKept_93 rfl (lv_at hl 0 rfl) ?_
                            obtain ⟨z14, hg, hf⟩ := tc_bi hf
                            refine tc_iVs (As := []) (rest := []) (b := q 0) X hP hD hS (mX12_stepWord hg) okX12_stepWord wl_X12_193 wi_X12_stepWord ws_X12_X12_stepWord_X12_stepWord ⟨rfl, rfl, Nat.le_of_ble_eq_true rfl, Nat.le_of_ble_eq_true rfl⟩ 12 0 rfl rfl rfl hl.1 (Nat.le_of_ble_eq_true rfl) dX12_isKept_94 (fun H locs hP hD hS => ?_)
                            refine lv_if_ge (tgt := 114) hx hb dX12_isKept_97 (by decide) (fun hc => ?_) (fun hc => ?_)
                            · have hf := tc_pos hc hf
                              refine lv_iconst (v := (1 : Int32)) hx hb dX12_isKept_114 (by decide) ?_
                              refine lv_goto (tgt := 119) hx hb dX12_isKept_115 (by decide) ?_
                              obtain rfl := Option.some.inj hf
                              exact tc_rz X hP hD hS rfl dX12_isKept_119 (by decide) rfl rfl
                            · have hf := tc_neg hc hf
                              refine lv_aload_n hx hb dX12_isKept_100 rfl (lv_at hl 0 rfl) ?_
                              obtain ⟨z15, hg, hf⟩ := tc_bi hf
                              refine tc_iVs (As := []) (rest := []) (b := q 0) X hP hD hS (mX12_testWord hg) okX12_testWord wl_X12_197 wi_X12_testWord ws_X12_X12_testWord_X12_testWord ⟨rfl, rfl, Nat.le_of_ble_eq_true rfl, Nat.le_of_ble_eq_true rfl⟩ 12 0 rfl rfl rfl hl.1 (Nat.le_of_ble_eq_true rfl) dX12_isKept_101 (fun H locs hP hD hS => ?_)
                              refine lv_if_ge (tgt := 114) hx hb dX12_isKept_104 (by decide) (fun hc => ?_) (fun hc => ?_)
                              · have hf := tc_pos hc hf
                                refine lv_iconst (v := (1 : Int32)) hx hb dX12_isKept_114 (by decide) ?_
                                refine lv_goto (tgt := 119) hx hb dX12_isKept_115 (by decide) ?_
                                obtain rfl := Option.some.inj hf
                                exact tc_rz X hP hD hS rfl dX12_isKept_119 (by decide) rfl rfl
                              · have hf := tc_neg hc hf
                                refine lv_aload_n hx hb dX12_isKept_107 rfl (lv_at hl 0 rfl) ?_
                                obtain ⟨z16, hg, hf⟩ := tc_bi hf
                                refine tc_iVs (As := []) (rest := []) (b := q 0) X hP hD hS (mX12_isEnd hg) okX12_isEnd wl_X12_200 wi_X12_isEnd ws_X12_X12_isEnd_X12_isEnd ⟨rfl, rfl, Nat.le_of_ble_eq_true rfl, Nat.le_of_ble_eq_true rfl⟩ 12 0 rfl rfl rfl hl.1 (Nat.le_of_ble_eq_true rfl) dX12_isKept_108 (fun H locs hP hD hS => ?_)
                                refine lv_if_eq (tgt := 118) hx hb dX12_isKept_111 (by decide) (fun hc => ?_) (fun hc => ?_)
                                · have hf := tc_pos hc hf
                                  refine lv_iconst (v := (0 : Int32)) hx hb dX12_isKept_118 (by decide) ?_
                                  obtain rfl := Option.some.inj hf
                                  exact tc_rz X hP hD hS rfl dX12_isKept_119 (by decide) rfl rfl
                                · have hf := tc_neg hc hf
                                  refine lv_iconst (v := (1 : Int32)) hx hb dX12_isKept_114 (by decide) ?_
                                  refine lv_goto (tgt := 119) hx hb dX12_isKept_115 (by decide) ?_
                                  obtain rfl := Option.some.inj hf
                                  exact tc_rz X hP hD hS rfl dX12_isKept_119 (by decide) rfl rfl
                          · have hf := tc_neg hc hf
                            refine lv_iconst (v := (1 : Int32)) hx hb dX12_isKept_91 (by decide) ?_
                            obtain rfl := Option.some.inj hf
                            exact tc_rz X hP hD hS rfl dX12_isKept_92 (by decide) rfl rfl
def fX12_isName  (S : ms_T)  : Option (Int32) :=
  if (gi S 14) = (1 : Int32) then
    if (8 : Int32) < (gi S 18) then
      some ((0 : Int32))
    else
      (fX12_isKept S).bind fun z1 =>
      if z1 = 0 then
        some ((1 : Int32))
      else
        some ((0 : Int32))
  else
    some ((0 : Int32))
abbrev rmX12_isName : Room := { frames := 3, cells := 0, slots := 0, locals := 67 }
theorem okX12_isName : tc_ok yX12_isName cX12_isName 1 (some .boolean) 0 := ⟨wc_X12_isName, wn_X12, by decide, by decide, by decide +kernel⟩
set_option maxRecDepth 20000 in
theorem mX12_isName {q : Nat → Nat}  {S : ms_T}  {z : Int32}  (hf : fX12_isName S = some z) : tc_MI l dC dI ca yX12_isName cX12_isName 1 (some .boolean) rmX12_isName [.ref (q 0)] (w12 ca q S) (w12 ca q S) (z) := by
  refine tc_metI (own := RX12) (by decide) rfl ?_ (Nat.le_of_ble_eq_true rfl)
  intro p e s m below meth c A X hP hD hS ls hl
  obtain ⟨hx, hb, hr, hml, hown, hts, hlk, hK, hA, hG⟩ := id X
  unfold fX12_isName at hf
  have hl : lv_has ls 1 [(0, .ref (q 0))] := hl
  refine lv_aload_n hx hb dX12_isName_0 rfl (lv_at hl 0 rfl) ?_
  refine va_get (D := (dC, dI)) (ci := 12) (v := .int (gi S 14)) (C := RX12) (T := TX12) (N := 49) hx hb hts i_X12 hown hK hP 0 rfl rfl 14 (by decide) (hts _ wf_X12_118) (fun _ h9 => h9) rfl dX12_isName_1 ?_
  refine lv_iconst (v := (1 : Int32)) hx hb dX12_isName_4 (by decide) ?_
  refine lv_icmp_ne (tgt := 28) hx hb dX12_isName_5 (by decide) (fun hc => ?_) (fun hc => ?_)
  · have hf := tc_neg hc hf
    refine lv_iconst (v := (0 : Int32)) hx hb dX12_isName_28 (by decide) ?_
    obtain rfl := Option.some.inj hf
    exact tc_rz X hP hD hS rfl dX12_isName_29 (by decide) rfl rfl
  · have hf := tc_pos hc hf
    refine lv_aload_n hx hb dX12_isName_8 rfl (lv_at hl 0 rfl) ?_
    refine va_get (D := (dC, dI)) (ci := 12) (v := .int (gi S 18)) (C := RX12) (T := TX12) (N := 49) hx hb hts i_X12 hown hK hP 0 rfl rfl 18 (by decide) (hts _ wf_X12_131) (fun _ h9 => h9) rfl dX12_isName_9 ?_
    refine lv_bipush (v := (8 : Int32)) hx hb dX12_isName_12 (by decide) ?_
    refine lv_icmp_gt (tgt := 28) hx hb dX12_isName_14 (by decide) (fun hc => ?_) (fun hc => ?_)
    · have hf := tc_pos hc hf
      refine lv_iconst (v := (0 : Int32)) hx hb dX12_isName_28 (by decide) ?_
      obtain rfl := Option.some.inj hf
      exact tc_rz X hP hD hS rfl dX12_isName_29 (by decide) rfl rfl
    · have hf := tc_neg hc hf
      refine lv_aload_n hx hb dX12_isName_17 rfl (lv_at hl 0 rfl) ?_
      obtain ⟨z1, hg, hf⟩ := tc_bi hf
      refine tc_iVs (As := []) (rest := []) (b := q 0) X hP hD hS (mX12_isKept hg) okX12_isKept wl_X12_203 wi_X12_isKept ws_X12_X12_isKept_X12_isKept ⟨rfl, rfl, Nat.le_of_ble_eq_true rfl, Nat.le_of_ble_eq_true rfl⟩ 12 0 rfl rfl rfl hl.1 (Nat.le_of_ble_eq_true rfl) dX12_isName_18 (fun H locs hP hD hS => ?_)
      refine lv_if_ne (tgt := 28) hx hb dX12_isName_21 (by decide) (fun hc => ?_) (fun hc => ?_)
      · have hf := tc_neg hc hf
        refine lv_iconst (v := (0 : Int32)) hx hb dX12_isName_28 (by decide) ?_
        obtain rfl := Option.some.inj hf
        exact tc_rz X hP hD hS rfl dX12_isName_29 (by decide) rfl rfl
      · have hf := tc_pos hc hf
        refine lv_iconst (v := (1 : Int32)) hx hb dX12_isName_24 (by decide) ?_
        refine lv_goto (tgt := 29) hx hb dX12_isName_25 (by decide) ?_
        obtain rfl := Option.some.inj hf
        exact tc_rz X hP hD hS rfl dX12_isName_29 (by decide) rfl rfl
def fX12_fail  (S : ms_T) (a1 : Int32) (a2 : Int32) : Option (ms_T) :=
  if (gi S 12) ≤ 0 then
    some (si (si S 12 a1) 13 a2)
  else
    some (S)
abbrev rmX12_fail : Room := { frames := 0, cells := 0, slots := 0, locals := 0 }
theorem okX12_fail : tc_ok yX12_fail cX12_fail 3 none 2 := ⟨wc_X12_fail, wn_X12, by decide, by decide, by decide +kernel⟩
set_option maxRecDepth 20000 in
theorem mX12_fail {q : Nat → Nat}  {S : ms_T} {a1 : Int32} {a2 : Int32} {z : ms_T}  (hf : fX12_fail S a1 a2 = some z) : tc_MV l dC dI ca yX12_fail cX12_fail 3 none rmX12_fail [.ref (q 0), .int (a1), .int (a2)] (w12 ca q S) (w12 ca q z) := by
  refine tc_metV (own := RX12) (by decide) rfl ?_ (Nat.le_of_ble_eq_true rfl)
  intro p e s m below meth c A X hP hD hS ls hl
  obtain ⟨hx, hb, hr, hml, hown, hts, hlk, hK, hA, hG⟩ := id X
  unfold fX12_fail at hf
  have hl : lv_has ls 3 [(0, .ref (q 0)), (1, .int (a1)), (2, .int (a2))] := hl
  refine lv_aload_n hx hb dX12_fail_0 rfl (lv_at hl 0 rfl) ?_
  refine va_get (D := (dC, dI)) (ci := 12) (v := .int (gi S 12)) (C := RX12) (T := TX12) (N := 49) hx hb hts i_X12 hown hK hP 0 rfl rfl 12 (by decide) (hts _ wf_X12_206) (fun _ h9 => h9) rfl dX12_fail_1 ?_
  refine lv_if_le (tgt := 8) hx hb dX12_fail_4 (by decide) (fun hc => ?_) (fun hc => ?_)
  · have hf := tc_pos hc hf
    refine lv_aload_n hx hb dX12_fail_8 rfl (lv_at hl 0 rfl) ?_
    refine lv_iload_n hx hb dX12_fail_9 rfl (lv_at hl 1 rfl) ?_
    refine va_put (D := (dC, dI)) (ci := 12) (v := .int (a1)) (ty := .int) (C := RX12) (T := TX12) (N := 49) hx hb hts i_X12 tyX12 tyX12_ok nmX12 hown hK hP hD hS 0 rfl rfl 12 (by decide) (hts _ wf_X12_206) (fun _ h9 => h9) rfl (tyX12_ok 12 (by decide)) rfl rfl (Nat.le_of_ble_eq_true rfl) dX12_fail_10 (fun H locs hP hD hS => ?_)
    have hP := tc_eP (pw12_0_12 ca q S a1) hP
    have hD := tc_eD (pw12_0_12 ca q S a1) hD
    refine lv_aload_n hx hb dX12_fail_13 rfl (lv_at hl 0 rfl) ?_
    refine lv_iload_n hx hb dX12_fail_14 rfl (lv_at hl 2 rfl) ?_
    refine va_put (D := (dC, dI)) (ci := 12) (v := .int (a2)) (ty := .int) (C := RX12) (T := TX12) (N := 49) hx hb hts i_X12 tyX12 tyX12_ok nmX12 hown hK hP hD hS 0 rfl rfl 13 (by decide) (hts _ wf_X12_209) (fun _ h9 => h9) rfl (tyX12_ok 13 (by decide)) rfl rfl (Nat.le_of_ble_eq_true rfl) dX12_fail_15 (fun H locs hP hD hS => ?_)
    have hP := tc_eP (pw12_0_13 ca q (si S 12 a1) a2) hP
    have hD := tc_eD (pw12_0_13 ca q (si S 12 a1) a2) hD
    obtain rfl := Option.some.inj hf
    exact tc_rv X hP hD hS rfl dX12_fail_18 rfl
  · have hf := tc_neg hc hf
    obtain rfl := Option.some.inj hf
    exact tc_rv X hP hD hS rfl dX12_fail_7 rfl
def fX12_amiss_14    (S : ms_T) (t0 : Int32) : Option (ms_T) :=
  (fX12_fail S t0 (gi S 15)).bind fun z1 =>
  some (z1)
def fX12_amiss  (S : ms_T)  : Option (ms_T) :=
  if (gi S 14) = (4 : Int32) then
    fX12_amiss_14 S (1 : Int32)
  else
    fX12_amiss_14 S (2 : Int32)
abbrev rmX12_amiss : Room := { frames := 1, cells := 0, slots := 0, locals := 22 }
theorem okX12_amiss : tc_ok yX12_amiss cX12_amiss 1 none 0 := ⟨wc_X12_amiss, wn_X12, by decide, by decide, by decide +kernel⟩
set_option maxRecDepth 20000 in
theorem tX12_amiss_14 {q : Nat → Nat}  (X : tc_X dC dI ca A RX12 cX12_amiss 1 none p s m args meth c) (z : ms_T)     : ∀ (S : ms_T) (t0 : Int32), fX12_amiss_14 S t0 = some z → ∀ (H : Heap) (locs : List Loc) (ls : Array Slot), va_P (dC, dI) classes (w12 ca q S) H → va_D A (w12 ca q S) → va_S A s.heap H locs → lv_has ls 1 [(0, .ref (q 0))] → W p l e rmX12_amiss s m args below meth c H locs 0 0 (MQ below (tc_QV dC dI ca A (w12 ca q z)) args s 0 0 A) (F0 m 14 ls [.int (t0), .ref (q 0)]) := by
  obtain ⟨hx, hb, hr, hml, hown, hts, hlk, hK, hA, hG⟩ := id X
  intro S t0 hf H locs ls hP hD hS hl
  unfold fX12_amiss_14 at hf
  refine lv_aload_n hx hb dX12_amiss_14 rfl (lv_at hl 0 rfl) ?_
  refine va_get (D := (dC, dI)) (ci := 12) (v := .int (gi S 15)) (C := RX12) (T := TX12) (N := 49) hx hb hts i_X12 hown hK hP 0 rfl rfl 15 (by decide) (hts _ wf_X12_112) (fun _ h9 => h9) rfl dX12_amiss_15 ?_
  obtain ⟨z1, hg, hf⟩ := tc_bi hf
  refine tc_vVs (As := [.int (t0), .int (gi S 15)]) (rest := []) (b := q 0) X hP hD hS (mX12_fail hg) okX12_fail wl_X12_212 wi_X12_fail ws_X12_X12_fail_X12_fail ⟨rfl, rfl, Nat.le_of_ble_eq_true rfl, Nat.le_of_ble_eq_true rfl⟩ 12 0 rfl rfl rfl hl.1 (Nat.le_of_ble_eq_true rfl) dX12_amiss_18 (fun H locs hP hD hS => ?_)
  obtain rfl := Option.some.inj hf
  exact tc_rv X hP hD hS rfl dX12_amiss_21 rfl
set_option maxRecDepth 20000 in
theorem mX12_amiss {q : Nat → Nat}  {S : ms_T}  {z : ms_T}  (hf : fX12_amiss S = some z) : tc_MV l dC dI ca yX12_amiss cX12_amiss 1 none rmX12_amiss [.ref (q 0)] (w12 ca q S) (w12 ca q z) := by
  refine tc_metV (own := RX12) (by decide) rfl ?_ (Nat.le_of_ble_eq_true rfl)
  intro p e s m below meth c A X hP hD hS ls hl
  obtain ⟨hx, hb, hr, hml, hown, hts, hlk, hK, hA, hG⟩ := id X
  unfold fX12_amiss at hf
  have hl : lv_has ls 1 [(0, .ref (q 0))] := hl
  refine lv_aload_n hx hb dX12_amiss_0 rfl (lv_at hl 0 rfl) ?_
  refine lv_aload_n hx hb dX12_amiss_1 rfl (lv_at hl 0 rfl) ?_
  refine va_get (D := (dC, dI)) (ci := 12) (v := .int (gi S 14)) (C := RX12) (T := TX12) (N := 49) hx hb hts i_X12 hown hK hP 0 rfl rfl 14 (by decide) (hts _ wf_X12_118) (fun _ h9 => h9) rfl dX12_amiss_2 ?_
  refine lv_iconst (v := (4 : Int32)) hx hb dX12_amiss_5 (by decide) ?_
  refine lv_icmp_ne (tgt := 13) hx hb dX12_amiss_6 (by decide) (fun hc => ?_) (fun hc => ?_)
  · have hf := tc_neg hc hf
    refine lv_iconst (v := (2 : Int32)) hx hb dX12_amiss_13 (by decide) ?_
    exact tX12_amiss_14 X z S (2 : Int32) hf _ _ _ hP hD hS (lv_sub hl [0] rfl)
  · have hf := tc_pos hc hf
    refine lv_iconst (v := (1 : Int32)) hx hb dX12_amiss_9 (by decide) ?_
    refine lv_goto (tgt := 14) hx hb dX12_amiss_10 (by decide) ?_
    exact tX12_amiss_14 X z S (1 : Int32) hf _ _ _ hP hD hS (lv_sub hl [0] rfl)
def fX12_must  (S : ms_T) (a1 : Int32) : Option (ms_T) :=
  if (gi S 12) ≤ 0 then
    if a1 = 0 then
      (fX12_amiss S).bind fun z1 =>
      some (z1)
    else
      (fX12_advance S).bind fun z2 =>
      some (z2)
  else
    some (S)
abbrev rmX12_must : Room := { frames := 2, cells := 0, slots := 0, locals := 42 }
theorem okX12_must : tc_ok yX12_must cX12_must 2 none 1 := ⟨wc_X12_must, wn_X12, by decide, by decide, by decide +kernel⟩
set_option maxRecDepth 20000 in
theorem mX12_must {q : Nat → Nat}  {S : ms_T} {a1 : Int32} {z : ms_T}  (hf : fX12_must S a1 = some z) : tc_MV l dC dI ca yX12_must cX12_must 2 none rmX12_must [.ref (q 0), .int (a1)] (w12 ca q S) (w12 ca q z) := by
  refine tc_metV (own := RX12) (by decide) rfl ?_ (Nat.le_of_ble_eq_true rfl)
  intro p e s m below meth c A X hP hD hS ls hl
  obtain ⟨hx, hb, hr, hml, hown, hts, hlk, hK, hA, hG⟩ := id X
  unfold fX12_must at hf
  have hl : lv_has ls 2 [(0, .ref (q 0)), (1, .int (a1))] := hl
  refine lv_aload_n hx hb dX12_must_0 rfl (lv_at hl 0 rfl) ?_
  refine va_get (D := (dC, dI)) (ci := 12) (v := .int (gi S 12)) (C := RX12) (T := TX12) (N := 49) hx hb hts i_X12 hown hK hP 0 rfl rfl 12 (by decide) (hts _ wf_X12_206) (fun _ h9 => h9) rfl dX12_must_1 ?_
  refine lv_if_le (tgt := 8) hx hb dX12_must_4 (by decide) (fun hc => ?_) (fun hc => ?_)
  · have hf := tc_pos hc hf
    refine lv_iload_n hx hb dX12_must_8 rfl (lv_at hl 1 rfl) ?_
    refine lv_if_eq (tgt := 19) hx hb dX12_must_9 (by decide) (fun hc => ?_) (fun hc => ?_)
    · have hf := tc_pos hc hf
      refine lv_aload_n hx hb dX12_must_19 rfl (lv_at hl 0 rfl) ?_
      obtain ⟨z1, hg, hf⟩ := tc_bi hf
      refine tc_vVs (As := []) (rest := []) (b := q 0) X hP hD hS (mX12_amiss hg) okX12_amiss wl_X12_219 wi_X12_amiss ws_X12_X12_amiss_X12_amiss ⟨rfl, rfl, Nat.le_of_ble_eq_true rfl, Nat.le_of_ble_eq_true rfl⟩ 12 0 rfl rfl rfl hl.1 (Nat.le_of_ble_eq_true rfl) dX12_must_20 (fun H locs hP hD hS => ?_)
      obtain rfl := Option.some.inj hf
      exact tc_rv X hP hD hS rfl dX12_must_23 rfl
    · have hf := tc_neg hc hf
      refine lv_aload_n hx hb dX12_must_12 rfl (lv_at hl 0 rfl) ?_
      obtain ⟨z2, hg, hf⟩ := tc_bi hf
      refine tc_vVs (As := []) (rest := []) (b := q 0) X hP hD hS (mX12_advance hg) okX12_advance wl_X12_216 wi_X12_advance ws_X12_X12_advance_X12_advance ⟨rfl, rfl, Nat.le_of_ble_eq_true rfl, Nat.le_of_ble_eq_true rfl⟩ 12 0 rfl rfl rfl hl.1 (Nat.le_of_ble_eq_true rfl) dX12_must_13 (fun H locs hP hD hS => ?_)
      refine lv_goto (tgt := 23) hx hb dX12_must_16 (by decide) ?_
      obtain rfl := Option.some.inj hf
      exact tc_rv X hP hD hS rfl dX12_must_23 rfl
  · have hf := tc_neg hc hf
    obtain rfl := Option.some.inj hf
    exact tc_rv X hP hD hS rfl dX12_must_7 rfl
def fX12_stands_19    (S : ms_T) (v1 : Int32) (v2 : Int32) : Option (ms_T) :=
  if (gi S 12) = 0 then
    (fX12_isIn ((gi S 17).toInt64) v1.toInt64 v2.toInt64).bind fun z1 =>
    if z1 = 0 then
      (fX12_fail S (4 : Int32) (gi S 15)).bind fun z2 =>
      some (z2)
    else
      some (S)
  else
    some (S)
def fX12_stands  (S : ms_T) (a1 : Int32) (a2 : Int32) : Option (ms_T) :=
  if (gi S 12) = 0 then
    if (gi S 14) = (2 : Int32) then
      fX12_stands_19 S a1 a2
    else
      (fX12_amiss S).bind fun z3 =>
      fX12_stands_19 z3 a1 a2
  else
    fX12_stands_19 S a1 a2
abbrev rmX12_stands : Room := { frames := 2, cells := 0, slots := 0, locals := 42 }
theorem okX12_stands : tc_ok yX12_stands cX12_stands 3 none 2 := ⟨wc_X12_stands, wn_X12, by decide, by decide, by decide +kernel⟩
set_option maxRecDepth 20000 in
theorem tX12_stands_19 {q : Nat → Nat}  (X : tc_X dC dI ca A RX12 cX12_stands 3 none p s m args meth c) (z : ms_T)     : ∀ (S : ms_T) (v1 : Int32) (v2 : Int32), fX12_stands_19 S v1 v2 = some z → ∀ (H : Heap) (locs : List Loc) (ls : Array Slot), va_P (dC, dI) classes (w12 ca q S) H → va_D A (w12 ca q S) → va_S A s.heap H locs → lv_has ls 3 [(0, .ref (q 0)), (1, .int (v1)), (2, .int (v2))] → W p l e rmX12_stands s m args below meth c H locs 0 0 (MQ below (tc_QV dC dI ca A (w12 ca q z)) args s 0 0 A) (F0 m 19 ls []) := by
  obtain ⟨hx, hb, hr, hml, hown, hts, hlk, hK, hA, hG⟩ := id X
  intro S v1 v2 hf H locs ls hP hD hS hl
  unfold fX12_stands_19 at hf
  refine lv_aload_n hx hb dX12_stands_19 rfl (lv_at hl 0 rfl) ?_
  refine va_get (D := (dC, dI)) (ci := 12) (v := .int (gi S 12)) (C := RX12) (T := TX12) (N := 49) hx hb hts i_X12 hown hK hP 0 rfl rfl 12 (by decide) (hts _ wf_X12_206) (fun _ h9 => h9) rfl dX12_stands_20 ?_
  refine lv_if_ne (tgt := 50) hx hb dX12_stands_23 (by decide) (fun hc => ?_) (fun hc => ?_)
  · have hf := tc_neg hc hf
    obtain rfl := Option.some.inj hf
    exact tc_rv X hP hD hS rfl dX12_stands_50 rfl
  · have hf := tc_pos hc hf
    refine lv_aload_n hx hb dX12_stands_26 rfl (lv_at hl 0 rfl) ?_
    refine va_get (D := (dC, dI)) (ci := 12) (v := .int (gi S 17)) (C := RX12) (T := TX12) (N := 49) hx hb hts i_X12 hown hK hP 0 rfl rfl 17 (by decide) (hts _ wf_X12_137) (fun _ h9 => h9) rfl dX12_stands_27 ?_
    refine lv_i2l (v := (gi S 17).toInt64) hx hb dX12_stands_30 rfl ?_
    refine lv_iload_n hx hb dX12_stands_31 rfl (lv_at hl 1 rfl) ?_
    refine lv_i2l (v := v1.toInt64) hx hb dX12_stands_32 rfl ?_
    refine lv_iload_n hx hb dX12_stands_33 rfl (lv_at hl 2 rfl) ?_
    refine lv_i2l (v := v2.toInt64) hx hb dX12_stands_34 rfl ?_
    obtain ⟨z1, hg, hf⟩ := tc_bi hf
    refine tc_iS0 (As := [.long ((gi S 17).toInt64), .long (v1.toInt64), .long (v2.toInt64)]) (rest := []) X hP hD hS (mX12_isIn hg) okX12_isIn wl_X12_98 wt_X12_isIn ⟨rfl, rfl, Nat.le_of_ble_eq_true rfl, Nat.le_of_ble_eq_true rfl⟩ rfl hl.1 (Nat.le_of_ble_eq_true rfl) dX12_stands_35 (fun H locs hP hD hS => ?_)
    refine lv_if_ne (tgt := 50) hx hb dX12_stands_38 (by decide) (fun hc => ?_) (fun hc => ?_)
    · have hf := tc_neg hc hf
      obtain rfl := Option.some.inj hf
      exact tc_rv X hP hD hS rfl dX12_stands_50 rfl
    · have hf := tc_pos hc hf
      refine lv_aload_n hx hb dX12_stands_41 rfl (lv_at hl 0 rfl) ?_
      refine lv_iconst (v := (4 : Int32)) hx hb dX12_stands_42 (by decide) ?_
      refine lv_aload_n hx hb dX12_stands_43 rfl (lv_at hl 0 rfl) ?_
      refine va_get (D := (dC, dI)) (ci := 12) (v := .int (gi S 15)) (C := RX12) (T := TX12) (N := 49) hx hb hts i_X12 hown hK hP 0 rfl rfl 15 (by decide) (hts _ wf_X12_112) (fun _ h9 => h9) rfl dX12_stands_44 ?_
      obtain ⟨z2, hg, hf⟩ := tc_bi hf
      refine tc_vVs (As := [.int ((4 : Int32)), .int (gi S 15)]) (rest := []) (b := q 0) X hP hD hS (mX12_fail hg) okX12_fail wl_X12_212 wi_X12_fail ws_X12_X12_fail_X12_fail ⟨rfl, rfl, Nat.le_of_ble_eq_true rfl, Nat.le_of_ble_eq_true rfl⟩ 12 0 rfl rfl rfl hl.1 (Nat.le_of_ble_eq_true rfl) dX12_stands_47 (fun H locs hP hD hS => ?_)
      obtain rfl := Option.some.inj hf
      exact tc_rv X hP hD hS rfl dX12_stands_50 rfl
set_option maxRecDepth 20000 in
theorem mX12_stands {q : Nat → Nat}  {S : ms_T} {a1 : Int32} {a2 : Int32} {z : ms_T}  (hf : fX12_stands S a1 a2 = some z) : tc_MV l dC dI ca yX12_stands cX12_stands 3 none rmX12_stands [.ref (q 0), .int (a1), .int (a2)] (w12 ca q S) (w12 ca q z) := by
  refine tc_metV (own := RX12) (by decide) rfl ?_ (Nat.le_of_ble_eq_true rfl)
  intro p e s m below meth c A X hP hD hS ls hl
  obtain ⟨hx, hb, hr, hml, hown, hts, hlk, hK, hA, hG⟩ := id X
  unfold fX12_stands at hf
  have hl : lv_has ls 3 [(0, .ref (q 0)), (1, .int (a1)), (2, .int (a2))] := hl
  refine lv_aload_n hx hb dX12_stands_0 rfl (lv_at hl 0 rfl) ?_
  refine va_get (D := (dC, dI)) (ci := 12) (v := .int (gi S 12)) (C := RX12) (T := TX12) (N := 49) hx hb hts i_X12 hown hK hP 0 rfl rfl 12 (by decide) (hts _ wf_X12_206) (fun _ h9 => h9) rfl dX12_stands_1 ?_
  refine lv_if_ne (tgt := 19) hx hb dX12_stands_4 (by decide) (fun hc => ?_) (fun hc => ?_)
  · have hf := tc_neg hc hf
    exact tX12_stands_19 X z S a1 a2 hf _ _ _ hP hD hS (lv_sub hl [0, 1, 2] rfl)
  · have hf := tc_pos hc hf
    refine lv_aload_n hx hb dX12_stands_7 rfl (lv_at hl 0 rfl) ?_
    refine va_get (D := (dC, dI)) (ci := 12) (v := .int (gi S 14)) (C := RX12) (T := TX12) (N := 49) hx hb hts i_X12 hown hK hP 0 rfl rfl 14 (by decide) (hts _ wf_X12_118) (fun _ h9 => h9) rfl dX12_stands_8 ?_
    refine lv_iconst (v := (2 : Int32)) hx hb dX12_stands_11 (by decide) ?_
    refine lv_icmp_eq (tgt := 19) hx hb dX12_stands_12 (by decide) (fun hc => ?_) (fun hc => ?_)
    · have hf := tc_pos hc hf
      exact tX12_stands_19 X z S a1 a2 hf _ _ _ hP hD hS (lv_sub hl [0, 1, 2] rfl)
    · have hf := tc_neg hc hf
      refine lv_aload_n hx hb dX12_stands_15 rfl (lv_at hl 0 rfl) ?_
      obtain ⟨z3, hg, hf⟩ := tc_bi hf
      refine tc_vVs (As := []) (rest := []) (b := q 0) X hP hD hS (mX12_amiss hg) okX12_amiss wl_X12_219 wi_X12_amiss ws_X12_X12_amiss_X12_amiss ⟨rfl, rfl, Nat.le_of_ble_eq_true rfl, Nat.le_of_ble_eq_true rfl⟩ 12 0 rfl rfl rfl hl.1 (Nat.le_of_ble_eq_true rfl) dX12_stands_16 (fun H locs hP hD hS => ?_)
      exact tX12_stands_19 X z z3 a1 a2 hf _ _ _ hP hD hS (lv_sub hl [0, 1, 2] rfl)
def fX12_count  (S : ms_T) (a1 : Int32) (a2 : Int32) : Option (Int32 × ms_T) :=
  (fX12_stands S a1 a2).bind fun z1 =>
  if (gi z1 12) ≤ 0 then
    (fX12_advance z1).bind fun z2 =>
    some (gi z1 17, z2)
  else
    some ((0 : Int32), z1)
abbrev rmX12_count : Room := { frames := 3, cells := 0, slots := 0, locals := 64 }
theorem okX12_count : tc_ok yX12_count cX12_count 4 (some .int) 2 := ⟨wc_X12_count, wn_X12, by decide, by decide, by decide +kernel⟩
set_option maxRecDepth 20000 in
theorem mX12_count {q : Nat → Nat}  {S : ms_T} {a1 : Int32} {a2 : Int32} {z : Int32 × ms_T}  (hf : fX12_count S a1 a2 = some z) : tc_MI l dC dI ca yX12_count cX12_count 4 (some .int) rmX12_count [.ref (q 0), .int (a1), .int (a2)] (w12 ca q S) (w12 ca q z.2) (z.1) := by
  refine tc_metI (own := RX12) (by decide) rfl ?_ (Nat.le_of_ble_eq_true rfl)
  intro p e s m below meth c A X hP hD hS ls hl
  obtain ⟨hx, hb, hr, hml, hown, hts, hlk, hK, hA, hG⟩ := id X
  unfold fX12_count at hf
  have hl : lv_has ls 4 [(0, .ref (q 0)), (1, .int (a1)), (2, .int (a2))] := hl
  refine lv_aload_n hx hb dX12_count_0 rfl (lv_at hl 0 rfl) ?_
  refine lv_iload_n hx hb dX12_count_1 rfl (lv_at hl 1 rfl) ?_
  refine lv_iload_n hx hb dX12_count_2 rfl (lv_at hl 2 rfl) ?_
  obtain ⟨z1, hg, hf⟩ := tc_bi hf
  refine tc_vVs (As := [.int (a1), .int (a2)]) (rest := []) (b := q 0) X hP hD hS (mX12_stands hg) okX12_stands wl_X12_222 wi_X12_stands ws_X12_X12_stands_X12_stands ⟨rfl, rfl, Nat.le_of_ble_eq_true rfl, Nat.le_of_ble_eq_true rfl⟩ 12 0 rfl rfl rfl hl.1 (Nat.le_of_ble_eq_true rfl) dX12_count_3 (fun H locs hP hD hS => ?_)
  refine lv_aload_n hx hb dX12_count_6 rfl (lv_at hl 0 rfl) ?_
  refine va_get (D := (dC, dI)) (ci := 12) (v := .int (gi z1 12)) (C := RX12) (T := TX12) (N := 49) hx hb hts i_X12 hown hK hP 0 rfl rfl 12 (by decide) (hts _ wf_X12_206) (fun _ h9 => h9) rfl dX12_count_7 ?_
  refine lv_if_le (tgt := 15) hx hb dX12_count_10 (by decide) (fun hc => ?_) (fun hc => ?_)
  · have hf := tc_pos hc hf
    refine lv_aload_n hx hb dX12_count_15 rfl (lv_at hl 0 rfl) ?_
    refine va_get (D := (dC, dI)) (ci := 12) (v := .int (gi z1 17)) (C := RX12) (T := TX12) (N := 49) hx hb hts i_X12 hown hK hP 0 rfl rfl 17 (by decide) (hts _ wf_X12_137) (fun _ h9 => h9) rfl dX12_count_16 ?_
    refine lv_istore_n (lv' := [(3, .int (gi z1 17)), (0, .ref (q 0)), (1, .int (a1)), (2, .int (a2))]) hx hb dX12_count_19 rfl hl (by decide) rfl (fun ls hl => ?_)
    refine lv_aload_n hx hb dX12_count_20 rfl (lv_at hl 1 rfl) ?_
    obtain ⟨z2, hg, hf⟩ := tc_bi hf
    refine tc_vVs (As := []) (rest := []) (b := q 0) X hP hD hS (mX12_advance hg) okX12_advance wl_X12_216 wi_X12_advance ws_X12_X12_advance_X12_advance ⟨rfl, rfl, Nat.le_of_ble_eq_true rfl, Nat.le_of_ble_eq_true rfl⟩ 12 0 rfl rfl rfl hl.1 (Nat.le_of_ble_eq_true rfl) dX12_count_21 (fun H locs hP hD hS => ?_)
    refine lv_iload_n hx hb dX12_count_24 rfl (lv_at hl 0 rfl) ?_
    obtain rfl := Option.some.inj hf
    exact tc_ri X hP hD hS rfl dX12_count_25 rfl rfl
  · have hf := tc_neg hc hf
    refine lv_iconst (v := (0 : Int32)) hx hb dX12_count_13 (by decide) ?_
    obtain rfl := Option.some.inj hf
    exact tc_ri X hP hD hS rfl dX12_count_14 rfl rfl
def fX12_behindWord  (S : ms_T) (a1 : Int32) (a2 : Int32) (a3 : Int32) : Option (Int32 × ms_T) :=
  (fX12_must S a1).bind fun z1 =>
  (fX12_count z1 a2 a3).bind fun z2 =>
  some (z2.1, z2.2)
abbrev rmX12_behindWord : Room := { frames := 4, cells := 0, slots := 0, locals := 87 }
theorem okX12_behindWord : tc_ok yX12_behindWord cX12_behindWord 4 (some .int) 3 := ⟨wc_X12_behindWord, wn_X12, by decide, by decide, by decide +kernel⟩
set_option maxRecDepth 20000 in
theorem mX12_behindWord {q : Nat → Nat}  {S : ms_T} {a1 : Int32} {a2 : Int32} {a3 : Int32} {z : Int32 × ms_T}  (hf : fX12_behindWord S a1 a2 a3 = some z) : tc_MI l dC dI ca yX12_behindWord cX12_behindWord 4 (some .int) rmX12_behindWord [.ref (q 0), .int (a1), .int (a2), .int (a3)] (w12 ca q S) (w12 ca q z.2) (z.1) := by
  refine tc_metI (own := RX12) (by decide) rfl ?_ (Nat.le_of_ble_eq_true rfl)
  intro p e s m below meth c A X hP hD hS ls hl
  obtain ⟨hx, hb, hr, hml, hown, hts, hlk, hK, hA, hG⟩ := id X
  unfold fX12_behindWord at hf
  have hl : lv_has ls 4 [(0, .ref (q 0)), (1, .int (a1)), (2, .int (a2)), (3, .int (a3))] := hl
  refine lv_aload_n hx hb dX12_behindWord_0 rfl (lv_at hl 0 rfl) ?_
  refine lv_iload_n hx hb dX12_behindWord_1 rfl (lv_at hl 1 rfl) ?_
  obtain ⟨z1, hg, hf⟩ := tc_bi hf
  refine tc_vVs (As := [.int (a1)]) (rest := []) (b := q 0) X hP hD hS (mX12_must hg) okX12_must wl_X12_225 wi_X12_must ws_X12_X12_must_X12_must ⟨rfl, rfl, Nat.le_of_ble_eq_true rfl, Nat.le_of_ble_eq_true rfl⟩ 12 0 rfl rfl rfl hl.1 (Nat.le_of_ble_eq_true rfl) dX12_behindWord_2 (fun H locs hP hD hS => ?_)
  refine lv_aload_n hx hb dX12_behindWord_5 rfl (lv_at hl 0 rfl) ?_
  refine lv_iload_n hx hb dX12_behindWord_6 rfl (lv_at hl 2 rfl) ?_
  refine lv_iload_n hx hb dX12_behindWord_7 rfl (lv_at hl 3 rfl) ?_
  obtain ⟨z2, hg, hf⟩ := tc_bi hf
  refine tc_iVs (As := [.int (a2), .int (a3)]) (rest := []) (b := q 0) X hP hD hS (mX12_count hg) okX12_count wl_X12_229 wi_X12_count ws_X12_X12_count_X12_count ⟨rfl, rfl, Nat.le_of_ble_eq_true rfl, Nat.le_of_ble_eq_true rfl⟩ 12 0 rfl rfl rfl hl.1 (Nat.le_of_ble_eq_true rfl) dX12_behindWord_8 (fun H locs hP hD hS => ?_)
  obtain rfl := Option.some.inj hf
  exact tc_ri X hP hD hS rfl dX12_behindWord_11 rfl rfl
def fX12_perhaps  (S : ms_T) (a1 : Int32) : Option (Int32 × ms_T) :=
  if 0 < (gi S 12) then
    some ((0 : Int32), S)
  else
    if a1 = 0 then
      some ((0 : Int32), S)
    else
      (fX12_advance S).bind fun z1 =>
      some ((1 : Int32), z1)
abbrev rmX12_perhaps : Room := { frames := 2, cells := 0, slots := 0, locals := 42 }
theorem okX12_perhaps : tc_ok yX12_perhaps cX12_perhaps 2 (some .boolean) 1 := ⟨wc_X12_perhaps, wn_X12, by decide, by decide, by decide +kernel⟩
set_option maxRecDepth 20000 in
theorem mX12_perhaps {q : Nat → Nat}  {S : ms_T} {a1 : Int32} {z : Int32 × ms_T}  (hf : fX12_perhaps S a1 = some z) : tc_MI l dC dI ca yX12_perhaps cX12_perhaps 2 (some .boolean) rmX12_perhaps [.ref (q 0), .int (a1)] (w12 ca q S) (w12 ca q z.2) (z.1) := by
  refine tc_metI (own := RX12) (by decide) rfl ?_ (Nat.le_of_ble_eq_true rfl)
  intro p e s m below meth c A X hP hD hS ls hl
  obtain ⟨hx, hb, hr, hml, hown, hts, hlk, hK, hA, hG⟩ := id X
  unfold fX12_perhaps at hf
  have hl : lv_has ls 2 [(0, .ref (q 0)), (1, .int (a1))] := hl
  refine lv_aload_n hx hb dX12_perhaps_0 rfl (lv_at hl 0 rfl) ?_
  refine va_get (D := (dC, dI)) (ci := 12) (v := .int (gi S 12)) (C := RX12) (T := TX12) (N := 49) hx hb hts i_X12 hown hK hP 0 rfl rfl 12 (by decide) (hts _ wf_X12_206) (fun _ h9 => h9) rfl dX12_perhaps_1 ?_
  refine lv_if_gt (tgt := 11) hx hb dX12_perhaps_4 (by decide) (fun hc => ?_) (fun hc => ?_)
  · have hf := tc_pos hc hf
    refine lv_iconst (v := (0 : Int32)) hx hb dX12_perhaps_11 (by decide) ?_
    obtain rfl := Option.some.inj hf
    exact tc_rz X hP hD hS rfl dX12_perhaps_12 (by decide) rfl rfl
  · have hf := tc_neg hc hf
    refine lv_iload_n hx hb dX12_perhaps_7 rfl (lv_at hl 1 rfl) ?_
    refine lv_if_ne (tgt := 13) hx hb dX12_perhaps_8 (by decide) (fun hc => ?_) (fun hc => ?_)
    · have hf := tc_neg hc hf
      refine lv_aload_n hx hb dX12_perhaps_13 rfl (lv_at hl 0 rfl) ?_
      obtain ⟨z1, hg, hf⟩ := tc_bi hf
      refine tc_vVs (As := []) (rest := []) (b := q 0) X hP hD hS (mX12_advance hg) okX12_advance wl_X12_216 wi_X12_advance ws_X12_X12_advance_X12_advance ⟨rfl, rfl, Nat.le_of_ble_eq_true rfl, Nat.le_of_ble_eq_true rfl⟩ 12 0 rfl rfl rfl hl.1 (Nat.le_of_ble_eq_true rfl) dX12_perhaps_14 (fun H locs hP hD hS => ?_)
      refine lv_iconst (v := (1 : Int32)) hx hb dX12_perhaps_17 (by decide) ?_
      obtain rfl := Option.some.inj hf
      exact tc_rz X hP hD hS rfl dX12_perhaps_18 (by decide) rfl rfl
    · have hf := tc_pos hc hf
      refine lv_iconst (v := (0 : Int32)) hx hb dX12_perhaps_11 (by decide) ?_
      obtain rfl := Option.some.inj hf
      exact tc_rz X hP hD hS rfl dX12_perhaps_12 (by decide) rfl rfl
def fX12_lay_2    : Nat → ms_T → Int32 → Int32 → Option (ms_T)
  | 0, _, _, _ => none
  | n + 1, S, v1, v2 =>
    if v2 < 0 then
      some (S)
    else
      if inb (gi S 8) 900 = true then
        fX12_lay_2 n (si (sa S 4 (gi S 8) (vp_nar .byte ((v1 >>> (((8 : Int32) * v2) &&& 31)).toInt8.toInt32))) 8 ((gi (sa S 4 (gi S 8) (vp_nar .byte ((v1 >>> (((8 : Int32) * v2) &&& 31)).toInt8.toInt32))) 8) + (1 : Int32))) v1 (v2 + (-1 : Int32))
      else none
def fX12_lay  (S : ms_T) (a1 : Int32) : Option (ms_T) :=
  fX12_lay_2 FU S a1 (3 : Int32)
abbrev rmX12_lay : Room := { frames := 0, cells := 0, slots := 0, locals := 0 }
theorem okX12_lay : tc_ok yX12_lay cX12_lay 3 none 1 := ⟨wc_X12_lay, wn_X12, by decide, by decide, by decide +kernel⟩
set_option maxRecDepth 20000 in
theorem tX12_lay_2 {q : Nat → Nat}  (X : tc_X dC dI ca A RX12 cX12_lay 3 none p s m args meth c) (z : ms_T)     : ∀ n : Nat, ∀ (S : ms_T) (v1 : Int32) (v2 : Int32), fX12_lay_2 n S v1 v2 = some z → ∀ (H : Heap) (locs : List Loc) (ls : Array Slot), va_P (dC, dI) classes (w12 ca q S) H → va_D A (w12 ca q S) → va_S A s.heap H locs → lv_has ls 3 [(0, .ref (q 0)), (1, .int (v1)), (2, .int (v2))] → W p l e rmX12_lay s m args below meth c H locs 0 0 (MQ below (tc_QV dC dI ca A (w12 ca q z)) args s 0 0 A) (F0 m 2 ls []) := by
  obtain ⟨hx, hb, hr, hml, hown, hts, hlk, hK, hA, hG⟩ := id X
  intro n
  induction n with
  | zero => intro S v1 v2 hf; exact absurd (show none = some z from hf) (fun h => by cases h)
  | succ n ih =>
    intro S v1 v2 hf H locs ls hP hD hS hl
    rw [fX12_lay_2] at hf
    refine lv_iload_n hx hb dX12_lay_2 rfl (lv_at hl 2 rfl) ?_
    refine lv_if_lt (tgt := 38) hx hb dX12_lay_3 (by decide) (fun hc => ?_) (fun hc => ?_)
    · have hf := tc_pos hc hf
      obtain rfl := Option.some.inj hf
      exact tc_rv X hP hD hS rfl dX12_lay_38 rfl
    · have hf := tc_neg hc hf
      refine lv_aload_n hx hb dX12_lay_6 rfl (lv_at hl 0 rfl) ?_
      refine va_get (D := (dC, dI)) (ci := 12) (v := .ref (q 4)) (C := RX12) (T := TX12) (N := 49) hx hb hts i_X12 hown hK hP 0 rfl rfl 7 (by decide) (hts _ wf_X12_24) (fun _ h9 => h9) rfl dX12_lay_7 ?_
      refine lv_aload_n hx hb dX12_lay_10 rfl (lv_at hl 0 rfl) ?_
      refine va_get (D := (dC, dI)) (ci := 12) (v := .int (gi S 8)) (C := RX12) (T := TX12) (N := 49) hx hb hts i_X12 hown hK hP 0 rfl rfl 8 (by decide) (hts _ wf_X12_232) (fun _ h9 => h9) rfl dX12_lay_11 ?_
      refine lv_iload_n hx hb dX12_lay_14 rfl (lv_at hl 1 rfl) ?_
      refine lv_bipush (v := (8 : Int32)) hx hb dX12_lay_15 (by decide) ?_
      refine lv_iload_n hx hb dX12_lay_17 rfl (lv_at hl 2 rfl) ?_
      refine lv_imul hx hb dX12_lay_18 ?_
      refine lv_ishr hx hb dX12_lay_19 ?_
      refine lv_i2b (v := (v1 >>> (((8 : Int32) * v2) &&& 31)).toInt8.toInt32) hx hb dX12_lay_20 rfl ?_
      obtain ⟨hi1, hf⟩ := tc_in hf
      refine va_bast hx hb hK hP hD hS 4 0 rfl rfl hi1 dX12_lay_21 (fun H locs hP hD hS => ?_)
      have hP := tc_eP (aw12_0_4 ca q S (gi S 8) (vp_nar .byte ((v1 >>> (((8 : Int32) * v2) &&& 31)).toInt8.toInt32))) hP
      have hD := tc_eD (aw12_0_4 ca q S (gi S 8) (vp_nar .byte ((v1 >>> (((8 : Int32) * v2) &&& 31)).toInt8.toInt32))) hD
      refine lv_aload_n hx hb dX12_lay_22 rfl (lv_at hl 0 rfl) ?_
      refine lv_dup hx hb dX12_lay_23 rfl ?_
      refine va_get (D := (dC, dI)) (ci := 12) (v := .int (gi (sa S 4 (gi S 8) (vp_nar .byte ((v1 >>> (((8 : Int32) * v2) &&& 31)).toInt8.toInt32))) 8)) (C := RX12) (T := TX12) (N := 49) hx hb hts i_X12 hown hK hP 0 rfl rfl 8 (by decide) (hts _ wf_X12_232) (fun _ h9 => h9) rfl dX12_lay_24 ?_
      refine lv_iconst (v := (1 : Int32)) hx hb dX12_lay_27 (by decide) ?_
      refine lv_iadd hx hb dX12_lay_28 ?_
      refine va_put (D := (dC, dI)) (ci := 12) (v := .int ((gi (sa S 4 (gi S 8) (vp_nar .byte ((v1 >>> (((8 : Int32) * v2) &&& 31)).toInt8.toInt32))) 8) + (1 : Int32))) (ty := .int) (C := RX12) (T := TX12) (N := 49) hx hb hts i_X12 tyX12 tyX12_ok nmX12 hown hK hP hD hS 0 rfl rfl 8 (by decide) (hts _ wf_X12_232) (fun _ h9 => h9) rfl (tyX12_ok 8 (by decide)) rfl rfl (Nat.le_of_ble_eq_true rfl) dX12_lay_29 (fun H locs hP hD hS => ?_)
      have hP := tc_eP (pw12_0_8 ca q (sa S 4 (gi S 8) (vp_nar .byte ((v1 >>> (((8 : Int32) * v2) &&& 31)).toInt8.toInt32))) ((gi (sa S 4 (gi S 8) (vp_nar .byte ((v1 >>> (((8 : Int32) * v2) &&& 31)).toInt8.toInt32))) 8) + (1 : Int32))) hP
      have hD := tc_eD (pw12_0_8 ca q (sa S 4 (gi S 8) (vp_nar .byte ((v1 >>> (((8 : Int32) * v2) &&& 31)).toInt8.toInt32))) ((gi (sa S 4 (gi S 8) (vp_nar .byte ((v1 >>> (((8 : Int32) * v2) &&& 31)).toInt8.toInt32))) 8) + (1 : Int32))) hD
      refine lv_iinc (v := v2 + (-1 : Int32)) (lv' := [(2, .int (v2 + (-1 : Int32))), (0, .ref (q 0)), (1, .int (v1))]) hx hb dX12_lay_32 hl (k := 2) rfl rfl (by decide) rfl (fun ls hl => ?_)
      refine lv_goto (tgt := 2) hx hb dX12_lay_35 (by decide) ?_
      exact ih (si (sa S 4 (gi S 8) (vp_nar .byte ((v1 >>> (((8 : Int32) * v2) &&& 31)).toInt8.toInt32))) 8 ((gi (sa S 4 (gi S 8) (vp_nar .byte ((v1 >>> (((8 : Int32) * v2) &&& 31)).toInt8.toInt32))) 8) + (1 : Int32))) v1 (v2 + (-1 : Int32)) hf _ _ _ hP hD hS (lv_sub hl [1, 2, 0] rfl)
set_option maxRecDepth 20000 in
theorem mX12_lay {q : Nat → Nat}  {S : ms_T} {a1 : Int32} {z : ms_T}  (hf : fX12_lay S a1 = some z) : tc_MV l dC dI ca yX12_lay cX12_lay 3 none rmX12_lay [.ref (q 0), .int (a1)] (w12 ca q S) (w12 ca q z) := by
  refine tc_metV (own := RX12) (by decide) rfl ?_ (Nat.le_of_ble_eq_true rfl)
  intro p e s m below meth c A X hP hD hS ls hl
  obtain ⟨hx, hb, hr, hml, hown, hts, hlk, hK, hA, hG⟩ := id X
  unfold fX12_lay at hf
  have hl : lv_has ls 3 [(0, .ref (q 0)), (1, .int (a1))] := hl
  refine lv_iconst (v := (3 : Int32)) hx hb dX12_lay_0 (by decide) ?_
  refine lv_istore_n (lv' := [(2, .int ((3 : Int32))), (0, .ref (q 0)), (1, .int (a1))]) hx hb dX12_lay_1 rfl hl (by decide) rfl (fun ls hl => ?_)
  exact tX12_lay_2 X z FU S a1 (3 : Int32) hf _ _ _ hP hD hS (lv_sub hl [1, 2, 0] rfl)
def fX12_feed  (S : ms_T) (a1 : Int32) (a2 : Int32) (a3 : Int32) (a4 : Int32) (a5 : Int32) : Option (Int32 × ms_T) :=
  if ((gi (si S 1 (0 : Int32)) 8) + (20 : Int32)) ≤ (900 : Int32) then
    (fX12_lay (si S 1 (0 : Int32)) a1).bind fun z1 =>
    (fX12_lay z1 a2).bind fun z2 =>
    (fX12_lay z2 a3).bind fun z3 =>
    (fX12_lay z3 a4).bind fun z4 =>
    (fX12_lay z4 a5).bind fun z5 =>
    some (gi z5 8, z5)
  else
    some ((-1 : Int32), si S 1 (0 : Int32))
abbrev rmX12_feed : Room := { frames := 1, cells := 0, slots := 0, locals := 22 }
theorem okX12_feed : tc_ok yX12_feed cX12_feed 6 (some .int) 5 := ⟨wc_X12_feed, wn_X12, by decide, by decide, by decide +kernel⟩
set_option maxRecDepth 20000 in
theorem mX12_feed {q : Nat → Nat}  {S : ms_T} {a1 : Int32} {a2 : Int32} {a3 : Int32} {a4 : Int32} {a5 : Int32} {z : Int32 × ms_T}  (hf : fX12_feed S a1 a2 a3 a4 a5 = some z) : tc_MI l dC dI ca yX12_feed cX12_feed 6 (some .int) rmX12_feed [.ref (q 0), .int (a1), .int (a2), .int (a3), .int (a4), .int (a5)] (w12 ca q S) (w12 ca q z.2) (z.1) := by
  refine tc_metI (own := RX12) (by decide) rfl ?_ (Nat.le_of_ble_eq_true rfl)
  intro p e s m below meth c A X hP hD hS ls hl
  obtain ⟨hx, hb, hr, hml, hown, hts, hlk, hK, hA, hG⟩ := id X
  unfold fX12_feed at hf
  have hl : lv_has ls 6 [(0, .ref (q 0)), (1, .int (a1)), (2, .int (a2)), (3, .int (a3)), (4, .int (a4)), (5, .int (a5))] := hl
  refine lv_aload_n hx hb dX12_feed_0 rfl (lv_at hl 0 rfl) ?_
  refine lv_iconst (v := (0 : Int32)) hx hb dX12_feed_1 (by decide) ?_
  refine va_put (D := (dC, dI)) (ci := 12) (v := .int ((0 : Int32))) (ty := .int) (C := RX12) (T := TX12) (N := 49) hx hb hts i_X12 tyX12 tyX12_ok nmX12 hown hK hP hD hS 0 rfl rfl 1 (by decide) (hts _ wf_X12_63) (fun _ h9 => h9) rfl (tyX12_ok 1 (by decide)) rfl rfl (Nat.le_of_ble_eq_true rfl) dX12_feed_2 (fun H locs hP hD hS => ?_)
  have hP := tc_eP (pw12_0_1 ca q S (0 : Int32)) hP
  have hD := tc_eD (pw12_0_1 ca q S (0 : Int32)) hD
  refine lv_aload_n hx hb dX12_feed_5 rfl (lv_at hl 0 rfl) ?_
  refine va_get (D := (dC, dI)) (ci := 12) (v := .int (gi (si S 1 (0 : Int32)) 8)) (C := RX12) (T := TX12) (N := 49) hx hb hts i_X12 hown hK hP 0 rfl rfl 8 (by decide) (hts _ wf_X12_232) (fun _ h9 => h9) rfl dX12_feed_6 ?_
  refine lv_bipush (v := (20 : Int32)) hx hb dX12_feed_9 (by decide) ?_
  refine lv_iadd hx hb dX12_feed_11 ?_
  refine lv_sipush (v := (900 : Int32)) hx hb dX12_feed_12 (by decide) ?_
  refine lv_icmp_le (tgt := 20) hx hb dX12_feed_15 (by decide) (fun hc => ?_) (fun hc => ?_)
  · have hf := tc_pos hc hf
    refine lv_aload_n hx hb dX12_feed_20 rfl (lv_at hl 0 rfl) ?_
    refine lv_iload_n hx hb dX12_feed_21 rfl (lv_at hl 1 rfl) ?_
    obtain ⟨z1, hg, hf⟩ := tc_bi hf
    refine tc_vVs (As := [.int (a1)]) (rest := []) (b := q 0) X hP hD hS (mX12_lay hg) okX12_lay wl_X12_235 wi_X12_lay ws_X12_X12_lay_X12_lay ⟨rfl, rfl, Nat.le_of_ble_eq_true rfl, Nat.le_of_ble_eq_true rfl⟩ 12 0 rfl rfl rfl hl.1 (Nat.le_of_ble_eq_true rfl) dX12_feed_22 (fun H locs hP hD hS => ?_)
    refine lv_aload_n hx hb dX12_feed_25 rfl (lv_at hl 0 rfl) ?_
    refine lv_iload_n hx hb dX12_feed_26 rfl (lv_at hl 2 rfl) ?_
    obtain ⟨z2, hg, hf⟩ := tc_bi hf
    refine tc_vVs (As := [.int (a2)]) (rest := []) (b := q 0) X hP hD hS (mX12_lay hg) okX12_lay wl_X12_235 wi_X12_lay ws_X12_X12_lay_X12_lay ⟨rfl, rfl, Nat.le_of_ble_eq_true rfl, Nat.le_of_ble_eq_true rfl⟩ 12 0 rfl rfl rfl hl.1 (Nat.le_of_ble_eq_true rfl) dX12_feed_27 (fun H locs hP hD hS => ?_)
    refine lv_aload_n hx hb dX12_feed_30 rfl (lv_at hl 0 rfl) ?_
    refine lv_iload_n hx hb dX12_feed_31 rfl (lv_at hl 3 rfl) ?_
    obtain ⟨z3, hg, hf⟩ := tc_bi hf
    refine tc_vVs (As := [.int (a3)]) (rest := []) (b := q 0) X hP hD hS (mX12_lay hg) okX12_lay wl_X12_235 wi_X12_lay ws_X12_X12_lay_X12_lay ⟨rfl, rfl, Nat.le_of_ble_eq_true rfl, Nat.le_of_ble_eq_true rfl⟩ 12 0 rfl rfl rfl hl.1 (Nat.le_of_ble_eq_true rfl) dX12_feed_32 (fun H locs hP hD hS => ?_)
    refine lv_aload_n hx hb dX12_feed_35 rfl (lv_at hl 0 rfl) ?_
    refine lv_iload hx hb dX12_feed_36 (lv_at hl 4 rfl) ?_
    obtain ⟨z4, hg, hf⟩ := tc_bi hf
    refine tc_vVs (As := [.int (a4)]) (rest := []) (b := q 0) X hP hD hS (mX12_lay hg) okX12_lay wl_X12_235 wi_X12_lay ws_X12_X12_lay_X12_lay ⟨rfl, rfl, Nat.le_of_ble_eq_true rfl, Nat.le_of_ble_eq_true rfl⟩ 12 0 rfl rfl rfl hl.1 (Nat.le_of_ble_eq_true rfl) dX12_feed_38 (fun H locs hP hD hS => ?_)
    refine lv_aload_n hx hb dX12_feed_41 rfl (lv_at hl 0 rfl) ?_
    refine lv_iload hx hb dX12_feed_42 (lv_at hl 5 rfl) ?_
    obtain ⟨z5, hg, hf⟩ := tc_bi hf
    refine tc_vVs (As := [.int (a5)]) (rest := []) (b := q 0) X hP hD hS (mX12_lay hg) okX12_lay wl_X12_235 wi_X12_lay ws_X12_X12_lay_X12_lay ⟨rfl, rfl, Nat.le_of_ble_eq_true rfl, Nat.le_of_ble_eq_true rfl⟩ 12 0 rfl rfl rfl hl.1 (Nat.le_of_ble_eq_true rfl) dX12_feed_44 (fun H locs hP hD hS => ?_)
    refine lv_aload_n hx hb dX12_feed_47 rfl (lv_at hl 0 rfl) ?_
    refine va_get (D := (dC, dI)) (ci := 12) (v := .int (gi z5 8)) (C := RX12) (T := TX12) (N := 49) hx hb hts i_X12 hown hK hP 0 rfl rfl 8 (by decide) (hts _ wf_X12_232) (fun _ h9 => h9) rfl dX12_feed_48 ?_
    obtain rfl := Option.some.inj hf
    exact tc_ri X hP hD hS rfl dX12_feed_51 rfl rfl
  · have hf := tc_neg hc hf
    refine lv_iconst (v := (-1 : Int32)) hx hb dX12_feed_18 (by decide) ?_
    obtain rfl := Option.some.inj hf
    exact tc_ri X hP hD hS rfl dX12_feed_19 rfl rfl
def fX12_starts_17    (S : ms_T) : Option (Int32 × ms_T) :=
  (fX12_no S (5 : Int32)).bind fun z1 =>
  if z1.1 &&& 1 = z1.1 then
    some (z1.1, z1.2)
  else none
def fX12_starts  (S : ms_T) (a1 : Int32) (a2 : Int32) : Option (Int32 × ms_T) :=
  if a1 < 0 then
    fX12_starts_17 S
  else
    if (gi S 8) < a1 then
      fX12_starts_17 S
    else
      if a1 ≤ a2 then
        (fX12_advance (si (si (si (si S 9 a1) 8 (0 : Int32)) 16 (0 : Int32)) 12 (0 : Int32))).bind fun z2 =>
        some ((1 : Int32), z2)
      else
        fX12_starts_17 S
abbrev rmX12_starts : Room := { frames := 2, cells := 0, slots := 0, locals := 42 }
theorem okX12_starts : tc_ok yX12_starts cX12_starts 3 (some .boolean) 2 := ⟨wc_X12_starts, wn_X12, by decide, by decide, by decide +kernel⟩
set_option maxRecDepth 20000 in
theorem tX12_starts_17 {q : Nat → Nat}  (X : tc_X dC dI ca A RX12 cX12_starts 3 (some .boolean) p s m args meth c) (z : Int32 × ms_T)     : ∀ (S : ms_T), fX12_starts_17 S = some z → ∀ (H : Heap) (locs : List Loc) (ls : Array Slot), va_P (dC, dI) classes (w12 ca q S) H → va_D A (w12 ca q S) → va_S A s.heap H locs → lv_has ls 3 [(0, .ref (q 0))] → W p l e rmX12_starts s m args below meth c H locs 0 0 (MQ below (tc_QI dC dI ca A (w12 ca q z.2) (z.1)) args s 0 0 A) (F0 m 17 ls []) := by
  obtain ⟨hx, hb, hr, hml, hown, hts, hlk, hK, hA, hG⟩ := id X
  intro S hf H locs ls hP hD hS hl
  unfold fX12_starts_17 at hf
  refine lv_aload_n hx hb dX12_starts_17 rfl (lv_at hl 0 rfl) ?_
  refine lv_iconst (v := (5 : Int32)) hx hb dX12_starts_18 (by decide) ?_
  obtain ⟨z1, hg, hf⟩ := tc_bi hf
  refine tc_iVs (As := [.int ((5 : Int32))]) (rest := []) (b := q 0) X hP hD hS (mX12_no hg) okX12_no wl_X12_78 wi_X12_no ws_X12_X12_no_X12_no ⟨rfl, rfl, Nat.le_of_ble_eq_true rfl, Nat.le_of_ble_eq_true rfl⟩ 12 0 rfl rfl rfl hl.1 (Nat.le_of_ble_eq_true rfl) dX12_starts_19 (fun H locs hP hD hS => ?_)
  obtain ⟨hz1, hf⟩ := tc_ck hf
  obtain rfl := Option.some.inj hf
  exact tc_rz X hP hD hS rfl dX12_starts_22 hz1 rfl rfl
set_option maxRecDepth 20000 in
theorem mX12_starts {q : Nat → Nat}  {S : ms_T} {a1 : Int32} {a2 : Int32} {z : Int32 × ms_T}  (hf : fX12_starts S a1 a2 = some z) : tc_MI l dC dI ca yX12_starts cX12_starts 3 (some .boolean) rmX12_starts [.ref (q 0), .int (a1), .int (a2)] (w12 ca q S) (w12 ca q z.2) (z.1) := by
  refine tc_metI (own := RX12) (by decide) rfl ?_ (Nat.le_of_ble_eq_true rfl)
  intro p e s m below meth c A X hP hD hS ls hl
  obtain ⟨hx, hb, hr, hml, hown, hts, hlk, hK, hA, hG⟩ := id X
  unfold fX12_starts at hf
  have hl : lv_has ls 3 [(0, .ref (q 0)), (1, .int (a1)), (2, .int (a2))] := hl
  refine lv_iload_n hx hb dX12_starts_0 rfl (lv_at hl 1 rfl) ?_
  refine lv_if_lt (tgt := 17) hx hb dX12_starts_1 (by decide) (fun hc => ?_) (fun hc => ?_)
  · have hf := tc_pos hc hf
    exact tX12_starts_17 X z S hf _ _ _ hP hD hS (lv_sub hl [0] rfl)
  · have hf := tc_neg hc hf
    refine lv_iload_n hx hb dX12_starts_4 rfl (lv_at hl 1 rfl) ?_
    refine lv_aload_n hx hb dX12_starts_5 rfl (lv_at hl 0 rfl) ?_
    refine va_get (D := (dC, dI)) (ci := 12) (v := .int (gi S 8)) (C := RX12) (T := TX12) (N := 49) hx hb hts i_X12 hown hK hP 0 rfl rfl 8 (by decide) (hts _ wf_X12_232) (fun _ h9 => h9) rfl dX12_starts_6 ?_
    refine lv_icmp_gt (tgt := 17) hx hb dX12_starts_9 (by decide) (fun hc => ?_) (fun hc => ?_)
    · have hf := tc_pos hc hf
      exact tX12_starts_17 X z S hf _ _ _ hP hD hS (lv_sub hl [0] rfl)
    · have hf := tc_neg hc hf
      refine lv_iload_n hx hb dX12_starts_12 rfl (lv_at hl 1 rfl) ?_
      refine lv_iload_n hx hb dX12_starts_13 rfl (lv_at hl 2 rfl) ?_
      refine lv_icmp_le (tgt := 23) hx hb dX12_starts_14 (by decide) (fun hc => ?_) (fun hc => ?_)
      · have hf := tc_pos hc hf
        refine lv_aload_n hx hb dX12_starts_23 rfl (lv_at hl 0 rfl) ?_
        refine lv_iload_n hx hb dX12_starts_24 rfl (lv_at hl 1 rfl) ?_
        refine va_put (D := (dC, dI)) (ci := 12) (v := .int (a1)) (ty := .int) (C := RX12) (T := TX12) (N := 49) hx hb hts i_X12 tyX12 tyX12_ok nmX12 hown hK hP hD hS 0 rfl rfl 9 (by decide) (hts _ wf_X12_106) (fun _ h9 => h9) rfl (tyX12_ok 9 (by decide)) rfl rfl (Nat.le_of_ble_eq_true rfl) dX12_starts_25 (fun H locs hP hD hS => ?_)
        have hP := tc_eP (pw12_0_9 ca q S a1) hP
        have hD := tc_eD (pw12_0_9 ca q S a1) hD
        refine lv_aload_n hx hb dX12_starts_28 rfl (lv_at hl 0 rfl) ?_
        refine lv_iconst (v := (0 : Int32)) hx hb dX12_starts_29 (by decide) ?_
        refine va_put (D := (dC, dI)) (ci := 12) (v := .int ((0 : Int32))) (ty := .int) (C := RX12) (T := TX12) (N := 49) hx hb hts i_X12 tyX12 tyX12_ok nmX12 hown hK hP hD hS 0 rfl rfl 8 (by decide) (hts _ wf_X12_232) (fun _ h9 => h9) rfl (tyX12_ok 8 (by decide)) rfl rfl (Nat.le_of_ble_eq_true rfl) dX12_starts_30 (fun H locs hP hD hS => ?_)
        have hP := tc_eP (pw12_0_8 ca q (si S 9 a1) (0 : Int32)) hP
        have hD := tc_eD (pw12_0_8 ca q (si S 9 a1) (0 : Int32)) hD
        refine lv_aload_n hx hb dX12_starts_33 rfl (lv_at hl 0 rfl) ?_
        refine lv_iconst (v := (0 : Int32)) hx hb dX12_starts_34 (by decide) ?_
        refine va_put (D := (dC, dI)) (ci := 12) (v := .int ((0 : Int32))) (ty := .int) (C := RX12) (T := TX12) (N := 49) hx hb hts i_X12 tyX12 tyX12_ok nmX12 hown hK hP hD hS 0 rfl rfl 16 (by decide) (hts _ wf_X12_109) (fun _ h9 => h9) rfl (tyX12_ok 16 (by decide)) rfl rfl (Nat.le_of_ble_eq_true rfl) dX12_starts_35 (fun H locs hP hD hS => ?_)
        have hP := tc_eP (pw12_0_16 ca q (si (si S 9 a1) 8 (0 : Int32)) (0 : Int32)) hP
        have hD := tc_eD (pw12_0_16 ca q (si (si S 9 a1) 8 (0 : Int32)) (0 : Int32)) hD
        refine lv_aload_n hx hb dX12_starts_38 rfl (lv_at hl 0 rfl) ?_
        refine lv_iconst (v := (0 : Int32)) hx hb dX12_starts_39 (by decide) ?_
        refine va_put (D := (dC, dI)) (ci := 12) (v := .int ((0 : Int32))) (ty := .int) (C := RX12) (T := TX12) (N := 49) hx hb hts i_X12 tyX12 tyX12_ok nmX12 hown hK hP hD hS 0 rfl rfl 12 (by decide) (hts _ wf_X12_206) (fun _ h9 => h9) rfl (tyX12_ok 12 (by decide)) rfl rfl (Nat.le_of_ble_eq_true rfl) dX12_starts_40 (fun H locs hP hD hS => ?_)
        have hP := tc_eP (pw12_0_12 ca q (si (si (si S 9 a1) 8 (0 : Int32)) 16 (0 : Int32)) (0 : Int32)) hP
        have hD := tc_eD (pw12_0_12 ca q (si (si (si S 9 a1) 8 (0 : Int32)) 16 (0 : Int32)) (0 : Int32)) hD
        refine lv_aload_n hx hb dX12_starts_43 rfl (lv_at hl 0 rfl) ?_
        obtain ⟨z2, hg, hf⟩ := tc_bi hf
        refine tc_vVs (As := []) (rest := []) (b := q 0) X hP hD hS (mX12_advance hg) okX12_advance wl_X12_216 wi_X12_advance ws_X12_X12_advance_X12_advance ⟨rfl, rfl, Nat.le_of_ble_eq_true rfl, Nat.le_of_ble_eq_true rfl⟩ 12 0 rfl rfl rfl hl.1 (Nat.le_of_ble_eq_true rfl) dX12_starts_44 (fun H locs hP hD hS => ?_)
        refine lv_iconst (v := (1 : Int32)) hx hb dX12_starts_47 (by decide) ?_
        obtain rfl := Option.some.inj hf
        exact tc_rz X hP hD hS rfl dX12_starts_48 (by decide) rfl rfl
      · have hf := tc_neg hc hf
        exact tX12_starts_17 X z S hf _ _ _ hP hD hS (lv_sub hl [0] rfl)
def fX12_isWell_24    (S : ms_T) (t0 : Int32) : Option (Int32 × ms_T) :=
  if (gi (si S 11 t0) 12) = 0 then
    some ((1 : Int32), si S 11 t0)
  else
    (fX12_no (si S 11 t0) (10 : Int32)).bind fun z1 =>
    if z1.1 = 0 then
      some ((0 : Int32), z1.2)
    else
      some ((1 : Int32), z1.2)
def fX12_isWell  (S : ms_T)  : Option (Int32 × ms_T) :=
  if (gi (si S 10 (gi S 12)) 12) = 0 then
    fX12_isWell_24 (si S 10 (gi S 12)) (-1 : Int32)
  else
    fX12_isWell_24 (si S 10 (gi S 12)) (gi (si S 10 (gi S 12)) 13)
abbrev rmX12_isWell : Room := { frames := 1, cells := 0, slots := 0, locals := 21 }
theorem okX12_isWell : tc_ok yX12_isWell cX12_isWell 1 (some .boolean) 0 := ⟨wc_X12_isWell, wn_X12, by decide, by decide, by decide +kernel⟩
set_option maxRecDepth 20000 in
theorem tX12_isWell_24 {q : Nat → Nat}  (X : tc_X dC dI ca A RX12 cX12_isWell 1 (some .boolean) p s m args meth c) (z : Int32 × ms_T)     : ∀ (S : ms_T) (t0 : Int32), fX12_isWell_24 S t0 = some z → ∀ (H : Heap) (locs : List Loc) (ls : Array Slot), va_P (dC, dI) classes (w12 ca q S) H → va_D A (w12 ca q S) → va_S A s.heap H locs → lv_has ls 1 [(0, .ref (q 0))] → W p l e rmX12_isWell s m args below meth c H locs 0 0 (MQ below (tc_QI dC dI ca A (w12 ca q z.2) (z.1)) args s 0 0 A) (F0 m 24 ls [.int (t0), .ref (q 0)]) := by
  obtain ⟨hx, hb, hr, hml, hown, hts, hlk, hK, hA, hG⟩ := id X
  intro S t0 hf H locs ls hP hD hS hl
  unfold fX12_isWell_24 at hf
  refine va_put (D := (dC, dI)) (ci := 12) (v := .int (t0)) (ty := .int) (C := RX12) (T := TX12) (N := 49) hx hb hts i_X12 tyX12 tyX12_ok nmX12 hown hK hP hD hS 0 rfl rfl 11 (by decide) (hts _ wf_X12_32) (fun _ h9 => h9) rfl (tyX12_ok 11 (by decide)) rfl rfl (Nat.le_of_ble_eq_true rfl) dX12_isWell_24 (fun H locs hP hD hS => ?_)
  have hP := tc_eP (pw12_0_11 ca q S t0) hP
  have hD := tc_eD (pw12_0_11 ca q S t0) hD
  refine lv_aload_n hx hb dX12_isWell_27 rfl (lv_at hl 0 rfl) ?_
  refine va_get (D := (dC, dI)) (ci := 12) (v := .int (gi (si S 11 t0) 12)) (C := RX12) (T := TX12) (N := 49) hx hb hts i_X12 hown hK hP 0 rfl rfl 12 (by decide) (hts _ wf_X12_206) (fun _ h9 => h9) rfl dX12_isWell_28 ?_
  refine lv_if_eq (tgt := 43) hx hb dX12_isWell_31 (by decide) (fun hc => ?_) (fun hc => ?_)
  · have hf := tc_pos hc hf
    refine lv_iconst (v := (1 : Int32)) hx hb dX12_isWell_43 (by decide) ?_
    refine lv_goto (tgt := 48) hx hb dX12_isWell_44 (by decide) ?_
    obtain rfl := Option.some.inj hf
    exact tc_rz X hP hD hS rfl dX12_isWell_48 (by decide) rfl rfl
  · have hf := tc_neg hc hf
    refine lv_aload_n hx hb dX12_isWell_34 rfl (lv_at hl 0 rfl) ?_
    refine lv_bipush (v := (10 : Int32)) hx hb dX12_isWell_35 (by decide) ?_
    obtain ⟨z1, hg, hf⟩ := tc_bi hf
    refine tc_iVs (As := [.int ((10 : Int32))]) (rest := []) (b := q 0) X hP hD hS (mX12_no hg) okX12_no wl_X12_78 wi_X12_no ws_X12_X12_no_X12_no ⟨rfl, rfl, Nat.le_of_ble_eq_true rfl, Nat.le_of_ble_eq_true rfl⟩ 12 0 rfl rfl rfl hl.1 (Nat.le_of_ble_eq_true rfl) dX12_isWell_37 (fun H locs hP hD hS => ?_)
    refine lv_if_eq (tgt := 47) hx hb dX12_isWell_40 (by decide) (fun hc => ?_) (fun hc => ?_)
    · have hf := tc_pos hc hf
      refine lv_iconst (v := (0 : Int32)) hx hb dX12_isWell_47 (by decide) ?_
      obtain rfl := Option.some.inj hf
      exact tc_rz X hP hD hS rfl dX12_isWell_48 (by decide) rfl rfl
    · have hf := tc_neg hc hf
      refine lv_iconst (v := (1 : Int32)) hx hb dX12_isWell_43 (by decide) ?_
      refine lv_goto (tgt := 48) hx hb dX12_isWell_44 (by decide) ?_
      obtain rfl := Option.some.inj hf
      exact tc_rz X hP hD hS rfl dX12_isWell_48 (by decide) rfl rfl
set_option maxRecDepth 20000 in
theorem mX12_isWell {q : Nat → Nat}  {S : ms_T}  {z : Int32 × ms_T}  (hf : fX12_isWell S = some z) : tc_MI l dC dI ca yX12_isWell cX12_isWell 1 (some .boolean) rmX12_isWell [.ref (q 0)] (w12 ca q S) (w12 ca q z.2) (z.1) := by
  refine tc_metI (own := RX12) (by decide) rfl ?_ (Nat.le_of_ble_eq_true rfl)
  intro p e s m below meth c A X hP hD hS ls hl
  obtain ⟨hx, hb, hr, hml, hown, hts, hlk, hK, hA, hG⟩ := id X
  unfold fX12_isWell at hf
  have hl : lv_has ls 1 [(0, .ref (q 0))] := hl
  refine lv_aload_n hx hb dX12_isWell_0 rfl (lv_at hl 0 rfl) ?_
  refine lv_aload_n hx hb dX12_isWell_1 rfl (lv_at hl 0 rfl) ?_
  refine va_get (D := (dC, dI)) (ci := 12) (v := .int (gi S 12)) (C := RX12) (T := TX12) (N := 49) hx hb hts i_X12 hown hK hP 0 rfl rfl 12 (by decide) (hts _ wf_X12_206) (fun _ h9 => h9) rfl dX12_isWell_2 ?_
  refine va_put (D := (dC, dI)) (ci := 12) (v := .int (gi S 12)) (ty := .int) (C := RX12) (T := TX12) (N := 49) hx hb hts i_X12 tyX12 tyX12_ok nmX12 hown hK hP hD hS 0 rfl rfl 10 (by decide) (hts _ wf_X12_28) (fun _ h9 => h9) rfl (tyX12_ok 10 (by decide)) rfl rfl (Nat.le_of_ble_eq_true rfl) dX12_isWell_5 (fun H locs hP hD hS => ?_)
  have hP := tc_eP (pw12_0_10 ca q S (gi S 12)) hP
  have hD := tc_eD (pw12_0_10 ca q S (gi S 12)) hD
  refine lv_aload_n hx hb dX12_isWell_8 rfl (lv_at hl 0 rfl) ?_
  refine lv_aload_n hx hb dX12_isWell_9 rfl (lv_at hl 0 rfl) ?_
  refine va_get (D := (dC, dI)) (ci := 12) (v := .int (gi (si S 10 (gi S 12)) 12)) (C := RX12) (T := TX12) (N := 49) hx hb hts i_X12 hown hK hP 0 rfl rfl 12 (by decide) (hts _ wf_X12_206) (fun _ h9 => h9) rfl dX12_isWell_10 ?_
  refine lv_if_ne (tgt := 20) hx hb dX12_isWell_13 (by decide) (fun hc => ?_) (fun hc => ?_)
  · have hf := tc_neg hc hf
    refine lv_aload_n hx hb dX12_isWell_20 rfl (lv_at hl 0 rfl) ?_
    refine va_get (D := (dC, dI)) (ci := 12) (v := .int (gi (si S 10 (gi S 12)) 13)) (C := RX12) (T := TX12) (N := 49) hx hb hts i_X12 hown hK hP 0 rfl rfl 13 (by decide) (hts _ wf_X12_209) (fun _ h9 => h9) rfl dX12_isWell_21 ?_
    exact tX12_isWell_24 X z (si S 10 (gi S 12)) (gi (si S 10 (gi S 12)) 13) hf _ _ _ hP hD hS (lv_sub hl [0] rfl)
  · have hf := tc_pos hc hf
    refine lv_iconst (v := (-1 : Int32)) hx hb dX12_isWell_16 (by decide) ?_
    refine lv_goto (tgt := 24) hx hb dX12_isWell_17 (by decide) ?_
    exact tX12_isWell_24 X z (si S 10 (gi S 12)) (-1 : Int32) hf _ _ _ hP hD hS (lv_sub hl [0] rfl)
def fX12_fault  (S : ms_T) (a1 : Int32) : Option (Int32 × ms_T) :=
  if a1 = 0 then
    some (gi (si S 1 (0 : Int32)) 10, si S 1 (0 : Int32))
  else
    if a1 = (1 : Int32) then
      some (gi (si S 1 (0 : Int32)) 11, si S 1 (0 : Int32))
    else
      some ((-1 : Int32), si S 1 (0 : Int32))
abbrev rmX12_fault : Room := { frames := 0, cells := 0, slots := 0, locals := 0 }
theorem okX12_fault : tc_ok yX12_fault cX12_fault 2 (some .int) 1 := ⟨wc_X12_fault, wn_X12, by decide, by decide, by decide +kernel⟩
set_option maxRecDepth 20000 in
theorem mX12_fault {q : Nat → Nat}  {S : ms_T} {a1 : Int32} {z : Int32 × ms_T}  (hf : fX12_fault S a1 = some z) : tc_MI l dC dI ca yX12_fault cX12_fault 2 (some .int) rmX12_fault [.ref (q 0), .int (a1)] (w12 ca q S) (w12 ca q z.2) (z.1) := by
  refine tc_metI (own := RX12) (by decide) rfl ?_ (Nat.le_of_ble_eq_true rfl)
  intro p e s m below meth c A X hP hD hS ls hl
  obtain ⟨hx, hb, hr, hml, hown, hts, hlk, hK, hA, hG⟩ := id X
  unfold fX12_fault at hf
  have hl : lv_has ls 2 [(0, .ref (q 0)), (1, .int (a1))] := hl
  refine lv_aload_n hx hb dX12_fault_0 rfl (lv_at hl 0 rfl) ?_
  refine lv_iconst (v := (0 : Int32)) hx hb dX12_fault_1 (by decide) ?_
  refine va_put (D := (dC, dI)) (ci := 12) (v := .int ((0 : Int32))) (ty := .int) (C := RX12) (T := TX12) (N := 49) hx hb hts i_X12 tyX12 tyX12_ok nmX12 hown hK hP hD hS 0 rfl rfl 1 (by decide) (hts _ wf_X12_63) (fun _ h9 => h9) rfl (tyX12_ok 1 (by decide)) rfl rfl (Nat.le_of_ble_eq_true rfl) dX12_fault_2 (fun H locs hP hD hS => ?_)
  have hP := tc_eP (pw12_0_1 ca q S (0 : Int32)) hP
  have hD := tc_eD (pw12_0_1 ca q S (0 : Int32)) hD
  refine lv_iload_n hx hb dX12_fault_5 rfl (lv_at hl 1 rfl) ?_
  refine lv_if_ne (tgt := 16) hx hb dX12_fault_6 (by decide) (fun hc => ?_) (fun hc => ?_)
  · have hf := tc_neg hc hf
    refine lv_iload_n hx hb dX12_fault_16 rfl (lv_at hl 1 rfl) ?_
    refine lv_iconst (v := (1 : Int32)) hx hb dX12_fault_17 (by decide) ?_
    refine lv_icmp_ne (tgt := 28) hx hb dX12_fault_18 (by decide) (fun hc => ?_) (fun hc => ?_)
    · have hf := tc_neg hc hf
      refine lv_iconst (v := (-1 : Int32)) hx hb dX12_fault_28 (by decide) ?_
      obtain rfl := Option.some.inj hf
      exact tc_ri X hP hD hS rfl dX12_fault_29 rfl rfl
    · have hf := tc_pos hc hf
      refine lv_aload_n hx hb dX12_fault_21 rfl (lv_at hl 0 rfl) ?_
      refine va_get (D := (dC, dI)) (ci := 12) (v := .int (gi (si S 1 (0 : Int32)) 11)) (C := RX12) (T := TX12) (N := 49) hx hb hts i_X12 hown hK hP 0 rfl rfl 11 (by decide) (hts _ wf_X12_32) (fun _ h9 => h9) rfl dX12_fault_22 ?_
      refine lv_goto (tgt := 29) hx hb dX12_fault_25 (by decide) ?_
      obtain rfl := Option.some.inj hf
      exact tc_ri X hP hD hS rfl dX12_fault_29 rfl rfl
  · have hf := tc_pos hc hf
    refine lv_aload_n hx hb dX12_fault_9 rfl (lv_at hl 0 rfl) ?_
    refine va_get (D := (dC, dI)) (ci := 12) (v := .int (gi (si S 1 (0 : Int32)) 10)) (C := RX12) (T := TX12) (N := 49) hx hb hts i_X12 hown hK hP 0 rfl rfl 10 (by decide) (hts _ wf_X12_28) (fun _ h9 => h9) rfl dX12_fault_10 ?_
    refine lv_goto (tgt := 29) hx hb dX12_fault_13 (by decide) ?_
    obtain rfl := Option.some.inj hf
    exact tc_ri X hP hD hS rfl dX12_fault_29 rfl rfl
def fX12_empties_2    : Nat → ms_T → Int32 → Int32 → Option (ms_T)
  | 0, _, _, _ => none
  | n + 1, S, v1, v2 =>
    if (364 : Int32) ≤ v2 then
      if inb (((364 : Int32) * v1) + (4 : Int32)) 1820 = true then
        some (sa S 5 (((364 : Int32) * v1) + (4 : Int32)) (4 : Int32))
      else none
    else
      if inb (((364 : Int32) * v1) + v2) 1820 = true then
        fX12_empties_2 n (sa S 5 (((364 : Int32) * v1) + v2) (0 : Int32)) v1 (v2 + (1 : Int32))
      else none
def fX12_empties  (S : ms_T) (a1 : Int32) : Option (ms_T) :=
  fX12_empties_2 FU S a1 (0 : Int32)
abbrev rmX12_empties : Room := { frames := 0, cells := 0, slots := 0, locals := 0 }
theorem okX12_empties : tc_ok yX12_empties cX12_empties 3 none 1 := ⟨wc_X12_empties, wn_X12, by decide, by decide, by decide +kernel⟩
set_option maxRecDepth 20000 in
theorem tX12_empties_2 {q : Nat → Nat}  (X : tc_X dC dI ca A RX12 cX12_empties 3 none p s m args meth c) (z : ms_T)     : ∀ n : Nat, ∀ (S : ms_T) (v1 : Int32) (v2 : Int32), fX12_empties_2 n S v1 v2 = some z → ∀ (H : Heap) (locs : List Loc) (ls : Array Slot), va_P (dC, dI) classes (w12 ca q S) H → va_D A (w12 ca q S) → va_S A s.heap H locs → lv_has ls 3 [(0, .ref (q 0)), (1, .int (v1)), (2, .int (v2))] → W p l e rmX12_empties s m args below meth c H locs 0 0 (MQ below (tc_QV dC dI ca A (w12 ca q z)) args s 0 0 A) (F0 m 2 ls []) := by
  obtain ⟨hx, hb, hr, hml, hown, hts, hlk, hK, hA, hG⟩ := id X
  intro n
  induction n with
  | zero => intro S v1 v2 hf; exact absurd (show none = some z from hf) (fun h => by cases h)
  | succ n ih =>
    intro S v1 v2 hf H locs ls hP hD hS hl
    rw [fX12_empties_2] at hf
    refine lv_iload_n hx hb dX12_empties_2 rfl (lv_at hl 2 rfl) ?_
    refine lv_sipush (v := (364 : Int32)) hx hb dX12_empties_3 (by decide) ?_
    refine lv_icmp_ge (tgt := 28) hx hb dX12_empties_6 (by decide) (fun hc => ?_) (fun hc => ?_)
    · have hf := tc_pos hc hf
      refine lv_aload_n hx hb dX12_empties_28 rfl (lv_at hl 0 rfl) ?_
      refine va_get (D := (dC, dI)) (ci := 12) (v := .ref (q 5)) (C := RX12) (T := TX12) (N := 49) hx hb hts i_X12 hown hK hP 0 rfl rfl 20 (by decide) (hts _ wf_X12_35) (fun _ h9 => h9) rfl dX12_empties_29 ?_
      refine lv_sipush (v := (364 : Int32)) hx hb dX12_empties_32 (by decide) ?_
      refine lv_iload_n hx hb dX12_empties_35 rfl (lv_at hl 1 rfl) ?_
      refine lv_imul hx hb dX12_empties_36 ?_
      refine lv_iconst (v := (4 : Int32)) hx hb dX12_empties_37 (by decide) ?_
      refine lv_iadd hx hb dX12_empties_38 ?_
      refine lv_iconst (v := (4 : Int32)) hx hb dX12_empties_39 (by decide) ?_
      obtain ⟨hi1, hf⟩ := tc_in hf
      refine va_iast hx hb hK hP hD hS 5 1 rfl rfl hi1 dX12_empties_40 (fun H locs hP hD hS => ?_)
      have hP := tc_eP (aw12_0_5 ca q S (((364 : Int32) * v1) + (4 : Int32)) (4 : Int32)) hP
      have hD := tc_eD (aw12_0_5 ca q S (((364 : Int32) * v1) + (4 : Int32)) (4 : Int32)) hD
      obtain rfl := Option.some.inj hf
      exact tc_rv X hP hD hS rfl dX12_empties_41 rfl
    · have hf := tc_neg hc hf
      refine lv_aload_n hx hb dX12_empties_9 rfl (lv_at hl 0 rfl) ?_
      refine va_get (D := (dC, dI)) (ci := 12) (v := .ref (q 5)) (C := RX12) (T := TX12) (N := 49) hx hb hts i_X12 hown hK hP 0 rfl rfl 20 (by decide) (hts _ wf_X12_35) (fun _ h9 => h9) rfl dX12_empties_10 ?_
      refine lv_sipush (v := (364 : Int32)) hx hb dX12_empties_13 (by decide) ?_
      refine lv_iload_n hx hb dX12_empties_16 rfl (lv_at hl 1 rfl) ?_
      refine lv_imul hx hb dX12_empties_17 ?_
      refine lv_iload_n hx hb dX12_empties_18 rfl (lv_at hl 2 rfl) ?_
      refine lv_iadd hx hb dX12_empties_19 ?_
      refine lv_iconst (v := (0 : Int32)) hx hb dX12_empties_20 (by decide) ?_
      obtain ⟨hi2, hf⟩ := tc_in hf
      refine va_iast hx hb hK hP hD hS 5 1 rfl rfl hi2 dX12_empties_21 (fun H locs hP hD hS => ?_)
      have hP := tc_eP (aw12_0_5 ca q S (((364 : Int32) * v1) + v2) (0 : Int32)) hP
      have hD := tc_eD (aw12_0_5 ca q S (((364 : Int32) * v1) + v2) (0 : Int32)) hD
      refine lv_iinc (v := v2 + (1 : Int32)) (lv' := [(2, .int (v2 + (1 : Int32))), (0, .ref (q 0)), (1, .int (v1))]) hx hb dX12_empties_22 hl (k := 2) rfl rfl (by decide) rfl (fun ls hl => ?_)
      refine lv_goto (tgt := 2) hx hb dX12_empties_25 (by decide) ?_
      exact ih (sa S 5 (((364 : Int32) * v1) + v2) (0 : Int32)) v1 (v2 + (1 : Int32)) hf _ _ _ hP hD hS (lv_sub hl [1, 2, 0] rfl)
set_option maxRecDepth 20000 in
theorem mX12_empties {q : Nat → Nat}  {S : ms_T} {a1 : Int32} {z : ms_T}  (hf : fX12_empties S a1 = some z) : tc_MV l dC dI ca yX12_empties cX12_empties 3 none rmX12_empties [.ref (q 0), .int (a1)] (w12 ca q S) (w12 ca q z) := by
  refine tc_metV (own := RX12) (by decide) rfl ?_ (Nat.le_of_ble_eq_true rfl)
  intro p e s m below meth c A X hP hD hS ls hl
  obtain ⟨hx, hb, hr, hml, hown, hts, hlk, hK, hA, hG⟩ := id X
  unfold fX12_empties at hf
  have hl : lv_has ls 3 [(0, .ref (q 0)), (1, .int (a1))] := hl
  refine lv_iconst (v := (0 : Int32)) hx hb dX12_empties_0 (by decide) ?_
  refine lv_istore_n (lv' := [(2, .int ((0 : Int32))), (0, .ref (q 0)), (1, .int (a1))]) hx hb dX12_empties_1 rfl hl (by decide) rfl (fun ls hl => ?_)
  exact tX12_empties_2 X z FU S a1 (0 : Int32) hf _ _ _ hP hD hS (lv_sub hl [1, 2, 0] rfl)
def fX12_namesFrom   (a0 : Int32) : Option (Int32) :=
  if a0 = 0 then
    some ((0 : Int32))
  else
    if a0 = (1 : Int32) then
      some ((9 : Int32))
    else
      some ((17 : Int32))
abbrev rmX12_namesFrom : Room := { frames := 0, cells := 0, slots := 0, locals := 0 }
theorem okX12_namesFrom : tc_ok yX12_namesFrom cX12_namesFrom 1 (some .int) 1 := ⟨wc_X12_namesFrom, wn_X12, by decide, by decide, by decide +kernel⟩
set_option maxRecDepth 20000 in
theorem mX12_namesFrom    {a0 : Int32} {z : Int32}  (hf : fX12_namesFrom a0 = some z) : tc_MI l dC dI ca yX12_namesFrom cX12_namesFrom 1 (some .int) rmX12_namesFrom [.int (a0)] [] [] (z) := by
  refine tc_metI (own := RX12) (by decide) rfl ?_ (Nat.le_of_ble_eq_true rfl)
  intro p e s m below meth c A X hP hD hS ls hl
  obtain ⟨hx, hb, hr, hml, hown, hts, hlk, hK, hA, hG⟩ := id X
  unfold fX12_namesFrom at hf
  have hl : lv_has ls 1 [(0, .int (a0))] := hl
  refine lv_iload_n hx hb dX12_namesFrom_0 rfl (lv_at hl 0 rfl) ?_
  refine lv_if_ne (tgt := 8) hx hb dX12_namesFrom_1 (by decide) (fun hc => ?_) (fun hc => ?_)
  · have hf := tc_neg hc hf
    refine lv_iload_n hx hb dX12_namesFrom_8 rfl (lv_at hl 0 rfl) ?_
    refine lv_iconst (v := (1 : Int32)) hx hb dX12_namesFrom_9 (by decide) ?_
    refine lv_icmp_ne (tgt := 18) hx hb dX12_namesFrom_10 (by decide) (fun hc => ?_) (fun hc => ?_)
    · have hf := tc_neg hc hf
      refine lv_bipush (v := (17 : Int32)) hx hb dX12_namesFrom_18 (by decide) ?_
      obtain rfl := Option.some.inj hf
      exact tc_ri X hP hD hS rfl dX12_namesFrom_20 rfl rfl
    · have hf := tc_pos hc hf
      refine lv_bipush (v := (9 : Int32)) hx hb dX12_namesFrom_13 (by decide) ?_
      refine lv_goto (tgt := 20) hx hb dX12_namesFrom_15 (by decide) ?_
      obtain rfl := Option.some.inj hf
      exact tc_ri X hP hD hS rfl dX12_namesFrom_20 rfl rfl
  · have hf := tc_pos hc hf
    refine lv_iconst (v := (0 : Int32)) hx hb dX12_namesFrom_4 (by decide) ?_
    refine lv_goto (tgt := 20) hx hb dX12_namesFrom_5 (by decide) ?_
    obtain rfl := Option.some.inj hf
    exact tc_ri X hP hD hS rfl dX12_namesFrom_20 rfl rfl
def fX12_named_2  (S : ms_T)  : Nat → Int32 → Int32 → Int32 → Option (Int32)
  | 0, _, _, _ => none
  | n + 1, v1, v2, v3 =>
    if inb (((364 : Int32) * v1) + v2) 1820 = true then
      if (ia S 5 (((364 : Int32) * v1) + v2)) ≤ v3 then
        some ((-1 : Int32))
      else
        (fX12_namesFrom v2).bind fun z2 =>
        if inb ((((23 : Int32) * v1) + z2) + v3) 115 = true then
          if (lg_cmp (la S 7 ((((23 : Int32) * v1) + z2) + v3)) (gl S 19)) = 0 then
            some (v3)
          else
            fX12_named_2 S n v1 v2 (v3 + (1 : Int32))
        else none
    else none
def fX12_named  (S : ms_T) (a1 : Int32) (a2 : Int32) : Option (Int32) :=
  fX12_named_2 S FU a1 a2 (0 : Int32)
abbrev rmX12_named : Room := { frames := 1, cells := 0, slots := 0, locals := 20 }
theorem okX12_named : tc_ok yX12_named cX12_named 4 (some .int) 2 := ⟨wc_X12_named, wn_X12, by decide, by decide, by decide +kernel⟩
set_option maxRecDepth 20000 in
theorem tX12_named_2 {q : Nat → Nat}  (X : tc_X dC dI ca A RX12 cX12_named 4 (some .int) p s m args meth c) (z : Int32)  (S : ms_T)   : ∀ n : Nat, ∀ (v1 : Int32) (v2 : Int32) (v3 : Int32), fX12_named_2 S n v1 v2 v3 = some z → ∀ (H : Heap) (locs : List Loc) (ls : Array Slot), va_P (dC, dI) classes (w12 ca q S) H → va_D A (w12 ca q S) → va_S A s.heap H locs → lv_has ls 4 [(0, .ref (q 0)), (1, .int (v1)), (2, .int (v2)), (3, .int (v3))] → W p l e rmX12_named s m args below meth c H locs 0 0 (MQ below (tc_QI dC dI ca A (w12 ca q S) (z)) args s 0 0 A) (F0 m 2 ls []) := by
  obtain ⟨hx, hb, hr, hml, hown, hts, hlk, hK, hA, hG⟩ := id X
  intro n
  induction n with
  | zero => intro v1 v2 v3 hf; exact absurd (show none = some z from hf) (fun h => by cases h)
  | succ n ih =>
    intro v1 v2 v3 hf H locs ls hP hD hS hl
    rw [fX12_named_2] at hf
    refine lv_iload_n hx hb dX12_named_2 rfl (lv_at hl 3 rfl) ?_
    refine lv_aload_n hx hb dX12_named_3 rfl (lv_at hl 0 rfl) ?_
    refine va_get (D := (dC, dI)) (ci := 12) (v := .ref (q 5)) (C := RX12) (T := TX12) (N := 49) hx hb hts i_X12 hown hK hP 0 rfl rfl 20 (by decide) (hts _ wf_X12_35) (fun _ h9 => h9) rfl dX12_named_4 ?_
    refine lv_sipush (v := (364 : Int32)) hx hb dX12_named_7 (by decide) ?_
    refine lv_iload_n hx hb dX12_named_10 rfl (lv_at hl 1 rfl) ?_
    refine lv_imul hx hb dX12_named_11 ?_
    refine lv_iload_n hx hb dX12_named_12 rfl (lv_at hl 2 rfl) ?_
    refine lv_iadd hx hb dX12_named_13 ?_
    obtain ⟨hi1, hf⟩ := tc_in hf
    refine va_iald hx hb hK hP 5 1 rfl rfl hi1 dX12_named_14 ?_
    refine lv_icmp_ge (tgt := 50) hx hb dX12_named_15 (by decide) (fun hc => ?_) (fun hc => ?_)
    · have hf := tc_pos hc hf
      refine lv_iconst (v := (-1 : Int32)) hx hb dX12_named_50 (by decide) ?_
      obtain rfl := Option.some.inj hf
      exact tc_ri X hP hD hS rfl dX12_named_51 rfl rfl
    · have hf := tc_neg hc hf
      refine lv_aload_n hx hb dX12_named_18 rfl (lv_at hl 0 rfl) ?_
      refine va_get (D := (dC, dI)) (ci := 12) (v := .ref (q 7)) (C := RX12) (T := TX12) (N := 49) hx hb hts i_X12 hown hK hP 0 rfl rfl 22 (by decide) (hts _ wf_X12_41) (fun _ h9 => h9) rfl dX12_named_19 ?_
      refine lv_bipush (v := (23 : Int32)) hx hb dX12_named_22 (by decide) ?_
      refine lv_iload_n hx hb dX12_named_24 rfl (lv_at hl 1 rfl) ?_
      refine lv_imul hx hb dX12_named_25 ?_
      refine lv_iload_n hx hb dX12_named_26 rfl (lv_at hl 2 rfl) ?_
      obtain ⟨z2, hg, hf⟩ := tc_bi hf
      refine tc_iS0 (As := [.int (v2)]) (rest := [.int ((23 : Int32) * v1), .ref (q 7)]) X hP hD hS (mX12_namesFrom hg) okX12_namesFrom wl_X12_238 wt_X12_namesFrom ⟨rfl, rfl, Nat.le_of_ble_eq_true rfl, Nat.le_of_ble_eq_true rfl⟩ rfl hl.1 (Nat.le_of_ble_eq_true rfl) dX12_named_27 (fun H locs hP hD hS => ?_)
      refine lv_iadd hx hb dX12_named_30 ?_
      refine lv_iload_n hx hb dX12_named_31 rfl (lv_at hl 3 rfl) ?_
      refine lv_iadd hx hb dX12_named_32 ?_
      obtain ⟨hi3, hf⟩ := tc_in hf
      refine va_lald hx hb hK hP 7 2 rfl rfl hi3 dX12_named_33 ?_
      refine lv_aload_n hx hb dX12_named_34 rfl (lv_at hl 0 rfl) ?_
      refine va_get (D := (dC, dI)) (ci := 12) (v := .long (gl S 19)) (C := RX12) (T := TX12) (N := 49) hx hb hts i_X12 hown hK hP 0 rfl rfl 19 (by decide) (hts _ wf_X12_124) (fun _ h9 => h9) rfl dX12_named_35 ?_
      refine W.lcmp hx hb dX12_named_38 ?_
      refine lv_if_ne (tgt := 44) hx hb dX12_named_39 (by decide) (fun hc => ?_) (fun hc => ?_)
      · have hf := tc_neg hc hf
        refine lv_iinc (v := v3 + (1 : Int32)) (lv' := [(3, .int (v3 + (1 : Int32))), (0, .ref (q 0)), (1, .int (v1)), (2, .int (v2))]) hx hb dX12_named_44 hl (k := 3) rfl rfl (by decide) rfl (fun ls hl => ?_)
        refine lv_goto (tgt := 2) hx hb dX12_named_47 (by decide) ?_
        exact ih v1 v2 (v3 + (1 : Int32)) hf _ _ _ hP hD hS (lv_sub hl [1, 2, 3, 0] rfl)
      · have hf := tc_pos hc hf
        refine lv_iload_n hx hb dX12_named_42 rfl (lv_at hl 3 rfl) ?_
        obtain rfl := Option.some.inj hf
        exact tc_ri X hP hD hS rfl dX12_named_43 rfl rfl
set_option maxRecDepth 20000 in
theorem mX12_named {q : Nat → Nat}  {S : ms_T} {a1 : Int32} {a2 : Int32} {z : Int32}  (hf : fX12_named S a1 a2 = some z) : tc_MI l dC dI ca yX12_named cX12_named 4 (some .int) rmX12_named [.ref (q 0), .int (a1), .int (a2)] (w12 ca q S) (w12 ca q S) (z) := by
  refine tc_metI (own := RX12) (by decide) rfl ?_ (Nat.le_of_ble_eq_true rfl)
  intro p e s m below meth c A X hP hD hS ls hl
  obtain ⟨hx, hb, hr, hml, hown, hts, hlk, hK, hA, hG⟩ := id X
  unfold fX12_named at hf
  have hl : lv_has ls 4 [(0, .ref (q 0)), (1, .int (a1)), (2, .int (a2))] := hl
  refine lv_iconst (v := (0 : Int32)) hx hb dX12_named_0 (by decide) ?_
  refine lv_istore_n (lv' := [(3, .int ((0 : Int32))), (0, .ref (q 0)), (1, .int (a1)), (2, .int (a2))]) hx hb dX12_named_1 rfl hl (by decide) rfl (fun ls hl => ?_)
  exact tX12_named_2 X z S FU a1 a2 (0 : Int32) hf _ _ _ hP hD hS (lv_sub hl [1, 2, 3, 0] rfl)
def fX12_readNew_117    (S : ms_T) (v3 : Int32) : Option (Int32 × ms_T) :=
  (fX12_must S (1 : Int32)).bind fun z3 =>
  some (v3, z3)
def fX12_readNew_92    (S : ms_T) (v1 : Int32) (v3 : Int32) : Option (Int32 × ms_T) :=
  if (gi S 12) = 0 then
    (fX12_namesFrom v1).bind fun z4 =>
    if inb (((92 : Int32) + z4) + v3) 115 = true then
      fX12_readNew_117 (sA S 7 (((92 : Int32) + z4) + v3) (gl S 19)) v3
    else none
  else
    fX12_readNew_117 S v3
def fX12_readNew_83    (S : ms_T) (v1 : Int32) (v3 : Int32) : Option (Int32 × ms_T) :=
  (fX12_fail S (3 : Int32) (gi S 15)).bind fun z7 =>
  fX12_readNew_92 z7 v1 v3
def fX12_readNew_49    (S : ms_T) (v1 : Int32) (v3 : Int32) : Option (Int32 × ms_T) :=
  if (gi S 12) = 0 then
    (fX12_named S (4 : Int32) (0 : Int32)).bind fun z6 =>
    if 0 ≤ z6 then
      fX12_readNew_83 S v1 v3
    else
      (fX12_named S (4 : Int32) (1 : Int32)).bind fun z8 =>
      if 0 ≤ z8 then
        fX12_readNew_83 S v1 v3
      else
        (fX12_named S (4 : Int32) (2 : Int32)).bind fun z9 =>
        if z9 < 0 then
          fX12_readNew_92 S v1 v3
        else
          fX12_readNew_83 S v1 v3
  else
    fX12_readNew_92 S v1 v3
def fX12_readNew_26    (S : ms_T) (v1 : Int32) (v3 : Int32) : Option (Int32 × ms_T) :=
  (fX12_must S (1 : Int32)).bind fun z2 =>
  if (gi z2 12) = 0 then
    (fX12_isName z2).bind fun z10 =>
    if z10 = 0 then
      (fX12_amiss z2).bind fun z11 =>
      fX12_readNew_49 z11 v1 v3
    else
      fX12_readNew_49 z2 v1 v3
  else
    fX12_readNew_49 z2 v1 v3
def fX12_readNew  (S : ms_T) (a1 : Int32) (a2 : Int32) : Option (Int32 × ms_T) :=
  if inb ((1456 : Int32) + a1) 1820 = true then
    if (ia S 5 ((1456 : Int32) + a1)) = a2 then
      (fX12_fail S (6 : Int32) (gi S 15)).bind fun z12 =>
      fX12_readNew_26 z12 a1 (ia S 5 ((1456 : Int32) + a1))
    else
      fX12_readNew_26 S a1 (ia S 5 ((1456 : Int32) + a1))
  else none
abbrev rmX12_readNew : Room := { frames := 4, cells := 0, slots := 0, locals := 87 }
theorem okX12_readNew : tc_ok yX12_readNew cX12_readNew 4 (some .int) 2 := ⟨wc_X12_readNew, wn_X12, by decide, by decide, by decide +kernel⟩
set_option maxRecDepth 20000 in
theorem tX12_readNew_117 {q : Nat → Nat}  (X : tc_X dC dI ca A RX12 cX12_readNew 4 (some .int) p s m args meth c) (z : Int32 × ms_T)     : ∀ (S : ms_T) (v3 : Int32), fX12_readNew_117 S v3 = some z → ∀ (H : Heap) (locs : List Loc) (ls : Array Slot), va_P (dC, dI) classes (w12 ca q S) H → va_D A (w12 ca q S) → va_S A s.heap H locs → lv_has ls 4 [(0, .ref (q 0)), (3, .int (v3))] → W p l e rmX12_readNew s m args below meth c H locs 0 0 (MQ below (tc_QI dC dI ca A (w12 ca q z.2) (z.1)) args s 0 0 A) (F0 m 117 ls []) := by
  obtain ⟨hx, hb, hr, hml, hown, hts, hlk, hK, hA, hG⟩ := id X
  intro S v3 hf H locs ls hP hD hS hl
  unfold fX12_readNew_117 at hf
  refine lv_aload_n hx hb dX12_readNew_117 rfl (lv_at hl 0 rfl) ?_
  refine lv_iconst (v := (1 : Int32)) hx hb dX12_readNew_118 (by decide) ?_
  obtain ⟨z3, hg, hf⟩ := tc_bi hf
  refine tc_vVs (As := [.int ((1 : Int32))]) (rest := []) (b := q 0) X hP hD hS (mX12_must hg) okX12_must wl_X12_225 wi_X12_must ws_X12_X12_must_X12_must ⟨rfl, rfl, Nat.le_of_ble_eq_true rfl, Nat.le_of_ble_eq_true rfl⟩ 12 0 rfl rfl rfl hl.1 (Nat.le_of_ble_eq_true rfl) dX12_readNew_119 (fun H locs hP hD hS => ?_)
  refine lv_iload_n hx hb dX12_readNew_122 rfl (lv_at hl 1 rfl) ?_
  obtain rfl := Option.some.inj hf
  exact tc_ri X hP hD hS rfl dX12_readNew_123 rfl rfl
set_option maxRecDepth 20000 in
theorem tX12_readNew_92 {q : Nat → Nat}  (X : tc_X dC dI ca A RX12 cX12_readNew 4 (some .int) p s m args meth c) (z : Int32 × ms_T)     : ∀ (S : ms_T) (v1 : Int32) (v3 : Int32), fX12_readNew_92 S v1 v3 = some z → ∀ (H : Heap) (locs : List Loc) (ls : Array Slot), va_P (dC, dI) classes (w12 ca q S) H → va_D A (w12 ca q S) → va_S A s.heap H locs → lv_has ls 4 [(0, .ref (q 0)), (1, .int (v1)), (3, .int (v3))] → W p l e rmX12_readNew s m args below meth c H locs 0 0 (MQ below (tc_QI dC dI ca A (w12 ca q z.2) (z.1)) args s 0 0 A) (F0 m 92 ls []) := by
  obtain ⟨hx, hb, hr, hml, hown, hts, hlk, hK, hA, hG⟩ := id X
  intro S v1 v3 hf H locs ls hP hD hS hl
  unfold fX12_readNew_92 at hf
  refine lv_aload_n hx hb dX12_readNew_92 rfl (lv_at hl 0 rfl) ?_
  refine va_get (D := (dC, dI)) (ci := 12) (v := .int (gi S 12)) (C := RX12) (T := TX12) (N := 49) hx hb hts i_X12 hown hK hP 0 rfl rfl 12 (by decide) (hts _ wf_X12_206) (fun _ h9 => h9) rfl dX12_readNew_93 ?_
  refine lv_if_ne (tgt := 117) hx hb dX12_readNew_96 (by decide) (fun hc => ?_) (fun hc => ?_)
  · have hf := tc_neg hc hf
    exact tX12_readNew_117 X z S v3 hf _ _ _ hP hD hS (lv_sub hl [0, 2] rfl)
  · have hf := tc_pos hc hf
    refine lv_aload_n hx hb dX12_readNew_99 rfl (lv_at hl 0 rfl) ?_
    refine va_get (D := (dC, dI)) (ci := 12) (v := .ref (q 7)) (C := RX12) (T := TX12) (N := 49) hx hb hts i_X12 hown hK hP 0 rfl rfl 22 (by decide) (hts _ wf_X12_41) (fun _ h9 => h9) rfl dX12_readNew_100 ?_
    refine lv_bipush (v := (92 : Int32)) hx hb dX12_readNew_103 (by decide) ?_
    refine lv_iload_n hx hb dX12_readNew_105 rfl (lv_at hl 1 rfl) ?_
    obtain ⟨z4, hg, hf⟩ := tc_bi hf
    refine tc_iS0 (As := [.int (v1)]) (rest := [.int ((92 : Int32)), .ref (q 7)]) X hP hD hS (mX12_namesFrom hg) okX12_namesFrom wl_X12_238 wt_X12_namesFrom ⟨rfl, rfl, Nat.le_of_ble_eq_true rfl, Nat.le_of_ble_eq_true rfl⟩ rfl hl.1 (Nat.le_of_ble_eq_true rfl) dX12_readNew_106 (fun H locs hP hD hS => ?_)
    refine lv_iadd hx hb dX12_readNew_109 ?_
    refine lv_iload_n hx hb dX12_readNew_110 rfl (lv_at hl 2 rfl) ?_
    refine lv_iadd hx hb dX12_readNew_111 ?_
    refine lv_aload_n hx hb dX12_readNew_112 rfl (lv_at hl 0 rfl) ?_
    refine va_get (D := (dC, dI)) (ci := 12) (v := .long (gl S 19)) (C := RX12) (T := TX12) (N := 49) hx hb hts i_X12 hown hK hP 0 rfl rfl 19 (by decide) (hts _ wf_X12_124) (fun _ h9 => h9) rfl dX12_readNew_113 ?_
    obtain ⟨hi5, hf⟩ := tc_in hf
    refine va_last hx hb hK hP hD hS 7 2 rfl rfl hi5 dX12_readNew_116 (fun H locs hP hD hS => ?_)
    have hP := tc_eP (aw12_0_7 ca q S (((92 : Int32) + z4) + v3) (gl S 19)) hP
    have hD := tc_eD (aw12_0_7 ca q S (((92 : Int32) + z4) + v3) (gl S 19)) hD
    exact tX12_readNew_117 X z (sA S 7 (((92 : Int32) + z4) + v3) (gl S 19)) v3 hf _ _ _ hP hD hS (lv_sub hl [0, 2] rfl)
set_option maxRecDepth 20000 in
theorem tX12_readNew_83 {q : Nat → Nat}  (X : tc_X dC dI ca A RX12 cX12_readNew 4 (some .int) p s m args meth c) (z : Int32 × ms_T)     : ∀ (S : ms_T) (v1 : Int32) (v3 : Int32), fX12_readNew_83 S v1 v3 = some z → ∀ (H : Heap) (locs : List Loc) (ls : Array Slot), va_P (dC, dI) classes (w12 ca q S) H → va_D A (w12 ca q S) → va_S A s.heap H locs → lv_has ls 4 [(0, .ref (q 0)), (1, .int (v1)), (3, .int (v3))] → W p l e rmX12_readNew s m args below meth c H locs 0 0 (MQ below (tc_QI dC dI ca A (w12 ca q z.2) (z.1)) args s 0 0 A) (F0 m 83 ls []) := by
  obtain ⟨hx, hb, hr, hml, hown, hts, hlk, hK, hA, hG⟩ := id X
  intro S v1 v3 hf H locs ls hP hD hS hl
  unfold fX12_readNew_83 at hf
  refine lv_aload_n hx hb dX12_readNew_83 rfl (lv_at hl 0 rfl) ?_
  refine lv_iconst (v := (3 : Int32)) hx hb dX12_readNew_84 (by decide) ?_
  refine lv_aload_n hx hb dX12_readNew_85 rfl (lv_at hl 0 rfl) ?_
  refine va_get (D := (dC, dI)) (ci := 12) (v := .int (gi S 15)) (C := RX12) (T := TX12) (N := 49) hx hb hts i_X12 hown hK hP 0 rfl rfl 15 (by decide) (hts _ wf_X12_112) (fun _ h9 => h9) rfl dX12_readNew_86 ?_
  obtain ⟨z7, hg, hf⟩ := tc_bi hf
  refine tc_vVs (As := [.int ((3 : Int32)), .int (gi S 15)]) (rest := []) (b := q 0) X hP hD hS (mX12_fail hg) okX12_fail wl_X12_212 wi_X12_fail ws_X12_X12_fail_X12_fail ⟨rfl, rfl, Nat.le_of_ble_eq_true rfl, Nat.le_of_ble_eq_true rfl⟩ 12 0 rfl rfl rfl hl.1 (Nat.le_of_ble_eq_true rfl) dX12_readNew_89 (fun H locs hP hD hS => ?_)
  exact tX12_readNew_92 X z z7 v1 v3 hf _ _ _ hP hD hS (lv_sub hl [0, 1, 2] rfl)
set_option maxRecDepth 20000 in
theorem tX12_readNew_49 {q : Nat → Nat}  (X : tc_X dC dI ca A RX12 cX12_readNew 4 (some .int) p s m args meth c) (z : Int32 × ms_T)     : ∀ (S : ms_T) (v1 : Int32) (v3 : Int32), fX12_readNew_49 S v1 v3 = some z → ∀ (H : Heap) (locs : List Loc) (ls : Array Slot), va_P (dC, dI) classes (w12 ca q S) H → va_D A (w12 ca q S) → va_S A s.heap H locs → lv_has ls 4 [(0, .ref (q 0)), (1, .int (v1)), (3, .int (v3))] → W p l e rmX12_readNew s m args below meth c H locs 0 0 (MQ below (tc_QI dC dI ca A (w12 ca q z.2) (z.1)) args s 0 0 A) (F0 m 49 ls []) := by
  obtain ⟨hx, hb, hr, hml, hown, hts, hlk, hK, hA, hG⟩ := id X
  intro S v1 v3 hf H locs ls hP hD hS hl
  unfold fX12_readNew_49 at hf
  refine lv_aload_n hx hb dX12_readNew_49 rfl (lv_at hl 0 rfl) ?_
  refine va_get (D := (dC, dI)) (ci := 12) (v := .int (gi S 12)) (C := RX12) (T := TX12) (N := 49) hx hb hts i_X12 hown hK hP 0 rfl rfl 12 (by decide) (hts _ wf_X12_206) (fun _ h9 => h9) rfl dX12_readNew_50 ?_
  refine lv_if_ne (tgt := 92) hx hb dX12_readNew_53 (by decide) (fun hc => ?_) (fun hc => ?_)
  · have hf := tc_neg hc hf
    exact tX12_readNew_92 X z S v1 v3 hf _ _ _ hP hD hS (lv_sub hl [0, 1, 2] rfl)
  · have hf := tc_pos hc hf
    refine lv_aload_n hx hb dX12_readNew_56 rfl (lv_at hl 0 rfl) ?_
    refine lv_iconst (v := (4 : Int32)) hx hb dX12_readNew_57 (by decide) ?_
    refine lv_iconst (v := (0 : Int32)) hx hb dX12_readNew_58 (by decide) ?_
    obtain ⟨z6, hg, hf⟩ := tc_bi hf
    refine tc_iVs (As := [.int ((4 : Int32)), .int ((0 : Int32))]) (rest := []) (b := q 0) X hP hD hS (mX12_named hg) okX12_named wl_X12_244 wi_X12_named ws_X12_X12_named_X12_named ⟨rfl, rfl, Nat.le_of_ble_eq_true rfl, Nat.le_of_ble_eq_true rfl⟩ 12 0 rfl rfl rfl hl.1 (Nat.le_of_ble_eq_true rfl) dX12_readNew_59 (fun H locs hP hD hS => ?_)
    refine lv_if_ge (tgt := 83) hx hb dX12_readNew_62 (by decide) (fun hc => ?_) (fun hc => ?_)
    · have hf := tc_pos hc hf
      exact tX12_readNew_83 X z S v1 v3 hf _ _ _ hP hD hS (lv_sub hl [0, 1, 2] rfl)
    · have hf := tc_neg hc hf
      refine lv_aload_n hx hb dX12_readNew_65 rfl (lv_at hl 0 rfl) ?_
      refine lv_iconst (v := (4 : Int32)) hx hb dX12_readNew_66 (by decide) ?_
      refine lv_iconst (v := (1 : Int32)) hx hb dX12_readNew_67 (by decide) ?_
      obtain ⟨z8, hg, hf⟩ := tc_bi hf
      refine tc_iVs (As := [.int ((4 : Int32)), .int ((1 : Int32))]) (rest := []) (b := q 0) X hP hD hS (mX12_named hg) okX12_named wl_X12_244 wi_X12_named ws_X12_X12_named_X12_named ⟨rfl, rfl, Nat.le_of_ble_eq_true rfl, Nat.le_of_ble_eq_true rfl⟩ 12 0 rfl rfl rfl hl.1 (Nat.le_of_ble_eq_true rfl) dX12_readNew_68 (fun H locs hP hD hS => ?_)
      refine lv_if_ge (tgt := 83) hx hb dX12_readNew_71 (by decide) (fun hc => ?_) (fun hc => ?_)
      · have hf := tc_pos hc hf
        exact tX12_readNew_83 X z S v1 v3 hf _ _ _ hP hD hS (lv_sub hl [0, 1, 2] rfl)
      · have hf := tc_neg hc hf
        refine lv_aload_n hx hb dX12_readNew_74 rfl (lv_at hl 0 rfl) ?_
        refine lv_iconst (v := (4 : Int32)) hx hb dX12_readNew_75 (by decide) ?_
        refine lv_iconst (v := (2 : Int32)) hx hb dX12_readNew_76 (by decide) ?_
        obtain ⟨z9, hg, hf⟩ := tc_bi hf
        refine tc_iVs (As := [.int ((4 : Int32)), .int ((2 : Int32))]) (rest := []) (b := q 0) X hP hD hS (mX12_named hg) okX12_named wl_X12_244 wi_X12_named ws_X12_X12_named_X12_named ⟨rfl, rfl, Nat.le_of_ble_eq_true rfl, Nat.le_of_ble_eq_true rfl⟩ 12 0 rfl rfl rfl hl.1 (Nat.le_of_ble_eq_true rfl) dX12_readNew_77 (fun H locs hP hD hS => ?_)
        refine lv_if_lt (tgt := 92) hx hb dX12_readNew_80 (by decide) (fun hc => ?_) (fun hc => ?_)
        · have hf := tc_pos hc hf
          exact tX12_readNew_92 X z S v1 v3 hf _ _ _ hP hD hS (lv_sub hl [0, 1, 2] rfl)
        · have hf := tc_neg hc hf
          exact tX12_readNew_83 X z S v1 v3 hf _ _ _ hP hD hS (lv_sub hl [0, 1, 2] rfl)
set_option maxRecDepth 20000 in
theorem tX12_readNew_26 {q : Nat → Nat}  (X : tc_X dC dI ca A RX12 cX12_readNew 4 (some .int) p s m args meth c) (z : Int32 × ms_T)     : ∀ (S : ms_T) (v1 : Int32) (v3 : Int32), fX12_readNew_26 S v1 v3 = some z → ∀ (H : Heap) (locs : List Loc) (ls : Array Slot), va_P (dC, dI) classes (w12 ca q S) H → va_D A (w12 ca q S) → va_S A s.heap H locs → lv_has ls 4 [(0, .ref (q 0)), (1, .int (v1)), (3, .int (v3))] → W p l e rmX12_readNew s m args below meth c H locs 0 0 (MQ below (tc_QI dC dI ca A (w12 ca q z.2) (z.1)) args s 0 0 A) (F0 m 26 ls []) := by
  obtain ⟨hx, hb, hr, hml, hown, hts, hlk, hK, hA, hG⟩ := id X
  intro S v1 v3 hf H locs ls hP hD hS hl
  unfold fX12_readNew_26 at hf
  refine lv_aload_n hx hb dX12_readNew_26 rfl (lv_at hl 0 rfl) ?_
  refine lv_iconst (v := (1 : Int32)) hx hb dX12_readNew_27 (by decide) ?_
  obtain ⟨z2, hg, hf⟩ := tc_bi hf
  refine tc_vVs (As := [.int ((1 : Int32))]) (rest := []) (b := q 0) X hP hD hS (mX12_must hg) okX12_must wl_X12_225 wi_X12_must ws_X12_X12_must_X12_must ⟨rfl, rfl, Nat.le_of_ble_eq_true rfl, Nat.le_of_ble_eq_true rfl⟩ 12 0 rfl rfl rfl hl.1 (Nat.le_of_ble_eq_true rfl) dX12_readNew_28 (fun H locs hP hD hS => ?_)
  refine lv_aload_n hx hb dX12_readNew_31 rfl (lv_at hl 0 rfl) ?_
  refine va_get (D := (dC, dI)) (ci := 12) (v := .int (gi z2 12)) (C := RX12) (T := TX12) (N := 49) hx hb hts i_X12 hown hK hP 0 rfl rfl 12 (by decide) (hts _ wf_X12_206) (fun _ h9 => h9) rfl dX12_readNew_32 ?_
  refine lv_if_ne (tgt := 49) hx hb dX12_readNew_35 (by decide) (fun hc => ?_) (fun hc => ?_)
  · have hf := tc_neg hc hf
    exact tX12_readNew_49 X z z2 v1 v3 hf _ _ _ hP hD hS (lv_sub hl [0, 1, 2] rfl)
  · have hf := tc_pos hc hf
    refine lv_aload_n hx hb dX12_readNew_38 rfl (lv_at hl 0 rfl) ?_
    obtain ⟨z10, hg, hf⟩ := tc_bi hf
    refine tc_iVs (As := []) (rest := []) (b := q 0) X hP hD hS (mX12_isName hg) okX12_isName wl_X12_241 wi_X12_isName ws_X12_X12_isName_X12_isName ⟨rfl, rfl, Nat.le_of_ble_eq_true rfl, Nat.le_of_ble_eq_true rfl⟩ 12 0 rfl rfl rfl hl.1 (Nat.le_of_ble_eq_true rfl) dX12_readNew_39 (fun H locs hP hD hS => ?_)
    refine lv_if_ne (tgt := 49) hx hb dX12_readNew_42 (by decide) (fun hc => ?_) (fun hc => ?_)
    · have hf := tc_neg hc hf
      exact tX12_readNew_49 X z z2 v1 v3 hf _ _ _ hP hD hS (lv_sub hl [0, 1, 2] rfl)
    · have hf := tc_pos hc hf
      refine lv_aload_n hx hb dX12_readNew_45 rfl (lv_at hl 0 rfl) ?_
      obtain ⟨z11, hg, hf⟩ := tc_bi hf
      refine tc_vVs (As := []) (rest := []) (b := q 0) X hP hD hS (mX12_amiss hg) okX12_amiss wl_X12_219 wi_X12_amiss ws_X12_X12_amiss_X12_amiss ⟨rfl, rfl, Nat.le_of_ble_eq_true rfl, Nat.le_of_ble_eq_true rfl⟩ 12 0 rfl rfl rfl hl.1 (Nat.le_of_ble_eq_true rfl) dX12_readNew_46 (fun H locs hP hD hS => ?_)
      exact tX12_readNew_49 X z z11 v1 v3 hf _ _ _ hP hD hS (lv_sub hl [0, 1, 2] rfl)
set_option maxRecDepth 20000 in
theorem mX12_readNew {q : Nat → Nat}  {S : ms_T} {a1 : Int32} {a2 : Int32} {z : Int32 × ms_T}  (hf : fX12_readNew S a1 a2 = some z) : tc_MI l dC dI ca yX12_readNew cX12_readNew 4 (some .int) rmX12_readNew [.ref (q 0), .int (a1), .int (a2)] (w12 ca q S) (w12 ca q z.2) (z.1) := by
  refine tc_metI (own := RX12) (by decide) rfl ?_ (Nat.le_of_ble_eq_true rfl)
  intro p e s m below meth c A X hP hD hS ls hl
  obtain ⟨hx, hb, hr, hml, hown, hts, hlk, hK, hA, hG⟩ := id X
  unfold fX12_readNew at hf
  have hl : lv_has ls 4 [(0, .ref (q 0)), (1, .int (a1)), (2, .int (a2))] := hl
  refine lv_aload_n hx hb dX12_readNew_0 rfl (lv_at hl 0 rfl) ?_
  refine va_get (D := (dC, dI)) (ci := 12) (v := .ref (q 5)) (C := RX12) (T := TX12) (N := 49) hx hb hts i_X12 hown hK hP 0 rfl rfl 20 (by decide) (hts _ wf_X12_35) (fun _ h9 => h9) rfl dX12_readNew_1 ?_
  refine lv_sipush (v := (1456 : Int32)) hx hb dX12_readNew_4 (by decide) ?_
  refine lv_iload_n hx hb dX12_readNew_7 rfl (lv_at hl 1 rfl) ?_
  refine lv_iadd hx hb dX12_readNew_8 ?_
  obtain ⟨hi1, hf⟩ := tc_in hf
  refine va_iald hx hb hK hP 5 1 rfl rfl hi1 dX12_readNew_9 ?_
  refine lv_istore_n (lv' := [(3, .int (ia S 5 ((1456 : Int32) + a1))), (0, .ref (q 0)), (1, .int (a1)), (2, .int (a2))]) hx hb dX12_readNew_10 rfl hl (by decide) rfl (fun ls hl => ?_)
  refine lv_iload_n hx hb dX12_readNew_11 rfl (lv_at hl 0 rfl) ?_
  refine lv_iload_n hx hb dX12_readNew_12 rfl (lv_at hl 3 rfl) ?_
  refine lv_icmp_ne (tgt := 26) hx hb dX12_readNew_13 (by decide) (fun hc => ?_) (fun hc => ?_)
  · have hf := tc_neg hc hf
    exact tX12_readNew_26 X z S a1 (ia S 5 ((1456 : Int32) + a1)) hf _ _ _ hP hD hS (lv_sub hl [1, 2, 0] rfl)
  · have hf := tc_pos hc hf
    refine lv_aload_n hx hb dX12_readNew_16 rfl (lv_at hl 1 rfl) ?_
    refine lv_bipush (v := (6 : Int32)) hx hb dX12_readNew_17 (by decide) ?_
    refine lv_aload_n hx hb dX12_readNew_19 rfl (lv_at hl 1 rfl) ?_
    refine va_get (D := (dC, dI)) (ci := 12) (v := .int (gi S 15)) (C := RX12) (T := TX12) (N := 49) hx hb hts i_X12 hown hK hP 0 rfl rfl 15 (by decide) (hts _ wf_X12_112) (fun _ h9 => h9) rfl dX12_readNew_20 ?_
    obtain ⟨z12, hg, hf⟩ := tc_bi hf
    refine tc_vVs (As := [.int ((6 : Int32)), .int (gi S 15)]) (rest := []) (b := q 0) X hP hD hS (mX12_fail hg) okX12_fail wl_X12_212 wi_X12_fail ws_X12_X12_fail_X12_fail ⟨rfl, rfl, Nat.le_of_ble_eq_true rfl, Nat.le_of_ble_eq_true rfl⟩ 12 0 rfl rfl rfl hl.1 (Nat.le_of_ble_eq_true rfl) dX12_readNew_23 (fun H locs hP hD hS => ?_)
    exact tX12_readNew_26 X z z12 a1 (ia S 5 ((1456 : Int32) + a1)) hf _ _ _ hP hD hS (lv_sub hl [1, 2, 0] rfl)
def fX12_told_47    (S : ms_T) (v3 : Int32) : Option (Int32 × ms_T) :=
  some (jmax (0 : Int32) v3, S)
def fX12_told_18    (S : ms_T) (v1 : Int32) (v2 : Int32) : Option (Int32 × ms_T) :=
  if (gi S 12) ≤ 0 then
    (fX12_named S v1 v2).bind fun z1 =>
    if 0 ≤ z1 then
      fX12_told_47 S z1
    else
      (fX12_fail S (3 : Int32) (gi S 15)).bind fun z2 =>
      fX12_told_47 z2 z1
  else
    some ((0 : Int32), S)
def fX12_told  (S : ms_T) (a1 : Int32) (a2 : Int32) : Option (Int32 × ms_T) :=
  if (gi S 12) = 0 then
    (fX12_isName S).bind fun z3 =>
    if z3 = 0 then
      (fX12_amiss S).bind fun z4 =>
      fX12_told_18 z4 a1 a2
    else
      fX12_told_18 S a1 a2
  else
    fX12_told_18 S a1 a2
abbrev rmX12_told : Room := { frames := 4, cells := 0, slots := 0, locals := 87 }
theorem okX12_told : tc_ok yX12_told cX12_told 4 (some .int) 2 := ⟨wc_X12_told, wn_X12, by decide, by decide, by decide +kernel⟩
set_option maxRecDepth 20000 in
theorem tX12_told_47 {q : Nat → Nat}  (X : tc_X dC dI ca A RX12 cX12_told 4 (some .int) p s m args meth c) (z : Int32 × ms_T)     : ∀ (S : ms_T) (v3 : Int32), fX12_told_47 S v3 = some z → ∀ (H : Heap) (locs : List Loc) (ls : Array Slot), va_P (dC, dI) classes (w12 ca q S) H → va_D A (w12 ca q S) → va_S A s.heap H locs → lv_has ls 4 [(3, .int (v3))] → W p l e rmX12_told s m args below meth c H locs 0 0 (MQ below (tc_QI dC dI ca A (w12 ca q z.2) (z.1)) args s 0 0 A) (F0 m 47 ls []) := by
  obtain ⟨hx, hb, hr, hml, hown, hts, hlk, hK, hA, hG⟩ := id X
  intro S v3 hf H locs ls hP hD hS hl
  unfold fX12_told_47 at hf
  refine lv_iconst (v := (0 : Int32)) hx hb dX12_told_47 (by decide) ?_
  refine lv_iload_n hx hb dX12_told_48 rfl (lv_at hl 0 rfl) ?_
  refine tc_mmax (rest := []) X hl.1 wl_X12_247 (Nat.le_of_ble_eq_true rfl) (Nat.le_of_ble_eq_true rfl) dX12_told_49 ?_
  obtain rfl := Option.some.inj hf
  exact tc_ri X hP hD hS rfl dX12_told_52 rfl rfl
set_option maxRecDepth 20000 in
theorem tX12_told_18 {q : Nat → Nat}  (X : tc_X dC dI ca A RX12 cX12_told 4 (some .int) p s m args meth c) (z : Int32 × ms_T)     : ∀ (S : ms_T) (v1 : Int32) (v2 : Int32), fX12_told_18 S v1 v2 = some z → ∀ (H : Heap) (locs : List Loc) (ls : Array Slot), va_P (dC, dI) classes (w12 ca q S) H → va_D A (w12 ca q S) → va_S A s.heap H locs → lv_has ls 4 [(0, .ref (q 0)), (1, .int (v1)), (2, .int (v2))] → W p l e rmX12_told s m args below meth c H locs 0 0 (MQ below (tc_QI dC dI ca A (w12 ca q z.2) (z.1)) args s 0 0 A) (F0 m 18 ls []) := by
  obtain ⟨hx, hb, hr, hml, hown, hts, hlk, hK, hA, hG⟩ := id X
  intro S v1 v2 hf H locs ls hP hD hS hl
  unfold fX12_told_18 at hf
  refine lv_aload_n hx hb dX12_told_18 rfl (lv_at hl 0 rfl) ?_
  refine va_get (D := (dC, dI)) (ci := 12) (v := .int (gi S 12)) (C := RX12) (T := TX12) (N := 49) hx hb hts i_X12 hown hK hP 0 rfl rfl 12 (by decide) (hts _ wf_X12_206) (fun _ h9 => h9) rfl dX12_told_19 ?_
  refine lv_if_le (tgt := 27) hx hb dX12_told_22 (by decide) (fun hc => ?_) (fun hc => ?_)
  · have hf := tc_pos hc hf
    refine lv_aload_n hx hb dX12_told_27 rfl (lv_at hl 0 rfl) ?_
    refine lv_iload_n hx hb dX12_told_28 rfl (lv_at hl 1 rfl) ?_
    refine lv_iload_n hx hb dX12_told_29 rfl (lv_at hl 2 rfl) ?_
    obtain ⟨z1, hg, hf⟩ := tc_bi hf
    refine tc_iVs (As := [.int (v1), .int (v2)]) (rest := []) (b := q 0) X hP hD hS (mX12_named hg) okX12_named wl_X12_244 wi_X12_named ws_X12_X12_named_X12_named ⟨rfl, rfl, Nat.le_of_ble_eq_true rfl, Nat.le_of_ble_eq_true rfl⟩ 12 0 rfl rfl rfl hl.1 (Nat.le_of_ble_eq_true rfl) dX12_told_30 (fun H locs hP hD hS => ?_)
    refine lv_istore_n (lv' := [(3, .int (z1)), (0, .ref (q 0)), (1, .int (v1)), (2, .int (v2))]) hx hb dX12_told_33 rfl hl (by decide) rfl (fun ls hl => ?_)
    refine lv_iload_n hx hb dX12_told_34 rfl (lv_at hl 0 rfl) ?_
    refine lv_if_ge (tgt := 47) hx hb dX12_told_35 (by decide) (fun hc => ?_) (fun hc => ?_)
    · have hf := tc_pos hc hf
      exact tX12_told_47 X z S z1 hf _ _ _ hP hD hS (lv_sub hl [0] rfl)
    · have hf := tc_neg hc hf
      refine lv_aload_n hx hb dX12_told_38 rfl (lv_at hl 1 rfl) ?_
      refine lv_iconst (v := (3 : Int32)) hx hb dX12_told_39 (by decide) ?_
      refine lv_aload_n hx hb dX12_told_40 rfl (lv_at hl 1 rfl) ?_
      refine va_get (D := (dC, dI)) (ci := 12) (v := .int (gi S 15)) (C := RX12) (T := TX12) (N := 49) hx hb hts i_X12 hown hK hP 0 rfl rfl 15 (by decide) (hts _ wf_X12_112) (fun _ h9 => h9) rfl dX12_told_41 ?_
      obtain ⟨z2, hg, hf⟩ := tc_bi hf
      refine tc_vVs (As := [.int ((3 : Int32)), .int (gi S 15)]) (rest := []) (b := q 0) X hP hD hS (mX12_fail hg) okX12_fail wl_X12_212 wi_X12_fail ws_X12_X12_fail_X12_fail ⟨rfl, rfl, Nat.le_of_ble_eq_true rfl, Nat.le_of_ble_eq_true rfl⟩ 12 0 rfl rfl rfl hl.1 (Nat.le_of_ble_eq_true rfl) dX12_told_44 (fun H locs hP hD hS => ?_)
      exact tX12_told_47 X z z2 z1 hf _ _ _ hP hD hS (lv_sub hl [0] rfl)
  · have hf := tc_neg hc hf
    refine lv_iconst (v := (0 : Int32)) hx hb dX12_told_25 (by decide) ?_
    obtain rfl := Option.some.inj hf
    exact tc_ri X hP hD hS rfl dX12_told_26 rfl rfl
set_option maxRecDepth 20000 in
theorem mX12_told {q : Nat → Nat}  {S : ms_T} {a1 : Int32} {a2 : Int32} {z : Int32 × ms_T}  (hf : fX12_told S a1 a2 = some z) : tc_MI l dC dI ca yX12_told cX12_told 4 (some .int) rmX12_told [.ref (q 0), .int (a1), .int (a2)] (w12 ca q S) (w12 ca q z.2) (z.1) := by
  refine tc_metI (own := RX12) (by decide) rfl ?_ (Nat.le_of_ble_eq_true rfl)
  intro p e s m below meth c A X hP hD hS ls hl
  obtain ⟨hx, hb, hr, hml, hown, hts, hlk, hK, hA, hG⟩ := id X
  unfold fX12_told at hf
  have hl : lv_has ls 4 [(0, .ref (q 0)), (1, .int (a1)), (2, .int (a2))] := hl
  refine lv_aload_n hx hb dX12_told_0 rfl (lv_at hl 0 rfl) ?_
  refine va_get (D := (dC, dI)) (ci := 12) (v := .int (gi S 12)) (C := RX12) (T := TX12) (N := 49) hx hb hts i_X12 hown hK hP 0 rfl rfl 12 (by decide) (hts _ wf_X12_206) (fun _ h9 => h9) rfl dX12_told_1 ?_
  refine lv_if_ne (tgt := 18) hx hb dX12_told_4 (by decide) (fun hc => ?_) (fun hc => ?_)
  · have hf := tc_neg hc hf
    exact tX12_told_18 X z S a1 a2 hf _ _ _ hP hD hS (lv_sub hl [0, 1, 2] rfl)
  · have hf := tc_pos hc hf
    refine lv_aload_n hx hb dX12_told_7 rfl (lv_at hl 0 rfl) ?_
    obtain ⟨z3, hg, hf⟩ := tc_bi hf
    refine tc_iVs (As := []) (rest := []) (b := q 0) X hP hD hS (mX12_isName hg) okX12_isName wl_X12_241 wi_X12_isName ws_X12_X12_isName_X12_isName ⟨rfl, rfl, Nat.le_of_ble_eq_true rfl, Nat.le_of_ble_eq_true rfl⟩ 12 0 rfl rfl rfl hl.1 (Nat.le_of_ble_eq_true rfl) dX12_told_8 (fun H locs hP hD hS => ?_)
    refine lv_if_ne (tgt := 18) hx hb dX12_told_11 (by decide) (fun hc => ?_) (fun hc => ?_)
    · have hf := tc_neg hc hf
      exact tX12_told_18 X z S a1 a2 hf _ _ _ hP hD hS (lv_sub hl [0, 1, 2] rfl)
    · have hf := tc_pos hc hf
      refine lv_aload_n hx hb dX12_told_14 rfl (lv_at hl 0 rfl) ?_
      obtain ⟨z4, hg, hf⟩ := tc_bi hf
      refine tc_vVs (As := []) (rest := []) (b := q 0) X hP hD hS (mX12_amiss hg) okX12_amiss wl_X12_219 wi_X12_amiss ws_X12_X12_amiss_X12_amiss ⟨rfl, rfl, Nat.le_of_ble_eq_true rfl, Nat.le_of_ble_eq_true rfl⟩ 12 0 rfl rfl rfl hl.1 (Nat.le_of_ble_eq_true rfl) dX12_told_15 (fun H locs hP hD hS => ?_)
      exact tX12_told_18 X z z4 a1 a2 hf _ _ _ hP hD hS (lv_sub hl [0, 1, 2] rfl)
def fX12_readTold  (S : ms_T) (a1 : Int32) (a2 : Int32) : Option (Int32 × ms_T) :=
  (fX12_told S a1 a2).bind fun z1 =>
  (fX12_must z1.2 (1 : Int32)).bind fun z2 =>
  some (z1.1, z2)
abbrev rmX12_readTold : Room := { frames := 5, cells := 0, slots := 0, locals := 110 }
theorem okX12_readTold : tc_ok yX12_readTold cX12_readTold 4 (some .int) 2 := ⟨wc_X12_readTold, wn_X12, by decide, by decide, by decide +kernel⟩
set_option maxRecDepth 20000 in
theorem mX12_readTold {q : Nat → Nat}  {S : ms_T} {a1 : Int32} {a2 : Int32} {z : Int32 × ms_T}  (hf : fX12_readTold S a1 a2 = some z) : tc_MI l dC dI ca yX12_readTold cX12_readTold 4 (some .int) rmX12_readTold [.ref (q 0), .int (a1), .int (a2)] (w12 ca q S) (w12 ca q z.2) (z.1) := by
  refine tc_metI (own := RX12) (by decide) rfl ?_ (Nat.le_of_ble_eq_true rfl)
  intro p e s m below meth c A X hP hD hS ls hl
  obtain ⟨hx, hb, hr, hml, hown, hts, hlk, hK, hA, hG⟩ := id X
  unfold fX12_readTold at hf
  have hl : lv_has ls 4 [(0, .ref (q 0)), (1, .int (a1)), (2, .int (a2))] := hl
  refine lv_aload_n hx hb dX12_readTold_0 rfl (lv_at hl 0 rfl) ?_
  refine lv_iload_n hx hb dX12_readTold_1 rfl (lv_at hl 1 rfl) ?_
  refine lv_iload_n hx hb dX12_readTold_2 rfl (lv_at hl 2 rfl) ?_
  obtain ⟨z1, hg, hf⟩ := tc_bi hf
  refine tc_iVs (As := [.int (a1), .int (a2)]) (rest := []) (b := q 0) X hP hD hS (mX12_told hg) okX12_told wl_X12_250 wi_X12_told ws_X12_X12_told_X12_told ⟨rfl, rfl, Nat.le_of_ble_eq_true rfl, Nat.le_of_ble_eq_true rfl⟩ 12 0 rfl rfl rfl hl.1 (Nat.le_of_ble_eq_true rfl) dX12_readTold_3 (fun H locs hP hD hS => ?_)
  refine lv_istore_n (lv' := [(3, .int (z1.1)), (0, .ref (q 0)), (1, .int (a1)), (2, .int (a2))]) hx hb dX12_readTold_6 rfl hl (by decide) rfl (fun ls hl => ?_)
  refine lv_aload_n hx hb dX12_readTold_7 rfl (lv_at hl 1 rfl) ?_
  refine lv_iconst (v := (1 : Int32)) hx hb dX12_readTold_8 (by decide) ?_
  obtain ⟨z2, hg, hf⟩ := tc_bi hf
  refine tc_vVs (As := [.int ((1 : Int32))]) (rest := []) (b := q 0) X hP hD hS (mX12_must hg) okX12_must wl_X12_225 wi_X12_must ws_X12_X12_must_X12_must ⟨rfl, rfl, Nat.le_of_ble_eq_true rfl, Nat.le_of_ble_eq_true rfl⟩ 12 0 rfl rfl rfl hl.1 (Nat.le_of_ble_eq_true rfl) dX12_readTold_9 (fun H locs hP hD hS => ?_)
  refine lv_iload_n hx hb dX12_readTold_12 rfl (lv_at hl 0 rfl) ?_
  obtain rfl := Option.some.inj hf
  exact tc_ri X hP hD hS rfl dX12_readTold_13 rfl rfl
def fX12_readOdds_16    (S : ms_T) : Option (ms_T) :=
  (fX12_must (si S 24 (1 : Int32)) (1 : Int32)).bind fun z1 =>
  (fX12_count z1 (0 : Int32) (16 : Int32)).bind fun z2 =>
  if (gi z2.2 12) = 0 then
    some (sa z2.2 5 (1460 : Int32) z2.1)
  else
    some (z2.2)
def fX12_readOdds  (S : ms_T)  : Option (ms_T) :=
  if (gi S 24) = 0 then
    fX12_readOdds_16 S
  else
    (fX12_fail S (5 : Int32) (gi S 15)).bind fun z3 =>
    fX12_readOdds_16 z3
abbrev rmX12_readOdds : Room := { frames := 4, cells := 0, slots := 0, locals := 87 }
theorem okX12_readOdds : tc_ok yX12_readOdds cX12_readOdds 2 none 0 := ⟨wc_X12_readOdds, wn_X12, by decide, by decide, by decide +kernel⟩
set_option maxRecDepth 20000 in
theorem tX12_readOdds_16 {q : Nat → Nat}  (X : tc_X dC dI ca A RX12 cX12_readOdds 2 none p s m args meth c) (z : ms_T)     : ∀ (S : ms_T), fX12_readOdds_16 S = some z → ∀ (H : Heap) (locs : List Loc) (ls : Array Slot), va_P (dC, dI) classes (w12 ca q S) H → va_D A (w12 ca q S) → va_S A s.heap H locs → lv_has ls 2 [(0, .ref (q 0))] → W p l e rmX12_readOdds s m args below meth c H locs 0 0 (MQ below (tc_QV dC dI ca A (w12 ca q z)) args s 0 0 A) (F0 m 16 ls []) := by
  obtain ⟨hx, hb, hr, hml, hown, hts, hlk, hK, hA, hG⟩ := id X
  intro S hf H locs ls hP hD hS hl
  unfold fX12_readOdds_16 at hf
  refine lv_aload_n hx hb dX12_readOdds_16 rfl (lv_at hl 0 rfl) ?_
  refine lv_iconst (v := (1 : Int32)) hx hb dX12_readOdds_17 (by decide) ?_
  refine va_put (D := (dC, dI)) (ci := 12) (v := .int ((1 : Int32))) (ty := .boolean) (C := RX12) (T := TX12) (N := 49) hx hb hts i_X12 tyX12 tyX12_ok nmX12 hown hK hP hD hS 0 rfl rfl 24 (by decide) (hts _ wf_X12_253) (fun _ h9 => h9) rfl (tyX12_ok 24 (by decide)) (tc_nb (by decide)) (tc_fb (by decide)) (Nat.le_of_ble_eq_true rfl) dX12_readOdds_18 (fun H locs hP hD hS => ?_)
  have hP := tc_eP (pw12_0_24 ca q S (1 : Int32)) hP
  have hD := tc_eD (pw12_0_24 ca q S (1 : Int32)) hD
  refine lv_aload_n hx hb dX12_readOdds_21 rfl (lv_at hl 0 rfl) ?_
  refine lv_iconst (v := (1 : Int32)) hx hb dX12_readOdds_22 (by decide) ?_
  obtain ⟨z1, hg, hf⟩ := tc_bi hf
  refine tc_vVs (As := [.int ((1 : Int32))]) (rest := []) (b := q 0) X hP hD hS (mX12_must hg) okX12_must wl_X12_225 wi_X12_must ws_X12_X12_must_X12_must ⟨rfl, rfl, Nat.le_of_ble_eq_true rfl, Nat.le_of_ble_eq_true rfl⟩ 12 0 rfl rfl rfl hl.1 (Nat.le_of_ble_eq_true rfl) dX12_readOdds_23 (fun H locs hP hD hS => ?_)
  refine lv_aload_n hx hb dX12_readOdds_26 rfl (lv_at hl 0 rfl) ?_
  refine lv_iconst (v := (0 : Int32)) hx hb dX12_readOdds_27 (by decide) ?_
  refine lv_bipush (v := (16 : Int32)) hx hb dX12_readOdds_28 (by decide) ?_
  obtain ⟨z2, hg, hf⟩ := tc_bi hf
  refine tc_iVs (As := [.int ((0 : Int32)), .int ((16 : Int32))]) (rest := []) (b := q 0) X hP hD hS (mX12_count hg) okX12_count wl_X12_229 wi_X12_count ws_X12_X12_count_X12_count ⟨rfl, rfl, Nat.le_of_ble_eq_true rfl, Nat.le_of_ble_eq_true rfl⟩ 12 0 rfl rfl rfl hl.1 (Nat.le_of_ble_eq_true rfl) dX12_readOdds_30 (fun H locs hP hD hS => ?_)
  refine lv_istore_n (lv' := [(1, .int (z2.1)), (0, .ref (q 0))]) hx hb dX12_readOdds_33 rfl hl (by decide) rfl (fun ls hl => ?_)
  refine lv_aload_n hx hb dX12_readOdds_34 rfl (lv_at hl 1 rfl) ?_
  refine va_get (D := (dC, dI)) (ci := 12) (v := .int (gi z2.2 12)) (C := RX12) (T := TX12) (N := 49) hx hb hts i_X12 hown hK hP 0 rfl rfl 12 (by decide) (hts _ wf_X12_206) (fun _ h9 => h9) rfl dX12_readOdds_35 ?_
  refine lv_if_ne (tgt := 50) hx hb dX12_readOdds_38 (by decide) (fun hc => ?_) (fun hc => ?_)
  · have hf := tc_neg hc hf
    obtain rfl := Option.some.inj hf
    exact tc_rv X hP hD hS rfl dX12_readOdds_50 rfl
  · have hf := tc_pos hc hf
    refine lv_aload_n hx hb dX12_readOdds_41 rfl (lv_at hl 1 rfl) ?_
    refine va_get (D := (dC, dI)) (ci := 12) (v := .ref (q 5)) (C := RX12) (T := TX12) (N := 49) hx hb hts i_X12 hown hK hP 0 rfl rfl 20 (by decide) (hts _ wf_X12_35) (fun _ h9 => h9) rfl dX12_readOdds_42 ?_
    refine lv_sipush (v := (1460 : Int32)) hx hb dX12_readOdds_45 (by decide) ?_
    refine lv_iload_n hx hb dX12_readOdds_48 rfl (lv_at hl 0 rfl) ?_
    refine va_iast hx hb hK hP hD hS 5 1 rfl rfl (inb_vp (by decide)) dX12_readOdds_49 (fun H locs hP hD hS => ?_)
    have hP := tc_eP (aw12_0_5 ca q z2.2 (1460 : Int32) z2.1) hP
    have hD := tc_eD (aw12_0_5 ca q z2.2 (1460 : Int32) z2.1) hD
    obtain rfl := Option.some.inj hf
    exact tc_rv X hP hD hS rfl dX12_readOdds_50 rfl
set_option maxRecDepth 20000 in
theorem mX12_readOdds {q : Nat → Nat}  {S : ms_T}  {z : ms_T}  (hf : fX12_readOdds S = some z) : tc_MV l dC dI ca yX12_readOdds cX12_readOdds 2 none rmX12_readOdds [.ref (q 0)] (w12 ca q S) (w12 ca q z) := by
  refine tc_metV (own := RX12) (by decide) rfl ?_ (Nat.le_of_ble_eq_true rfl)
  intro p e s m below meth c A X hP hD hS ls hl
  obtain ⟨hx, hb, hr, hml, hown, hts, hlk, hK, hA, hG⟩ := id X
  unfold fX12_readOdds at hf
  have hl : lv_has ls 2 [(0, .ref (q 0))] := hl
  refine lv_aload_n hx hb dX12_readOdds_0 rfl (lv_at hl 0 rfl) ?_
  refine va_get (D := (dC, dI)) (ci := 12) (v := .int (gi S 24)) (C := RX12) (T := TX12) (N := 49) hx hb hts i_X12 hown hK hP 0 rfl rfl 24 (by decide) (hts _ wf_X12_253) (fun _ h9 => h9) rfl dX12_readOdds_1 ?_
  refine lv_if_eq (tgt := 16) hx hb dX12_readOdds_4 (by decide) (fun hc => ?_) (fun hc => ?_)
  · have hf := tc_pos hc hf
    exact tX12_readOdds_16 X z S hf _ _ _ hP hD hS (lv_sub hl [0] rfl)
  · have hf := tc_neg hc hf
    refine lv_aload_n hx hb dX12_readOdds_7 rfl (lv_at hl 0 rfl) ?_
    refine lv_iconst (v := (5 : Int32)) hx hb dX12_readOdds_8 (by decide) ?_
    refine lv_aload_n hx hb dX12_readOdds_9 rfl (lv_at hl 0 rfl) ?_
    refine va_get (D := (dC, dI)) (ci := 12) (v := .int (gi S 15)) (C := RX12) (T := TX12) (N := 49) hx hb hts i_X12 hown hK hP 0 rfl rfl 15 (by decide) (hts _ wf_X12_112) (fun _ h9 => h9) rfl dX12_readOdds_10 ?_
    obtain ⟨z3, hg, hf⟩ := tc_bi hf
    refine tc_vVs (As := [.int ((5 : Int32)), .int (gi S 15)]) (rest := []) (b := q 0) X hP hD hS (mX12_fail hg) okX12_fail wl_X12_212 wi_X12_fail ws_X12_X12_fail_X12_fail ⟨rfl, rfl, Nat.le_of_ble_eq_true rfl, Nat.le_of_ble_eq_true rfl⟩ 12 0 rfl rfl rfl hl.1 (Nat.le_of_ble_eq_true rfl) dX12_readOdds_13 (fun H locs hP hD hS => ?_)
    exact tX12_readOdds_16 X z z3 hf _ _ _ hP hD hS (lv_sub hl [0] rfl)
end G
