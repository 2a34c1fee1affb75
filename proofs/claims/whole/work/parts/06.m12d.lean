section G
variable {p : Program} {l : Launch} {e : Env} {s : State} {m : MethodId} {args : Array Value} {below : List Frame} {meth : Method} {c : Code} {dC : Nat → ClassId} {dI : Nat → Nat → Nat} {ca : Nat → ClassId} {A : Nat → Prop}
def fX12_plays_169 (rc : ms_T → Int32 → Int32 → Int32 → Int32 → Option (Int32 × ms_T))  (k95 : ms_T → Int32 → Int32 → Int32 → Int32 → Int32 → Int32 → Int32 → Int32 → Int32 → Int32 → Int32 → Option (Int32 × ms_T)) (S : ms_T) (v1 : Int32) (v2 : Int32) (v3 : Int32) (v4 : Int32) (v5 : Int32) (v6 : Int32) (v7 : Int32) (v8 : Int32) (v9 : Int32) (v10 : Int32) (v11 : Int32) : Option (Int32 × ms_T) :=
  (rc S v1 v2 (v3 + (1 : Int32)) v4).bind fun z4 =>
  if inb ((54 : Int32) + v6) 1820 = true then
    if v10 < 0 then
      k95 (sa z4.2 5 ((54 : Int32) + v6) v7) v1 v2 v3 v4 v5 v6 v7 v8 z4.1 v11 (v11 + (1 : Int32))
    else
      if v5 = 0 then
        if z4.1 < v9 then
          k95 (sa z4.2 5 ((54 : Int32) + v6) v7) v1 v2 v3 v4 v5 v6 v7 v8 z4.1 v11 (v11 + (1 : Int32))
        else
          k95 (sa z4.2 5 ((54 : Int32) + v6) v7) v1 v2 v3 v4 v5 v6 v7 v8 v9 v10 (v11 + (1 : Int32))
      else
        if v9 < z4.1 then
          k95 (sa z4.2 5 ((54 : Int32) + v6) v7) v1 v2 v3 v4 v5 v6 v7 v8 z4.1 v11 (v11 + (1 : Int32))
        else
          k95 (sa z4.2 5 ((54 : Int32) + v6) v7) v1 v2 v3 v4 v5 v6 v7 v8 v9 v10 (v11 + (1 : Int32))
  else none
def fX12_plays_142 (rc : ms_T → Int32 → Int32 → Int32 → Int32 → Option (Int32 × ms_T))  (k95 : ms_T → Int32 → Int32 → Int32 → Int32 → Int32 → Int32 → Int32 → Int32 → Int32 → Int32 → Int32 → Option (Int32 × ms_T)) (S : ms_T) (v1 : Int32) (v2 : Int32) (v3 : Int32) (v4 : Int32) (v5 : Int32) (v6 : Int32) (v7 : Int32) (v8 : Int32) (v9 : Int32) (v10 : Int32) (v11 : Int32) (v12 : Int32) : Option (Int32 × ms_T) :=
  if v12 = 0 then
    if inb ((24 : Int32) + v11) 1820 = true then
      if inb ((54 : Int32) + v6) 1820 = true then
        fX12_plays_169 rc k95 (sa S 5 ((54 : Int32) + v6) ((ia S 5 ((24 : Int32) + v11)) + (1 : Int32))) v1 v2 v3 v4 v5 v6 v7 v8 v9 v10 v11
      else none
    else none
  else
    fX12_plays_169 rc k95 S v1 v2 v3 v4 v5 v6 v7 v8 v9 v10 v11
def fX12_plays_122 (rc : ms_T → Int32 → Int32 → Int32 → Int32 → Option (Int32 × ms_T))  (k95 : ms_T → Int32 → Int32 → Int32 → Int32 → Int32 → Int32 → Int32 → Int32 → Int32 → Int32 → Int32 → Option (Int32 × ms_T)) (S : ms_T) (v1 : Int32) (v2 : Int32) (v3 : Int32) (v4 : Int32) (v5 : Int32) (v6 : Int32) (v7 : Int32) (v8 : Int32) (v9 : Int32) (v10 : Int32) (v11 : Int32) (t0 : Int32) : Option (Int32 × ms_T) :=
  if t0 = 0 then
    (fX12_has v8 v11).bind fun z8 =>
    if z8 = 0 then
      k95 S v1 v2 v3 v4 v5 v6 v7 v8 v9 v10 (v11 + (1 : Int32))
    else
      fX12_plays_142 rc k95 S v1 v2 v3 v4 v5 v6 v7 v8 v9 v10 v11 t0
  else
    fX12_plays_142 rc k95 S v1 v2 v3 v4 v5 v6 v7 v8 v9 v10 v11 t0
def fX12_plays_95 (rc : ms_T → Int32 → Int32 → Int32 → Int32 → Option (Int32 × ms_T))   : Nat → ms_T → Int32 → Int32 → Int32 → Int32 → Int32 → Int32 → Int32 → Int32 → Int32 → Int32 → Int32 → Option (Int32 × ms_T)
  | 0, _, _, _, _, _, _, _, _, _, _, _, _ => none
  | n + 1, S, v1, v2, v3, v4, v5, v6, v7, v8, v9, v10, v11 =>
    if (ia S 5 (1 : Int32)) < v11 then
      if v3 = 0 then
        some (v9, si S 38 v10)
      else
        some (v9, S)
    else
      if v11 = (ia S 5 (1 : Int32)) then
        fX12_plays_122 rc (fX12_plays_95 rc n) S v1 v2 v3 v4 v5 v6 v7 v8 v9 v10 v11 (1 : Int32)
      else
        fX12_plays_122 rc (fX12_plays_95 rc n) S v1 v2 v3 v4 v5 v6 v7 v8 v9 v10 v11 (0 : Int32)
def fX12_plays_57 (rc : ms_T → Int32 → Int32 → Int32 → Int32 → Option (Int32 × ms_T))   (S : ms_T) (v1 : Int32) (v2 : Int32) (v3 : Int32) (v4 : Int32) (v5 : Int32) (t0 : Int32) : Option (Int32 × ms_T) :=
  if inb ((54 : Int32) + t0) 1820 = true then
    (fX12_sayable S t0).bind fun z2 =>
    (fX12_standing S (0 : Int32) (0 : Int32)).bind fun z3 =>
    fX12_plays_95 rc FU S v1 v2 v3 v4 v5 t0 (ia S 5 ((54 : Int32) + t0)) (z2 &&& z3) (0 : Int32) (-1 : Int32) (0 : Int32)
  else none
def fX12_plays_0 (rc : ms_T → Int32 → Int32 → Int32 → Int32 → Option (Int32 × ms_T)) (S : ms_T) (a1 : Int32) (a2 : Int32) (a3 : Int32) (a4 : Int32) : Option (Int32 × ms_T) :=
  if a3 = a4 then
    if inb ((54 : Int32) + a1) 1820 = true then
      (fX12_worthAt S (ia S 5 ((54 : Int32) + a1))).bind fun z10 =>
      if inb ((54 : Int32) + a2) 1820 = true then
        (fX12_worthAt S (ia S 5 ((54 : Int32) + a2))).bind fun z12 =>
        some (z10 - z12, S)
      else none
    else none
  else
    if (a3 - a3 / (2 : Int32) * (2 : Int32)) = 0 then
      if (1 : Int32) = 0 then
        fX12_plays_57 rc S a1 a2 a3 a4 (1 : Int32) a2
      else
        fX12_plays_57 rc S a1 a2 a3 a4 (1 : Int32) a1
    else
      if (0 : Int32) = 0 then
        fX12_plays_57 rc S a1 a2 a3 a4 (0 : Int32) a2
      else
        fX12_plays_57 rc S a1 a2 a3 a4 (0 : Int32) a1
def fX12_plays : Nat → ms_T → Int32 → Int32 → Int32 → Int32 → Option (Int32 × ms_T)
  | 0, _, _, _, _, _ => none
  | d + 1, S, a1, a2, a3, a4 => fX12_plays_0 (fX12_plays d) S a1 a2 a3 a4
abbrev rmX12_plays (d : Nat) : Room := { frames := 3 + d, cells := 0, slots := 0, locals := 68 + d * 33 }
theorem okX12_plays : tc_ok yX12_plays cX12_plays 14 (some .int) 4 := ⟨wc_X12_plays, wn_X12, by decide, by decide, by decide +kernel⟩
set_option maxRecDepth 20000 in
theorem tX12_plays_169 {d : Nat} {q : Nat → Nat}  (X : tc_X dC dI ca A RX12 cX12_plays 14 (some .int) p s m args meth c) (z : Int32 × ms_T) (rc : ms_T → Int32 → Int32 → Int32 → Int32 → Option (Int32 × ms_T)) (hrc : ∀ {S : ms_T} {a1 : Int32} {a2 : Int32} {a3 : Int32} {a4 : Int32} {z : Int32 × ms_T}, rc S a1 a2 a3 a4 = some z → tc_MI l dC dI ca yX12_plays cX12_plays 14 (some .int) (rmX12_plays d) [.ref (q 0), .int (a1), .int (a2), .int (a3), .int (a4)] (w12 ca q S) (w12 ca q z.2) (z.1))  (k95 : ms_T → Int32 → Int32 → Int32 → Int32 → Int32 → Int32 → Int32 → Int32 → Int32 → Int32 → Int32 → Option (Int32 × ms_T)) (hk95 : ∀ (S : ms_T) (v1 : Int32) (v2 : Int32) (v3 : Int32) (v4 : Int32) (v5 : Int32) (v6 : Int32) (v7 : Int32) (v8 : Int32) (v9 : Int32) (v10 : Int32) (v11 : Int32), k95 S v1 v2 v3 v4 v5 v6 v7 v8 v9 v10 v11 = some z → ∀ (H : Heap) (locs : List Loc) (ls : Array Slot), va_P (dC, dI) classes (w12 ca q S) H → va_D A (w12 ca q S) → va_S A s.heap H locs → lv_has ls 14 [(0, .ref (q 0)), (1, .int (v1)), (2, .int (v2)), (3, .int (v3)), (4, .int (v4)), (5, .int (v5)), (6, .int (v6)), (7, .int (v7)), (8, .int (v8)), (9, .int (v9)), (10, .int (v10)), (11, .int (v11))] → W p l e (rmX12_plays (d + 1)) s m args below meth c H locs 0 0 (MQ below (tc_QI dC dI ca A (w12 ca q z.2) (z.1)) args s 0 0 A) (F0 m 95 ls [])) : ∀ (S : ms_T) (v1 : Int32) (v2 : Int32) (v3 : Int32) (v4 : Int32) (v5 : Int32) (v6 : Int32) (v7 : Int32) (v8 : Int32) (v9 : Int32) (v10 : Int32) (v11 : Int32), fX12_plays_169 rc k95 S v1 v2 v3 v4 v5 v6 v7 v8 v9 v10 v11 = some z → ∀ (H : Heap) (locs : List Loc) (ls : Array Slot), va_P (dC, dI) classes (w12 ca q S) H → va_D A (w12 ca q S) → va_S A s.heap H locs → lv_has ls 14 [(0, .ref (q 0)), (1, .int (v1)), (2, .int (v2)), (3, .int (v3)), (4, .int (v4)), (5, .int (v5)), (6, .int (v6)), (7, .int (v7)), (8, .int (v8)), (9, .int (v9)), (10, .int (v10)), (11, .int (v11))] → W p l e (rmX12_plays (d + 1)) s m args below meth c H locs 0 0 (MQ below (tc_QI dC dI ca A (w12 ca q z.2) (z.1)) args s 0 0 A) (F0 m 169 ls []) := by
  obtain ⟨hx, hb, hr, hml, hown, hts, hlk, hK, hA, hG⟩ := id X
  intro S v1 v2 v3 v4 v5 v6 v7 v8 v9 v10 v11 hf H locs ls hP hD hS hl
  unfold fX12_plays_169 at hf
  refine lv_aload_n hx hb dX12_plays_169 rfl (lv_at hl 0 rfl) ?_
  refine lv_iload_n hx hb dX12_plays_170 rfl (lv_at hl 1 rfl) ?_
  refine lv_iload_n hx hb dX12_plays_171 rfl (lv_at hl 2 rfl) ?_
  refine lv_iload_n hx hb dX12_plays_172 rfl (lv_at hl 3 rfl) ?_
  refine lv_iconst (v := (1 : Int32)) hx hb dX12_plays_173 (by decide) ?_
  refine lv_iadd hx hb dX12_plays_174 ?_
  refine lv_iload hx hb dX12_plays_175 (lv_at hl 4 rfl) ?_
  obtain ⟨z4, hg, hf⟩ := tc_bi hf
  refine tc_iVs (As := [.int (v1), .int (v2), .int (v3 + (1 : Int32)), .int (v4)]) (rest := []) (b := q 0) X hP hD hS (hrc hg) okX12_plays wl_X12_503 wi_X12_plays ws_X12_X12_plays_X12_plays ⟨rfl, rfl, (by show (3 + d) + 1 ≤ 3 + (d + 1); omega), (by show 8 + (14 + 11) + (68 + d * 33) ≤ 68 + (d + 1) * 33; omega)⟩ 12 0 rfl rfl rfl hl.1 (Nat.le_of_ble_eq_true rfl) dX12_plays_177 (fun H locs hP hD hS => ?_)
  refine lv_istore (lv' := [(13, .int (z4.1)), (0, .ref (q 0)), (1, .int (v1)), (2, .int (v2)), (3, .int (v3)), (4, .int (v4)), (5, .int (v5)), (6, .int (v6)), (7, .int (v7)), (8, .int (v8)), (9, .int (v9)), (10, .int (v10)), (11, .int (v11))]) hx hb dX12_plays_180 hl (by decide) rfl (fun ls hl => ?_)
  refine lv_aload_n hx hb dX12_plays_182 rfl (lv_at hl 1 rfl) ?_
  refine va_get (D := (dC, dI)) (ci := 12) (v := .ref (q 5)) (C := RX12) (T := TX12) (N := 49) hx hb hts i_X12 hown hK hP 0 rfl rfl 20 (by decide) (hts _ wf_X12_35) (fun _ h9 => h9) rfl dX12_plays_183 ?_
  refine lv_bipush (v := (54 : Int32)) hx hb dX12_plays_186 (by decide) ?_
  refine lv_iload hx hb dX12_plays_188 (lv_at hl 7 rfl) ?_
  refine lv_iadd hx hb dX12_plays_190 ?_
  refine lv_iload hx hb dX12_plays_191 (lv_at hl 8 rfl) ?_
  obtain ⟨hi5, hf⟩ := tc_in hf
  refine va_iast hx hb hK hP hD hS 5 1 rfl rfl hi5 dX12_plays_193 (fun H locs hP hD hS => ?_)
  have hP := tc_eP (aw12_0_5 ca q z4.2 ((54 : Int32) + v6) v7) hP
  have hD := tc_eD (aw12_0_5 ca q z4.2 ((54 : Int32) + v6) v7) hD
  refine lv_iload hx hb dX12_plays_194 (lv_at hl 11 rfl) ?_
  refine lv_if_lt (tgt := 224) hx hb dX12_plays_196 (by decide) (fun hc => ?_) (fun hc => ?_)
  · have hf := tc_pos hc hf
    refine lv_iload hx hb dX12_plays_224 (lv_at hl 0 rfl) ?_
    refine lv_istore (lv' := [(9, .int (z4.1)), (13, .int (z4.1)), (0, .ref (q 0)), (1, .int (v1)), (2, .int (v2)), (3, .int (v3)), (4, .int (v4)), (5, .int (v5)), (6, .int (v6)), (7, .int (v7)), (8, .int (v8)), (10, .int (v10)), (11, .int (v11))]) hx hb dX12_plays_226 hl (by decide) rfl (fun ls hl => ?_)
    refine lv_iload hx hb dX12_plays_228 (lv_at hl 12 rfl) ?_
    refine lv_istore (lv' := [(10, .int (v11)), (9, .int (z4.1)), (13, .int (z4.1)), (0, .ref (q 0)), (1, .int (v1)), (2, .int (v2)), (3, .int (v3)), (4, .int (v4)), (5, .int (v5)), (6, .int (v6)), (7, .int (v7)), (8, .int (v8)), (11, .int (v11))]) hx hb dX12_plays_230 hl (by decide) rfl (fun ls hl => ?_)
    refine lv_iinc (v := v11 + (1 : Int32)) (lv' := [(11, .int (v11 + (1 : Int32))), (10, .int (v11)), (9, .int (z4.1)), (13, .int (z4.1)), (0, .ref (q 0)), (1, .int (v1)), (2, .int (v2)), (3, .int (v3)), (4, .int (v4)), (5, .int (v5)), (6, .int (v6)), (7, .int (v7)), (8, .int (v8))]) hx hb dX12_plays_232 hl (k := 12) rfl rfl (by decide) rfl (fun ls hl => ?_)
    refine lv_goto (tgt := 95) hx hb dX12_plays_235 (by decide) ?_
    exact hk95 (sa z4.2 5 ((54 : Int32) + v6) v7) v1 v2 v3 v4 v5 v6 v7 v8 z4.1 v11 (v11 + (1 : Int32)) hf _ _ _ hP hD hS (lv_sub hl [4, 5, 6, 7, 8, 9, 10, 11, 12, 2, 1, 0] rfl)
  · have hf := tc_neg hc hf
    refine lv_iload hx hb dX12_plays_199 (lv_at hl 6 rfl) ?_
    refine lv_if_eq (tgt := 214) hx hb dX12_plays_201 (by decide) (fun hc => ?_) (fun hc => ?_)
    · have hf := tc_pos hc hf
      refine lv_iload hx hb dX12_plays_214 (lv_at hl 0 rfl) ?_
      refine lv_iload hx hb dX12_plays_216 (lv_at hl 10 rfl) ?_
      refine lv_icmp_lt (tgt := 224) hx hb dX12_plays_218 (by decide) (fun hc => ?_) (fun hc => ?_)
      · have hf := tc_pos hc hf
        refine lv_iload hx hb dX12_plays_224 (lv_at hl 0 rfl) ?_
        refine lv_istore (lv' := [(9, .int (z4.1)), (13, .int (z4.1)), (0, .ref (q 0)), (1, .int (v1)), (2, .int (v2)), (3, .int (v3)), (4, .int (v4)), (5, .int (v5)), (6, .int (v6)), (7, .int (v7)), (8, .int (v8)), (10, .int (v10)), (11, .int (v11))]) hx hb dX12_plays_226 hl (by decide) rfl (fun ls hl => ?_)
        refine lv_iload hx hb dX12_plays_228 (lv_at hl 12 rfl) ?_
        refine lv_istore (lv' := [(10, .int (v11)), (9, .int (z4.1)), (13, .int (z4.1)), (0, .ref (q 0)), (1, .int (v1)), (2, .int (v2)), (3, .int (v3)), (4, .int (v4)), (5, .int (v5)), (6, .int (v6)), (7, .int (v7)), (8, .int (v8)), (11, .int (v11))]) hx hb dX12_plays_230 hl (by decide) rfl (fun ls hl => ?_)
        refine lv_iinc (v := v11 + (1 : Int32)) (lv' := [(11, .int (v11 + (1 : Int32))), (10, .int (v11)), (9, .int (z4.1)), (13, .int (z4.1)), (0, .ref (q 0)), (1, .int (v1)), (2, .int (v2)), (3, .int (v3)), (4, .int (v4)), (5, .int (v5)), (6, .int (v6)), (7, .int (v7)), (8, .int (v8))]) hx hb dX12_plays_232 hl (k := 12) rfl rfl (by decide) rfl (fun ls hl => ?_)
        refine lv_goto (tgt := 95) hx hb dX12_plays_235 (by decide) ?_
        exact hk95 (sa z4.2 5 ((54 : Int32) + v6) v7) v1 v2 v3 v4 v5 v6 v7 v8 z4.1 v11 (v11 + (1 : Int32)) hf _ _ _ hP hD hS (lv_sub hl [4, 5, 6, 7, 8, 9, 10, 11, 12, 2, 1, 0] rfl)
      · have hf := tc_neg hc hf
        refine lv_goto (tgt := 232) hx hb dX12_plays_221 (by decide) ?_
        refine lv_iinc (v := v11 + (1 : Int32)) (lv' := [(11, .int (v11 + (1 : Int32))), (13, .int (z4.1)), (0, .ref (q 0)), (1, .int (v1)), (2, .int (v2)), (3, .int (v3)), (4, .int (v4)), (5, .int (v5)), (6, .int (v6)), (7, .int (v7)), (8, .int (v8)), (9, .int (v9)), (10, .int (v10))]) hx hb dX12_plays_232 hl (k := 12) rfl rfl (by decide) rfl (fun ls hl => ?_)
        refine lv_goto (tgt := 95) hx hb dX12_plays_235 (by decide) ?_
        exact hk95 (sa z4.2 5 ((54 : Int32) + v6) v7) v1 v2 v3 v4 v5 v6 v7 v8 v9 v10 (v11 + (1 : Int32)) hf _ _ _ hP hD hS (lv_sub hl [2, 3, 4, 5, 6, 7, 8, 9, 10, 11, 12, 0] rfl)
    · have hf := tc_neg hc hf
      refine lv_iload hx hb dX12_plays_204 (lv_at hl 0 rfl) ?_
      refine lv_iload hx hb dX12_plays_206 (lv_at hl 10 rfl) ?_
      refine lv_icmp_gt (tgt := 224) hx hb dX12_plays_208 (by decide) (fun hc => ?_) (fun hc => ?_)
      · have hf := tc_pos hc hf
        refine lv_iload hx hb dX12_plays_224 (lv_at hl 0 rfl) ?_
        refine lv_istore (lv' := [(9, .int (z4.1)), (13, .int (z4.1)), (0, .ref (q 0)), (1, .int (v1)), (2, .int (v2)), (3, .int (v3)), (4, .int (v4)), (5, .int (v5)), (6, .int (v6)), (7, .int (v7)), (8, .int (v8)), (10, .int (v10)), (11, .int (v11))]) hx hb dX12_plays_226 hl (by decide) rfl (fun ls hl => ?_)
        refine lv_iload hx hb dX12_plays_228 (lv_at hl 12 rfl) ?_
        refine lv_istore (lv' := [(10, .int (v11)), (9, .int (z4.1)), (13, .int (z4.1)), (0, .ref (q 0)), (1, .int (v1)), (2, .int (v2)), (3, .int (v3)), (4, .int (v4)), (5, .int (v5)), (6, .int (v6)), (7, .int (v7)), (8, .int (v8)), (11, .int (v11))]) hx hb dX12_plays_230 hl (by decide) rfl (fun ls hl => ?_)
        refine lv_iinc (v := v11 + (1 : Int32)) (lv' := [(11, .int (v11 + (1 : Int32))), (10, .int (v11)), (9, .int (z4.1)), (13, .int (z4.1)), (0, .ref (q 0)), (1, .int (v1)), (2, .int (v2)), (3, .int (v3)), (4, .int (v4)), (5, .int (v5)), (6, .int (v6)), (7, .int (v7)), (8, .int (v8))]) hx hb dX12_plays_232 hl (k := 12) rfl rfl (by decide) rfl (fun ls hl => ?_)
        refine lv_goto (tgt := 95) hx hb dX12_plays_235 (by decide) ?_
        exact hk95 (sa z4.2 5 ((54 : Int32) + v6) v7) v1 v2 v3 v4 v5 v6 v7 v8 z4.1 v11 (v11 + (1 : Int32)) hf _ _ _ hP hD hS (lv_sub hl [4, 5, 6, 7, 8, 9, 10, 11, 12, 2, 1, 0] rfl)
      · have hf := tc_neg hc hf
        refine lv_goto (tgt := 232) hx hb dX12_plays_211 (by decide) ?_
        refine lv_iinc (v := v11 + (1 : Int32)) (lv' := [(11, .int (v11 + (1 : Int32))), (13, .int (z4.1)), (0, .ref (q 0)), (1, .int (v1)), (2, .int (v2)), (3, .int (v3)), (4, .int (v4)), (5, .int (v5)), (6, .int (v6)), (7, .int (v7)), (8, .int (v8)), (9, .int (v9)), (10, .int (v10))]) hx hb dX12_plays_232 hl (k := 12) rfl rfl (by decide) rfl (fun ls hl => ?_)
        refine lv_goto (tgt := 95) hx hb dX12_plays_235 (by decide) ?_
        exact hk95 (sa z4.2 5 ((54 : Int32) + v6) v7) v1 v2 v3 v4 v5 v6 v7 v8 v9 v10 (v11 + (1 : Int32)) hf _ _ _ hP hD hS (lv_sub hl [2, 3, 4, 5, 6, 7, 8, 9, 10, 11, 12, 0] rfl)
set_option maxRecDepth 20000 in
theorem tX12_plays_142 {d : Nat} {q : Nat → Nat}  (X : tc_X dC dI ca A RX12 cX12_plays 14 (some .int) p s m args meth c) (z : Int32 × ms_T) (rc : ms_T → Int32 → Int32 → Int32 → Int32 → Option (Int32 × ms_T)) (hrc : ∀ {S : ms_T} {a1 : Int32} {a2 : Int32} {a3 : Int32} {a4 : Int32} {z : Int32 × ms_T}, rc S a1 a2 a3 a4 = some z → tc_MI l dC dI ca yX12_plays cX12_plays 14 (some .int) (rmX12_plays d) [.ref (q 0), .int (a1), .int (a2), .int (a3), .int (a4)] (w12 ca q S) (w12 ca q z.2) (z.1))  (k95 : ms_T → Int32 → Int32 → Int32 → Int32 → Int32 → Int32 → Int32 → Int32 → Int32 → Int32 → Int32 → Option (Int32 × ms_T)) (hk95 : ∀ (S : ms_T) (v1 : Int32) (v2 : Int32) (v3 : Int32) (v4 : Int32) (v5 : Int32) (v6 : Int32) (v7 : Int32) (v8 : Int32) (v9 : Int32) (v10 : Int32) (v11 : Int32), k95 S v1 v2 v3 v4 v5 v6 v7 v8 v9 v10 v11 = some z → ∀ (H : Heap) (locs : List Loc) (ls : Array Slot), va_P (dC, dI) classes (w12 ca q S) H → va_D A (w12 ca q S) → va_S A s.heap H locs → lv_has ls 14 [(0, .ref (q 0)), (1, .int (v1)), (2, .int (v2)), (3, .int (v3)), (4, .int (v4)), (5, .int (v5)), (6, .int (v6)), (7, .int (v7)), (8, .int (v8)), (9, .int (v9)), (10, .int (v10)), (11, .int (v11))] → W p l e (rmX12_plays (d + 1)) s m args below meth c H locs 0 0 (MQ below (tc_QI dC dI ca A (w12 ca q z.2) (z.1)) args s 0 0 A) (F0 m 95 ls [])) : ∀ (S : ms_T) (v1 : Int32) (v2 : Int32) (v3 : Int32) (v4 : Int32) (v5 : Int32) (v6 : Int32) (v7 : Int32) (v8 : Int32) (v9 : Int32) (v10 : Int32) (v11 : Int32) (v12 : Int32), fX12_plays_142 rc k95 S v1 v2 v3 v4 v5 v6 v7 v8 v9 v10 v11 v12 = some z → ∀ (H : Heap) (locs : List Loc) (ls : Array Slot), va_P (dC, dI) classes (w12 ca q S) H → va_D A (w12 ca q S) → va_S A s.heap H locs → lv_has ls 14 [(0, .ref (q 0)), (1, .int (v1)), (2, .int (v2)), (3, .int (v3)), (4, .int (v4)), (5, .int (v5)), (6, .int (v6)), (7, .int (v7)), (8, .int (v8)), (9, .int (v9)), (10, .int (v10)), (11, .int (v11)), (12, .int (v12))] → W p l e (rmX12_plays (d + 1)) s m args below meth c H locs 0 0 (MQ below (tc_QI dC dI ca A (w12 ca q z.2) (z.1)) args s 0 0 A) (F0 m 142 ls []) := by
  obtain ⟨hx, hb, hr, hml, hown, hts, hlk, hK, hA, hG⟩ := id X
  intro S v1 v2 v3 v4 v5 v6 v7 v8 v9 v10 v11 v12 hf H locs ls hP hD hS hl
  unfold fX12_plays_142 at hf
  refine lv_iload hx hb dX12_plays_142 (lv_at hl 12 rfl) ?_
  refine lv_if_ne (tgt := 169) hx hb dX12_plays_144 (by decide) (fun hc => ?_) (fun hc => ?_)
  · have hf := tc_neg hc hf
    exact tX12_plays_169 X z rc hrc k95 hk95 S v1 v2 v3 v4 v5 v6 v7 v8 v9 v10 v11 hf _ _ _ hP hD hS (lv_sub hl [0, 1, 2, 3, 4, 5, 6, 7, 8, 9, 10, 11] rfl)
  · have hf := tc_pos hc hf
    refine lv_aload_n hx hb dX12_plays_147 rfl (lv_at hl 0 rfl) ?_
    refine va_get (D := (dC, dI)) (ci := 12) (v := .ref (q 5)) (C := RX12) (T := TX12) (N := 49) hx hb hts i_X12 hown hK hP 0 rfl rfl 20 (by decide) (hts _ wf_X12_35) (fun _ h9 => h9) rfl dX12_plays_148 ?_
    refine lv_bipush (v := (54 : Int32)) hx hb dX12_plays_151 (by decide) ?_
    refine lv_iload hx hb dX12_plays_153 (lv_at hl 6 rfl) ?_
    refine lv_iadd hx hb dX12_plays_155 ?_
    refine lv_aload_n hx hb dX12_plays_156 rfl (lv_at hl 0 rfl) ?_
    refine va_get (D := (dC, dI)) (ci := 12) (v := .ref (q 5)) (C := RX12) (T := TX12) (N := 49) hx hb hts i_X12 hown hK hP 0 rfl rfl 20 (by decide) (hts _ wf_X12_35) (fun _ h9 => h9) rfl dX12_plays_157 ?_
    refine lv_bipush (v := (24 : Int32)) hx hb dX12_plays_160 (by decide) ?_
    refine lv_iload hx hb dX12_plays_162 (lv_at hl 11 rfl) ?_
    refine lv_iadd hx hb dX12_plays_164 ?_
    obtain ⟨hi6, hf⟩ := tc_in hf
    refine va_iald hx hb hK hP 5 1 rfl rfl hi6 dX12_plays_165 ?_
    refine lv_iconst (v := (1 : Int32)) hx hb dX12_plays_166 (by decide) ?_
    refine lv_iadd hx hb dX12_plays_167 ?_
    obtain ⟨hi7, hf⟩ := tc_in hf
    refine va_iast hx hb hK hP hD hS 5 1 rfl rfl hi7 dX12_plays_168 (fun H locs hP hD hS => ?_)
    have hP := tc_eP (aw12_0_5 ca q S ((54 : Int32) + v6) ((ia S 5 ((24 : Int32) + v11)) + (1 : Int32))) hP
    have hD := tc_eD (aw12_0_5 ca q S ((54 : Int32) + v6) ((ia S 5 ((24 : Int32) + v11)) + (1 : Int32))) hD
    exact tX12_plays_169 X z rc hrc k95 hk95 (sa S 5 ((54 : Int32) + v6) ((ia S 5 ((24 : Int32) + v11)) + (1 : Int32))) v1 v2 v3 v4 v5 v6 v7 v8 v9 v10 v11 hf _ _ _ hP hD hS (lv_sub hl [0, 1, 2, 3, 4, 5, 6, 7, 8, 9, 10, 11] rfl)
set_option maxRecDepth 20000 in
theorem tX12_plays_122 {d : Nat} {q : Nat → Nat}  (X : tc_X dC dI ca A RX12 cX12_plays 14 (some .int) p s m args meth c) (z : Int32 × ms_T) (rc : ms_T → Int32 → Int32 → Int32 → Int32 → Option (Int32 × ms_T)) (hrc : ∀ {S : ms_T} {a1 : Int32} {a2 : Int32} {a3 : Int32} {a4 : Int32} {z : Int32 × ms_T}, rc S a1 a2 a3 a4 = some z → tc_MI l dC dI ca yX12_plays cX12_plays 14 (some .int) (rmX12_plays d) [.ref (q 0), .int (a1), .int (a2), .int (a3), .int (a4)] (w12 ca q S) (w12 ca q z.2) (z.1))  (k95 : ms_T → Int32 → Int32 → Int32 → Int32 → Int32 → Int32 → Int32 → Int32 → Int32 → Int32 → Int32 → Option (Int32 × ms_T)) (hk95 : ∀ (S : ms_T) (v1 : Int32) (v2 : Int32) (v3 : Int32) (v4 : Int32) (v5 : Int32) (v6 : Int32) (v7 : Int32) (v8 : Int32) (v9 : Int32) (v10 : Int32) (v11 : Int32), k95 S v1 v2 v3 v4 v5 v6 v7 v8 v9 v10 v11 = some z → ∀ (H : Heap) (locs : List Loc) (ls : Array Slot), va_P (dC, dI) classes (w12 ca q S) H → va_D A (w12 ca q S) → va_S A s.heap H locs → lv_has ls 14 [(0, .ref (q 0)), (1, .int (v1)), (2, .int (v2)), (3, .int (v3)), (4, .int (v4)), (5, .int (v5)), (6, .int (v6)), (7, .int (v7)), (8, .int (v8)), (9, .int (v9)), (10, .int (v10)), (11, .int (v11))] → W p l e (rmX12_plays (d + 1)) s m args below meth c H locs 0 0 (MQ below (tc_QI dC dI ca A (w12 ca q z.2) (z.1)) args s 0 0 A) (F0 m 95 ls [])) : ∀ (S : ms_T) (v1 : Int32) (v2 : Int32) (v3 : Int32) (v4 : Int32) (v5 : Int32) (v6 : Int32) (v7 : Int32) (v8 : Int32) (v9 : Int32) (v10 : Int32) (v11 : Int32) (t0 : Int32), fX12_plays_122 rc k95 S v1 v2 v3 v4 v5 v6 v7 v8 v9 v10 v11 t0 = some z → ∀ (H : Heap) (locs : List Loc) (ls : Array Slot), va_P (dC, dI) classes (w12 ca q S) H → va_D A (w12 ca q S) → va_S A s.heap H locs → lv_has ls 14 [(0, .ref (q 0)), (1, .int (v1)), (2, .int (v2)), (3, .int (v3)), (4, .int (v4)), (5, .int (v5)), (6, .int (v6)), (7, .int (v7)), (8, .int (v8)), (9, .int (v9)), (10, .int (v10)), (11, .int (v11))] → W p l e (rmX12_plays (d + 1)) s m args below meth c H locs 0 0 (MQ below (tc_QI dC dI ca A (w12 ca q z.2) (z.1)) args s 0 0 A) (F0 m 122 ls [.int (t0)]) := by
  obtain ⟨hx, hb, hr, hml, hown, hts, hlk, hK, hA, hG⟩ := id X
  intro S v1 v2 v3 v4 v5 v6 v7 v8 v9 v10 v11 t0 hf H locs ls hP hD hS hl
  unfold fX12_plays_122 at hf
  refine lv_istore (lv' := [(12, .int (t0)), (0, .ref (q 0)), (1, .int (v1)), (2, .int (v2)), (3, .int (v3)), (4, .int (v4)), (5, .int (v5)), (6, .int (v6)), (7, .int (v7)), (8, .int (v8)), (9, .int (v9)), (10, .int (v10)), (11, .int (v11))]) hx hb dX12_plays_122 hl (by decide) rfl (fun ls hl => ?_)
  refine lv_iload hx hb dX12_plays_124 (lv_at hl 0 rfl) ?_
  refine lv_if_ne (tgt := 142) hx hb dX12_plays_126 (by decide) (fun hc => ?_) (fun hc => ?_)
  · have hf := tc_neg hc hf
    exact tX12_plays_142 X z rc hrc k95 hk95 S v1 v2 v3 v4 v5 v6 v7 v8 v9 v10 v11 t0 hf _ _ _ hP hD hS (lv_sub hl [1, 2, 3, 4, 5, 6, 7, 8, 9, 10, 11, 12, 0] rfl)
  · have hf := tc_pos hc hf
    refine lv_iload hx hb dX12_plays_129 (lv_at hl 9 rfl) ?_
    refine lv_iload hx hb dX12_plays_131 (lv_at hl 12 rfl) ?_
    obtain ⟨z8, hg, hf⟩ := tc_bi hf
    refine tc_iS0 (As := [.int (v8), .int (v11)]) (rest := []) X hP hD hS (mX12_has hg) okX12_has wl_X12_102 wt_X12_has ⟨rfl, rfl, (by show 0 + 1 ≤ 3 + (d + 1); omega), (by show 8 + (2 + 11) + 0 ≤ 68 + (d + 1) * 33; omega)⟩ rfl hl.1 (Nat.le_of_ble_eq_true rfl) dX12_plays_133 (fun H locs hP hD hS => ?_)
    refine lv_if_ne (tgt := 142) hx hb dX12_plays_136 (by decide) (fun hc => ?_) (fun hc => ?_)
    · have hf := tc_neg hc hf
      exact tX12_plays_142 X z rc hrc k95 hk95 S v1 v2 v3 v4 v5 v6 v7 v8 v9 v10 v11 t0 hf _ _ _ hP hD hS (lv_sub hl [1, 2, 3, 4, 5, 6, 7, 8, 9, 10, 11, 12, 0] rfl)
    · have hf := tc_pos hc hf
      refine lv_goto (tgt := 232) hx hb dX12_plays_139 (by decide) ?_
      refine lv_iinc (v := v11 + (1 : Int32)) (lv' := [(11, .int (v11 + (1 : Int32))), (12, .int (t0)), (0, .ref (q 0)), (1, .int (v1)), (2, .int (v2)), (3, .int (v3)), (4, .int (v4)), (5, .int (v5)), (6, .int (v6)), (7, .int (v7)), (8, .int (v8)), (9, .int (v9)), (10, .int (v10))]) hx hb dX12_plays_232 hl (k := 12) rfl rfl (by decide) rfl (fun ls hl => ?_)
      refine lv_goto (tgt := 95) hx hb dX12_plays_235 (by decide) ?_
      exact hk95 S v1 v2 v3 v4 v5 v6 v7 v8 v9 v10 (v11 + (1 : Int32)) hf _ _ _ hP hD hS (lv_sub hl [2, 3, 4, 5, 6, 7, 8, 9, 10, 11, 12, 0] rfl)
set_option maxRecDepth 20000 in
theorem tX12_plays_95 {d : Nat} {q : Nat → Nat}  (X : tc_X dC dI ca A RX12 cX12_plays 14 (some .int) p s m args meth c) (z : Int32 × ms_T) (rc : ms_T → Int32 → Int32 → Int32 → Int32 → Option (Int32 × ms_T)) (hrc : ∀ {S : ms_T} {a1 : Int32} {a2 : Int32} {a3 : Int32} {a4 : Int32} {z : Int32 × ms_T}, rc S a1 a2 a3 a4 = some z → tc_MI l dC dI ca yX12_plays cX12_plays 14 (some .int) (rmX12_plays d) [.ref (q 0), .int (a1), .int (a2), .int (a3), .int (a4)] (w12 ca q S) (w12 ca q z.2) (z.1))    : ∀ n : Nat, ∀ (S : ms_T) (v1 : Int32) (v2 : Int32) (v3 : Int32) (v4 : Int32) (v5 : Int32) (v6 : Int32) (v7 : Int32) (v8 : Int32) (v9 : Int32) (v10 : Int32) (v11 : Int32), fX12_plays_95 rc n S v1 v2 v3 v4 v5 v6 v7 v8 v9 v10 v11 = some z → ∀ (H : Heap) (locs : List Loc) (ls : Array Slot), va_P (dC, dI) classes (w12 ca q S) H → va_D A (w12 ca q S) → va_S A s.heap H locs → lv_has ls 14 [(0, .ref (q 0)), (1, .int (v1)), (2, .int (v2)), (3, .int (v3)), (4, .int (v4)), (5, .int (v5)), (6, .int (v6)), (7, .int (v7)), (8, .int (v8)), (9, .int (v9)), (10, .int (v10)), (11, .int (v11))] → W p l e (rmX12_plays (d + 1)) s m args below meth c H locs 0 0 (MQ below (tc_QI dC dI ca A (w12 ca q z.2) (z.1)) args s 0 0 A) (F0 m 95 ls []) := by
  obtain ⟨hx, hb, hr, hml, hown, hts, hlk, hK, hA, hG⟩ := id X
  intro n
  induction n with
  | zero => intro S v1 v2 v3 v4 v5 v6 v7 v8 v9 v10 v11 hf; exact absurd (show none = some z from hf) (fun h => by cases h)
  | succ n ih =>
    intro S v1 v2 v3 v4 v5 v6 v7 v8 v9 v10 v11 hf H locs ls hP hD hS hl
    rw [fX12_plays_95] at hf
    refine lv_iload hx hb dX12_plays_95 (lv_at hl 11 rfl) ?_
    refine lv_aload_n hx hb dX12_plays_97 rfl (lv_at hl 0 rfl) ?_
    refine va_get (D := (dC, dI)) (ci := 12) (v := .ref (q 5)) (C := RX12) (T := TX12) (N := 49) hx hb hts i_X12 hown hK hP 0 rfl rfl 20 (by decide) (hts _ wf_X12_35) (fun _ h9 => h9) rfl dX12_plays_98 ?_
    refine lv_iconst (v := (1 : Int32)) hx hb dX12_plays_101 (by decide) ?_
    refine va_iald hx hb hK hP 5 1 rfl rfl (inb_vp (by decide)) dX12_plays_102 ?_
    refine lv_icmp_gt (tgt := 238) hx hb dX12_plays_103 (by decide) (fun hc => ?_) (fun hc => ?_)
    · have hf := tc_pos hc hf
      refine lv_iload_n hx hb dX12_plays_238 rfl (lv_at hl 3 rfl) ?_
      refine lv_if_ne (tgt := 248) hx hb dX12_plays_239 (by decide) (fun hc => ?_) (fun hc => ?_)
      · have hf := tc_neg hc hf
        refine lv_iload hx hb dX12_plays_248 (lv_at hl 9 rfl) ?_
        obtain rfl := Option.some.inj hf
        exact tc_ri X hP hD hS rfl dX12_plays_250 rfl rfl
      · have hf := tc_pos hc hf
        refine lv_aload_n hx hb dX12_plays_242 rfl (lv_at hl 0 rfl) ?_
        refine lv_iload hx hb dX12_plays_243 (lv_at hl 10 rfl) ?_
        refine va_put (D := (dC, dI)) (ci := 12) (v := .int (v10)) (ty := .int) (C := RX12) (T := TX12) (N := 49) hx hb hts i_X12 tyX12 tyX12_ok nmX12 hown hK hP hD hS 0 rfl rfl 38 (by decide) (hts _ wf_X12_507) (fun _ h9 => h9) rfl (tyX12_ok 38 (by decide)) rfl rfl (Nat.le_of_ble_eq_true rfl) dX12_plays_245 (fun H locs hP hD hS => ?_)
        have hP := tc_eP (pw12_0_38 ca q S v10) hP
        have hD := tc_eD (pw12_0_38 ca q S v10) hD
        refine lv_iload hx hb dX12_plays_248 (lv_at hl 9 rfl) ?_
        obtain rfl := Option.some.inj hf
        exact tc_ri X hP hD hS rfl dX12_plays_250 rfl rfl
    · have hf := tc_neg hc hf
      refine lv_iload hx hb dX12_plays_106 (lv_at hl 11 rfl) ?_
      refine lv_aload_n hx hb dX12_plays_108 rfl (lv_at hl 0 rfl) ?_
      refine va_get (D := (dC, dI)) (ci := 12) (v := .ref (q 5)) (C := RX12) (T := TX12) (N := 49) hx hb hts i_X12 hown hK hP 0 rfl rfl 20 (by decide) (hts _ wf_X12_35) (fun _ h9 => h9) rfl dX12_plays_109 ?_
      refine lv_iconst (v := (1 : Int32)) hx hb dX12_plays_112 (by decide) ?_
      refine va_iald hx hb hK hP 5 1 rfl rfl (inb_vp (by decide)) dX12_plays_113 ?_
      refine lv_icmp_ne (tgt := 121) hx hb dX12_plays_114 (by decide) (fun hc => ?_) (fun hc => ?_)
      · have hf := tc_neg hc hf
        refine lv_iconst (v := (0 : Int32)) hx hb dX12_plays_121 (by decide) ?_
        exact tX12_plays_122 X z rc hrc (fX12_plays_95 rc n) ih S v1 v2 v3 v4 v5 v6 v7 v8 v9 v10 v11 (0 : Int32) hf _ _ _ hP hD hS (lv_sub hl [0, 1, 2, 3, 4, 5, 6, 7, 8, 9, 10, 11] rfl)
      · have hf := tc_pos hc hf
        refine lv_iconst (v := (1 : Int32)) hx hb dX12_plays_117 (by decide) ?_
        refine lv_goto (tgt := 122) hx hb dX12_plays_118 (by decide) ?_
        exact tX12_plays_122 X z rc hrc (fX12_plays_95 rc n) ih S v1 v2 v3 v4 v5 v6 v7 v8 v9 v10 v11 (1 : Int32) hf _ _ _ hP hD hS (lv_sub hl [0, 1, 2, 3, 4, 5, 6, 7, 8, 9, 10, 11] rfl)
set_option maxRecDepth 20000 in
theorem tX12_plays_57 {d : Nat} {q : Nat → Nat}  (X : tc_X dC dI ca A RX12 cX12_plays 14 (some .int) p s m args meth c) (z : Int32 × ms_T) (rc : ms_T → Int32 → Int32 → Int32 → Int32 → Option (Int32 × ms_T)) (hrc : ∀ {S : ms_T} {a1 : Int32} {a2 : Int32} {a3 : Int32} {a4 : Int32} {z : Int32 × ms_T}, rc S a1 a2 a3 a4 = some z → tc_MI l dC dI ca yX12_plays cX12_plays 14 (some .int) (rmX12_plays d) [.ref (q 0), .int (a1), .int (a2), .int (a3), .int (a4)] (w12 ca q S) (w12 ca q z.2) (z.1))    : ∀ (S : ms_T) (v1 : Int32) (v2 : Int32) (v3 : Int32) (v4 : Int32) (v5 : Int32) (t0 : Int32), fX12_plays_57 rc S v1 v2 v3 v4 v5 t0 = some z → ∀ (H : Heap) (locs : List Loc) (ls : Array Slot), va_P (dC, dI) classes (w12 ca q S) H → va_D A (w12 ca q S) → va_S A s.heap H locs → lv_has ls 14 [(0, .ref (q 0)), (1, .int (v1)), (2, .int (v2)), (3, .int (v3)), (4, .int (v4)), (5, .int (v5))] → W p l e (rmX12_plays (d + 1)) s m args below meth c H locs 0 0 (MQ below (tc_QI dC dI ca A (w12 ca q z.2) (z.1)) args s 0 0 A) (F0 m 57 ls [.int (t0)]) := by
  obtain ⟨hx, hb, hr, hml, hown, hts, hlk, hK, hA, hG⟩ := id X
  intro S v1 v2 v3 v4 v5 t0 hf H locs ls hP hD hS hl
  unfold fX12_plays_57 at hf
  refine lv_istore (lv' := [(6, .int (t0)), (0, .ref (q 0)), (1, .int (v1)), (2, .int (v2)), (3, .int (v3)), (4, .int (v4)), (5, .int (v5))]) hx hb dX12_plays_57 hl (by decide) rfl (fun ls hl => ?_)
  refine lv_aload_n hx hb dX12_plays_59 rfl (lv_at hl 1 rfl) ?_
  refine va_get (D := (dC, dI)) (ci := 12) (v := .ref (q 5)) (C := RX12) (T := TX12) (N := 49) hx hb hts i_X12 hown hK hP 0 rfl rfl 20 (by decide) (hts _ wf_X12_35) (fun _ h9 => h9) rfl dX12_plays_60 ?_
  refine lv_bipush (v := (54 : Int32)) hx hb dX12_plays_63 (by decide) ?_
  refine lv_iload hx hb dX12_plays_65 (lv_at hl 0 rfl) ?_
  refine lv_iadd hx hb dX12_plays_67 ?_
  obtain ⟨hi1, hf⟩ := tc_in hf
  refine va_iald hx hb hK hP 5 1 rfl rfl hi1 dX12_plays_68 ?_
  refine lv_istore (lv' := [(7, .int (ia S 5 ((54 : Int32) + t0))), (6, .int (t0)), (0, .ref (q 0)), (1, .int (v1)), (2, .int (v2)), (3, .int (v3)), (4, .int (v4)), (5, .int (v5))]) hx hb dX12_plays_69 hl (by decide) rfl (fun ls hl => ?_)
  refine lv_aload_n hx hb dX12_plays_71 rfl (lv_at hl 2 rfl) ?_
  refine lv_iload hx hb dX12_plays_72 (lv_at hl 1 rfl) ?_
  obtain ⟨z2, hg, hf⟩ := tc_bi hf
  refine tc_iVs (As := [.int (t0)]) (rest := []) (b := q 0) X hP hD hS (mX12_sayable hg) okX12_sayable wl_X12_367 wi_X12_sayable ws_X12_X12_sayable_X12_sayable ⟨rfl, rfl, (by show 2 + 1 ≤ 3 + (d + 1); omega), (by show 8 + (4 + 11) + 45 ≤ 68 + (d + 1) * 33; omega)⟩ 12 0 rfl rfl rfl hl.1 (Nat.le_of_ble_eq_true rfl) dX12_plays_74 (fun H locs hP hD hS => ?_)
  refine lv_aload_n hx hb dX12_plays_77 rfl (lv_at hl 2 rfl) ?_
  refine lv_iconst (v := (0 : Int32)) hx hb dX12_plays_78 (by decide) ?_
  refine lv_iconst (v := (0 : Int32)) hx hb dX12_plays_79 (by decide) ?_
  obtain ⟨z3, hg, hf⟩ := tc_bi hf
  refine tc_iVs (As := [.int ((0 : Int32)), .int ((0 : Int32))]) (rest := [.int (z2)]) (b := q 0) X hP hD hS (mX12_standing hg) okX12_standing wl_X12_328 wi_X12_standing ws_X12_X12_standing_X12_standing ⟨rfl, rfl, (by show 1 + 1 ≤ 3 + (d + 1); omega), (by show 8 + (7 + 11) + 21 ≤ 68 + (d + 1) * 33; omega)⟩ 12 0 rfl rfl rfl hl.1 (Nat.le_of_ble_eq_true rfl) dX12_plays_80 (fun H locs hP hD hS => ?_)
  refine lv_iand hx hb dX12_plays_83 ?_
  refine lv_istore (lv' := [(8, .int (z2 &&& z3)), (7, .int (ia S 5 ((54 : Int32) + t0))), (6, .int (t0)), (0, .ref (q 0)), (1, .int (v1)), (2, .int (v2)), (3, .int (v3)), (4, .int (v4)), (5, .int (v5))]) hx hb dX12_plays_84 hl (by decide) rfl (fun ls hl => ?_)
  refine lv_iconst (v := (0 : Int32)) hx hb dX12_plays_86 (by decide) ?_
  refine lv_istore (lv' := [(9, .int ((0 : Int32))), (8, .int (z2 &&& z3)), (7, .int (ia S 5 ((54 : Int32) + t0))), (6, .int (t0)), (0, .ref (q 0)), (1, .int (v1)), (2, .int (v2)), (3, .int (v3)), (4, .int (v4)), (5, .int (v5))]) hx hb dX12_plays_87 hl (by decide) rfl (fun ls hl => ?_)
  refine lv_iconst (v := (-1 : Int32)) hx hb dX12_plays_89 (by decide) ?_
  refine lv_istore (lv' := [(10, .int ((-1 : Int32))), (9, .int ((0 : Int32))), (8, .int (z2 &&& z3)), (7, .int (ia S 5 ((54 : Int32) + t0))), (6, .int (t0)), (0, .ref (q 0)), (1, .int (v1)), (2, .int (v2)), (3, .int (v3)), (4, .int (v4)), (5, .int (v5))]) hx hb dX12_plays_90 hl (by decide) rfl (fun ls hl => ?_)
  refine lv_iconst (v := (0 : Int32)) hx hb dX12_plays_92 (by decide) ?_
  refine lv_istore (lv' := [(11, .int ((0 : Int32))), (10, .int ((-1 : Int32))), (9, .int ((0 : Int32))), (8, .int (z2 &&& z3)), (7, .int (ia S 5 ((54 : Int32) + t0))), (6, .int (t0)), (0, .ref (q 0)), (1, .int (v1)), (2, .int (v2)), (3, .int (v3)), (4, .int (v4)), (5, .int (v5))]) hx hb dX12_plays_93 hl (by decide) rfl (fun ls hl => ?_)
  exact tX12_plays_95 X z rc hrc FU S v1 v2 v3 v4 v5 t0 (ia S 5 ((54 : Int32) + t0)) (z2 &&& z3) (0 : Int32) (-1 : Int32) (0 : Int32) hf _ _ _ hP hD hS (lv_sub hl [6, 7, 8, 9, 10, 11, 5, 4, 3, 2, 1, 0] rfl)
set_option maxRecDepth 20000 in
theorem mX12_plays_0 {d : Nat} {q : Nat → Nat}  {S : ms_T} {a1 : Int32} {a2 : Int32} {a3 : Int32} {a4 : Int32} {z : Int32 × ms_T} {rc : ms_T → Int32 → Int32 → Int32 → Int32 → Option (Int32 × ms_T)} (hrc : ∀ {S : ms_T} {a1 : Int32} {a2 : Int32} {a3 : Int32} {a4 : Int32} {z : Int32 × ms_T}, rc S a1 a2 a3 a4 = some z → tc_MI l dC dI ca yX12_plays cX12_plays 14 (some .int) (rmX12_plays d) [.ref (q 0), .int (a1), .int (a2), .int (a3), .int (a4)] (w12 ca q S) (w12 ca q z.2) (z.1)) (hf : fX12_plays_0 rc S a1 a2 a3 a4 = some z) : tc_MI l dC dI ca yX12_plays cX12_plays 14 (some .int) (rmX12_plays (d + 1)) [.ref (q 0), .int (a1), .int (a2), .int (a3), .int (a4)] (w12 ca q S) (w12 ca q z.2) (z.1) := by
  refine tc_metI (own := RX12) (by decide) rfl ?_ (Nat.le_of_ble_eq_true rfl)
  intro p e s m below meth c A X hP hD hS ls hl
  obtain ⟨hx, hb, hr, hml, hown, hts, hlk, hK, hA, hG⟩ := id X
  unfold fX12_plays_0 at hf
  have hl : lv_has ls 14 [(0, .ref (q 0)), (1, .int (a1)), (2, .int (a2)), (3, .int (a3)), (4, .int (a4))] := hl
  refine lv_iload_n hx hb dX12_plays_0 rfl (lv_at hl 3 rfl) ?_
  refine lv_iload hx hb dX12_plays_1 (lv_at hl 4 rfl) ?_
  refine lv_icmp_ne (tgt := 34) hx hb dX12_plays_3 (by decide) (fun hc => ?_) (fun hc => ?_)
  · have hf := tc_neg hc hf
    refine lv_iload_n hx hb dX12_plays_34 rfl (lv_at hl 3 rfl) ?_
    refine lv_iconst (v := (2 : Int32)) hx hb dX12_plays_35 (by decide) ?_
    refine lv_irem hx hb dX12_plays_36 (by decide) ?_
    refine lv_if_ne (tgt := 44) hx hb dX12_plays_37 (by decide) (fun hc => ?_) (fun hc => ?_)
    · have hf := tc_neg hc hf
      refine lv_iconst (v := (0 : Int32)) hx hb dX12_plays_44 (by decide) ?_
      refine lv_istore (lv' := [(5, .int ((0 : Int32))), (0, .ref (q 0)), (1, .int (a1)), (2, .int (a2)), (3, .int (a3)), (4, .int (a4))]) hx hb dX12_plays_45 hl (by decide) rfl (fun ls hl => ?_)
      refine lv_iload hx hb dX12_plays_47 (lv_at hl 0 rfl) ?_
      refine lv_if_eq (tgt := 56) hx hb dX12_plays_49 (by decide) (fun hc => ?_) (fun hc => ?_)
      · have hf := tc_pos hc hf
        refine lv_iload_n hx hb dX12_plays_56 rfl (lv_at hl 3 rfl) ?_
        exact tX12_plays_57 X z rc hrc S a1 a2 a3 a4 (0 : Int32) a2 hf _ _ _ hP hD hS (lv_sub hl [1, 2, 3, 4, 5, 0] rfl)
      · have hf := tc_neg hc hf
        refine lv_iload_n hx hb dX12_plays_52 rfl (lv_at hl 2 rfl) ?_
        refine lv_goto (tgt := 57) hx hb dX12_plays_53 (by decide) ?_
        exact tX12_plays_57 X z rc hrc S a1 a2 a3 a4 (0 : Int32) a1 hf _ _ _ hP hD hS (lv_sub hl [1, 2, 3, 4, 5, 0] rfl)
    · have hf := tc_pos hc hf
      refine lv_iconst (v := (1 : Int32)) hx hb dX12_plays_40 (by decide) ?_
      refine lv_goto (tgt := 45) hx hb dX12_plays_41 (by decide) ?_
      refine lv_istore (lv' := [(5, .int ((1 : Int32))), (0, .ref (q 0)), (1, .int (a1)), (2, .int (a2)), (3, .int (a3)), (4, .int (a4))]) hx hb dX12_plays_45 hl (by decide) rfl (fun ls hl => ?_)
      refine lv_iload hx hb dX12_plays_47 (lv_at hl 0 rfl) ?_
      refine lv_if_eq (tgt := 56) hx hb dX12_plays_49 (by decide) (fun hc => ?_) (fun hc => ?_)
      · have hf := tc_pos hc hf
        refine lv_iload_n hx hb dX12_plays_56 rfl (lv_at hl 3 rfl) ?_
        exact tX12_plays_57 X z rc hrc S a1 a2 a3 a4 (1 : Int32) a2 hf _ _ _ hP hD hS (lv_sub hl [1, 2, 3, 4, 5, 0] rfl)
      · have hf := tc_neg hc hf
        refine lv_iload_n hx hb dX12_plays_52 rfl (lv_at hl 2 rfl) ?_
        refine lv_goto (tgt := 57) hx hb dX12_plays_53 (by decide) ?_
        exact tX12_plays_57 X z rc hrc S a1 a2 a3 a4 (1 : Int32) a1 hf _ _ _ hP hD hS (lv_sub hl [1, 2, 3, 4, 5, 0] rfl)
  · have hf := tc_pos hc hf
    refine lv_aload_n hx hb dX12_plays_6 rfl (lv_at hl 0 rfl) ?_
    refine lv_aload_n hx hb dX12_plays_7 rfl (lv_at hl 0 rfl) ?_
    refine va_get (D := (dC, dI)) (ci := 12) (v := .ref (q 5)) (C := RX12) (T := TX12) (N := 49) hx hb hts i_X12 hown hK hP 0 rfl rfl 20 (by decide) (hts _ wf_X12_35) (fun _ h9 => h9) rfl dX12_plays_8 ?_
    refine lv_bipush (v := (54 : Int32)) hx hb dX12_plays_11 (by decide) ?_
    refine lv_iload_n hx hb dX12_plays_13 rfl (lv_at hl 1 rfl) ?_
    refine lv_iadd hx hb dX12_plays_14 ?_
    obtain ⟨hi9, hf⟩ := tc_in hf
    refine va_iald hx hb hK hP 5 1 rfl rfl hi9 dX12_plays_15 ?_
    obtain ⟨z10, hg, hf⟩ := tc_bi hf
    refine tc_iVs (As := [.int (ia S 5 ((54 : Int32) + a1))]) (rest := []) (b := q 0) X hP hD hS (mX12_worthAt hg) okX12_worthAt wl_X12_461 wi_X12_worthAt ws_X12_X12_worthAt_X12_worthAt ⟨rfl, rfl, (by show 0 + 1 ≤ 3 + (d + 1); omega), (by show 8 + (2 + 11) + 0 ≤ 68 + (d + 1) * 33; omega)⟩ 12 0 rfl rfl rfl hl.1 (Nat.le_of_ble_eq_true rfl) dX12_plays_16 (fun H locs hP hD hS => ?_)
    refine lv_aload_n hx hb dX12_plays_19 rfl (lv_at hl 0 rfl) ?_
    refine lv_aload_n hx hb dX12_plays_20 rfl (lv_at hl 0 rfl) ?_
    refine va_get (D := (dC, dI)) (ci := 12) (v := .ref (q 5)) (C := RX12) (T := TX12) (N := 49) hx hb hts i_X12 hown hK hP 0 rfl rfl 20 (by decide) (hts _ wf_X12_35) (fun _ h9 => h9) rfl dX12_plays_21 ?_
    refine lv_bipush (v := (54 : Int32)) hx hb dX12_plays_24 (by decide) ?_
    refine lv_iload_n hx hb dX12_plays_26 rfl (lv_at hl 2 rfl) ?_
    refine lv_iadd hx hb dX12_plays_27 ?_
    obtain ⟨hi11, hf⟩ := tc_in hf
    refine va_iald hx hb hK hP 5 1 rfl rfl hi11 dX12_plays_28 ?_
    obtain ⟨z12, hg, hf⟩ := tc_bi hf
    refine tc_iVs (As := [.int (ia S 5 ((54 : Int32) + a2))]) (rest := [.int (z10)]) (b := q 0) X hP hD hS (mX12_worthAt hg) okX12_worthAt wl_X12_461 wi_X12_worthAt ws_X12_X12_worthAt_X12_worthAt ⟨rfl, rfl, (by show 0 + 1 ≤ 3 + (d + 1); omega), (by show 8 + (2 + 11) + 0 ≤ 68 + (d + 1) * 33; omega)⟩ 12 0 rfl rfl rfl hl.1 (Nat.le_of_ble_eq_true rfl) dX12_plays_29 (fun H locs hP hD hS => ?_)
    refine lv_isub hx hb dX12_plays_32 ?_
    obtain rfl := Option.some.inj hf
    exact tc_ri X hP hD hS rfl dX12_plays_33 rfl rfl
theorem mX12_plays (d : Nat) {q : Nat → Nat}  : ∀ {S : ms_T} {a1 : Int32} {a2 : Int32} {a3 : Int32} {a4 : Int32} {z : Int32 × ms_T}, fX12_plays d S a1 a2 a3 a4 = some z → tc_MI l dC dI ca yX12_plays cX12_plays 14 (some .int) (rmX12_plays d) [.ref (q 0), .int (a1), .int (a2), .int (a3), .int (a4)] (w12 ca q S) (w12 ca q z.2) (z.1) := by
  induction d with
  | zero => intro S a1 a2 a3 a4 z hf; exact absurd (show none = some z from hf) (fun h => by cases h)
  | succ d ih => intro S a1 a2 a3 a4 z hf; exact mX12_plays_0 ih hf
def fX12_whyNoGame  (S : ms_T) (a1 : Int32) (a2 : Int32) (a3 : Int32) (a4 : Int32) : Option (Int32) :=
  (fX12_isTalkerAt S a1).bind fun z1 =>
  if z1 = 0 then
    some ((2 : Int32))
  else
    (fX12_isTalkerAt S a2).bind fun z2 =>
    if z2 = 0 then
      some ((2 : Int32))
    else
      if a1 = a2 then
        some ((5 : Int32))
      else
        (fX12_isIn a3.toInt64 a4.toInt64 (4 : Int64)).bind fun z3 =>
        if z3 = 0 then
          some ((5 : Int32))
        else
          some ((0 : Int32))
abbrev rmX12_whyNoGame : Room := { frames := 2, cells := 0, slots := 0, locals := 46 }
theorem okX12_whyNoGame : tc_ok yX12_whyNoGame cX12_whyNoGame 5 (some .int) 4 := ⟨wc_X12_whyNoGame, wn_X12, by decide, by decide, by decide +kernel⟩
set_option maxRecDepth 20000 in
theorem mX12_whyNoGame {q : Nat → Nat}  {S : ms_T} {a1 : Int32} {a2 : Int32} {a3 : Int32} {a4 : Int32} {z : Int32}  (hf : fX12_whyNoGame S a1 a2 a3 a4 = some z) : tc_MI l dC dI ca yX12_whyNoGame cX12_whyNoGame 5 (some .int) rmX12_whyNoGame [.ref (q 0), .int (a1), .int (a2), .int (a3), .int (a4)] (w12 ca q S) (w12 ca q S) (z) := by
  refine tc_metI (own := RX12) (by decide) rfl ?_ (Nat.le_of_ble_eq_true rfl)
  intro p e s m below meth c A X hP hD hS ls hl
  obtain ⟨hx, hb, hr, hml, hown, hts, hlk, hK, hA, hG⟩ := id X
  unfold fX12_whyNoGame at hf
  have hl : lv_has ls 5 [(0, .ref (q 0)), (1, .int (a1)), (2, .int (a2)), (3, .int (a3)), (4, .int (a4))] := hl
  refine lv_aload_n hx hb dX12_whyNoGame_0 rfl (lv_at hl 0 rfl) ?_
  refine lv_iload_n hx hb dX12_whyNoGame_1 rfl (lv_at hl 1 rfl) ?_
  obtain ⟨z1, hg, hf⟩ := tc_bi hf
  refine tc_iVs (As := [.int (a1)]) (rest := []) (b := q 0) X hP hD hS (mX12_isTalkerAt hg) okX12_isTalkerAt wl_X12_362 wi_X12_isTalkerAt ws_X12_X12_isTalkerAt_X12_isTalkerAt ⟨rfl, rfl, Nat.le_of_ble_eq_true rfl, Nat.le_of_ble_eq_true rfl⟩ 12 0 rfl rfl rfl hl.1 (Nat.le_of_ble_eq_true rfl) dX12_whyNoGame_2 (fun H locs hP hD hS => ?_)
  refine lv_if_eq (tgt := 16) hx hb dX12_whyNoGame_5 (by decide) (fun hc => ?_) (fun hc => ?_)
  · have hf := tc_pos hc hf
    refine lv_iconst (v := (2 : Int32)) hx hb dX12_whyNoGame_16 (by decide) ?_
    obtain rfl := Option.some.inj hf
    exact tc_ri X hP hD hS rfl dX12_whyNoGame_17 rfl rfl
  · have hf := tc_neg hc hf
    refine lv_aload_n hx hb dX12_whyNoGame_8 rfl (lv_at hl 0 rfl) ?_
    refine lv_iload_n hx hb dX12_whyNoGame_9 rfl (lv_at hl 2 rfl) ?_
    obtain ⟨z2, hg, hf⟩ := tc_bi hf
    refine tc_iVs (As := [.int (a2)]) (rest := []) (b := q 0) X hP hD hS (mX12_isTalkerAt hg) okX12_isTalkerAt wl_X12_362 wi_X12_isTalkerAt ws_X12_X12_isTalkerAt_X12_isTalkerAt ⟨rfl, rfl, Nat.le_of_ble_eq_true rfl, Nat.le_of_ble_eq_true rfl⟩ 12 0 rfl rfl rfl hl.1 (Nat.le_of_ble_eq_true rfl) dX12_whyNoGame_10 (fun H locs hP hD hS => ?_)
    refine lv_if_ne (tgt := 18) hx hb dX12_whyNoGame_13 (by decide) (fun hc => ?_) (fun hc => ?_)
    · have hf := tc_neg hc hf
      refine lv_iload_n hx hb dX12_whyNoGame_18 rfl (lv_at hl 1 rfl) ?_
      refine lv_iload_n hx hb dX12_whyNoGame_19 rfl (lv_at hl 2 rfl) ?_
      refine lv_icmp_eq (tgt := 41) hx hb dX12_whyNoGame_20 (by decide) (fun hc => ?_) (fun hc => ?_)
      · have hf := tc_pos hc hf
        refine lv_iconst (v := (5 : Int32)) hx hb dX12_whyNoGame_41 (by decide) ?_
        obtain rfl := Option.some.inj hf
        exact tc_ri X hP hD hS rfl dX12_whyNoGame_42 rfl rfl
      · have hf := tc_neg hc hf
        refine lv_iload_n hx hb dX12_whyNoGame_23 rfl (lv_at hl 3 rfl) ?_
        refine lv_i2l (v := a3.toInt64) hx hb dX12_whyNoGame_24 rfl ?_
        refine lv_iload hx hb dX12_whyNoGame_25 (lv_at hl 4 rfl) ?_
        refine lv_i2l (v := a4.toInt64) hx hb dX12_whyNoGame_27 rfl ?_
        refine lv_ldc2 (v := (4 : Int64)) hx hb hown (hts _ wk_X12_365) dX12_whyNoGame_28 ?_
        obtain ⟨z3, hg, hf⟩ := tc_bi hf
        refine tc_iS0 (As := [.long (a3.toInt64), .long (a4.toInt64), .long ((4 : Int64))]) (rest := []) X hP hD hS (mX12_isIn hg) okX12_isIn wl_X12_98 wt_X12_isIn ⟨rfl, rfl, Nat.le_of_ble_eq_true rfl, Nat.le_of_ble_eq_true rfl⟩ rfl hl.1 (Nat.le_of_ble_eq_true rfl) dX12_whyNoGame_31 (fun H locs hP hD hS => ?_)
        refine lv_if_eq (tgt := 41) hx hb dX12_whyNoGame_34 (by decide) (fun hc => ?_) (fun hc => ?_)
        · have hf := tc_pos hc hf
          refine lv_iconst (v := (5 : Int32)) hx hb dX12_whyNoGame_41 (by decide) ?_
          obtain rfl := Option.some.inj hf
          exact tc_ri X hP hD hS rfl dX12_whyNoGame_42 rfl rfl
        · have hf := tc_neg hc hf
          refine lv_iconst (v := (0 : Int32)) hx hb dX12_whyNoGame_37 (by decide) ?_
          refine lv_goto (tgt := 42) hx hb dX12_whyNoGame_38 (by decide) ?_
          obtain rfl := Option.some.inj hf
          exact tc_ri X hP hD hS rfl dX12_whyNoGame_42 rfl rfl
    · have hf := tc_pos hc hf
      refine lv_iconst (v := (2 : Int32)) hx hb dX12_whyNoGame_16 (by decide) ?_
      obtain rfl := Option.some.inj hf
      exact tc_ri X hP hD hS rfl dX12_whyNoGame_17 rfl rfl
def fX12_game  (S : ms_T) (a1 : Int32) (a2 : Int32) (a3 : Int32) : Option (Int32 × ms_T) :=
  (fX12_whyNoGame (si S 1 (0 : Int32)) a1 a2 a3 (0 : Int32)).bind fun z1 =>
  if (gi (si (si S 1 (0 : Int32)) 0 z1) 0) ≤ 0 then
    (fX12_plays 6 (si (si S 1 (0 : Int32)) 0 z1) a1 a2 (0 : Int32) a3).bind fun z2 =>
    some (z2.1, z2.2)
  else
    some ((-1 : Int32), si (si S 1 (0 : Int32)) 0 z1)
abbrev rmX12_game : Room := { frames := 10, cells := 0, slots := 0, locals := 299 }
theorem okX12_game : tc_ok yX12_game cX12_game 4 (some .int) 3 := ⟨wc_X12_game, wn_X12, by decide, by decide, by decide +kernel⟩
set_option maxRecDepth 20000 in
theorem mX12_game {q : Nat → Nat}  {S : ms_T} {a1 : Int32} {a2 : Int32} {a3 : Int32} {z : Int32 × ms_T}  (hf : fX12_game S a1 a2 a3 = some z) : tc_MI l dC dI ca yX12_game cX12_game 4 (some .int) rmX12_game [.ref (q 0), .int (a1), .int (a2), .int (a3)] (w12 ca q S) (w12 ca q z.2) (z.1) := by
  refine tc_metI (own := RX12) (by decide) rfl ?_ (Nat.le_of_ble_eq_true rfl)
  intro p e s m below meth c A X hP hD hS ls hl
  obtain ⟨hx, hb, hr, hml, hown, hts, hlk, hK, hA, hG⟩ := id X
  unfold fX12_game at hf
  have hl : lv_has ls 4 [(0, .ref (q 0)), (1, .int (a1)), (2, .int (a2)), (3, .int (a3))] := hl
  refine lv_aload_n hx hb dX12_game_0 rfl (lv_at hl 0 rfl) ?_
  refine lv_iconst (v := (0 : Int32)) hx hb dX12_game_1 (by decide) ?_
  refine va_put (D := (dC, dI)) (ci := 12) (v := .int ((0 : Int32))) (ty := .int) (C := RX12) (T := TX12) (N := 49) hx hb hts i_X12 tyX12 tyX12_ok nmX12 hown hK hP hD hS 0 rfl rfl 1 (by decide) (hts _ wf_X12_63) (fun _ h9 => h9) rfl (tyX12_ok 1 (by decide)) rfl rfl (Nat.le_of_ble_eq_true rfl) dX12_game_2 (fun H locs hP hD hS => ?_)
  have hP := tc_eP (pw12_0_1 ca q S (0 : Int32)) hP
  have hD := tc_eD (pw12_0_1 ca q S (0 : Int32)) hD
  refine lv_aload_n hx hb dX12_game_5 rfl (lv_at hl 0 rfl) ?_
  refine lv_aload_n hx hb dX12_game_6 rfl (lv_at hl 0 rfl) ?_
  refine lv_iload_n hx hb dX12_game_7 rfl (lv_at hl 1 rfl) ?_
  refine lv_iload_n hx hb dX12_game_8 rfl (lv_at hl 2 rfl) ?_
  refine lv_iload_n hx hb dX12_game_9 rfl (lv_at hl 3 rfl) ?_
  refine lv_iconst (v := (0 : Int32)) hx hb dX12_game_10 (by decide) ?_
  obtain ⟨z1, hg, hf⟩ := tc_bi hf
  refine tc_iVs (As := [.int (a1), .int (a2), .int (a3), .int ((0 : Int32))]) (rest := [.ref (q 0)]) (b := q 0) X hP hD hS (mX12_whyNoGame hg) okX12_whyNoGame wl_X12_510 wi_X12_whyNoGame ws_X12_X12_whyNoGame_X12_whyNoGame ⟨rfl, rfl, Nat.le_of_ble_eq_true rfl, Nat.le_of_ble_eq_true rfl⟩ 12 0 rfl rfl rfl hl.1 (Nat.le_of_ble_eq_true rfl) dX12_game_11 (fun H locs hP hD hS => ?_)
  refine va_put (D := (dC, dI)) (ci := 12) (v := .int (z1)) (ty := .int) (C := RX12) (T := TX12) (N := 49) hx hb hts i_X12 tyX12 tyX12_ok nmX12 hown hK hP hD hS 0 rfl rfl 0 (by decide) (hts _ wf_X12_66) (fun _ h9 => h9) rfl (tyX12_ok 0 (by decide)) rfl rfl (Nat.le_of_ble_eq_true rfl) dX12_game_14 (fun H locs hP hD hS => ?_)
  have hP := tc_eP (pw12_0_0 ca q (si S 1 (0 : Int32)) z1) hP
  have hD := tc_eD (pw12_0_0 ca q (si S 1 (0 : Int32)) z1) hD
  refine lv_aload_n hx hb dX12_game_17 rfl (lv_at hl 0 rfl) ?_
  refine va_get (D := (dC, dI)) (ci := 12) (v := .int (gi (si (si S 1 (0 : Int32)) 0 z1) 0)) (C := RX12) (T := TX12) (N := 49) hx hb hts i_X12 hown hK hP 0 rfl rfl 0 (by decide) (hts _ wf_X12_66) (fun _ h9 => h9) rfl dX12_game_18 ?_
  refine lv_if_le (tgt := 28) hx hb dX12_game_21 (by decide) (fun hc => ?_) (fun hc => ?_)
  · have hf := tc_pos hc hf
    refine lv_aload_n hx hb dX12_game_28 rfl (lv_at hl 0 rfl) ?_
    refine lv_iload_n hx hb dX12_game_29 rfl (lv_at hl 1 rfl) ?_
    refine lv_iload_n hx hb dX12_game_30 rfl (lv_at hl 2 rfl) ?_
    refine lv_iconst (v := (0 : Int32)) hx hb dX12_game_31 (by decide) ?_
    refine lv_iload_n hx hb dX12_game_32 rfl (lv_at hl 3 rfl) ?_
    obtain ⟨z2, hg, hf⟩ := tc_bi hf
    refine tc_iVs (As := [.int (a1), .int (a2), .int ((0 : Int32)), .int (a3)]) (rest := []) (b := q 0) X hP hD hS (mX12_plays 6 hg) okX12_plays wl_X12_503 wi_X12_plays ws_X12_X12_plays_X12_plays ⟨rfl, rfl, Nat.le_of_ble_eq_true rfl, Nat.le_of_ble_eq_true rfl⟩ 12 0 rfl rfl rfl hl.1 (Nat.le_of_ble_eq_true rfl) dX12_game_33 (fun H locs hP hD hS => ?_)
    obtain rfl := Option.some.inj hf
    exact tc_ri X hP hD hS rfl dX12_game_36 rfl rfl
  · have hf := tc_neg hc hf
    refine lv_iconst (v := (-1 : Int32)) hx hb dX12_game_24 (by decide) ?_
    refine lv_goto (tgt := 36) hx hb dX12_game_25 (by decide) ?_
    obtain rfl := Option.some.inj hf
    exact tc_ri X hP hD hS rfl dX12_game_36 rfl rfl
def fX12_moveOf  (S : ms_T) (a1 : Int32) (a2 : Int32) (a3 : Int32) : Option (Int32 × ms_T) :=
  (fX12_whyNoGame (si S 1 (0 : Int32)) a1 a2 a3 (1 : Int32)).bind fun z1 =>
  if (gi (si (si S 1 (0 : Int32)) 0 z1) 0) ≤ 0 then
    (fX12_plays 6 (si (si S 1 (0 : Int32)) 0 z1) a1 a2 (0 : Int32) a3).bind fun z2 =>
    if (gi z2.2 38) = (ia z2.2 5 (1 : Int32)) then
      (fX12_refuse z2.2 (8 : Int32)).bind fun z3 =>
      some (z3.1, z3.2)
    else
      some (gi z2.2 38, z2.2)
  else
    some ((-1 : Int32), si (si S 1 (0 : Int32)) 0 z1)
abbrev rmX12_moveOf : Room := { frames := 10, cells := 0, slots := 0, locals := 299 }
theorem okX12_moveOf : tc_ok yX12_moveOf cX12_moveOf 4 (some .int) 3 := ⟨wc_X12_moveOf, wn_X12, by decide, by decide, by decide +kernel⟩
set_option maxRecDepth 20000 in
theorem mX12_moveOf {q : Nat → Nat}  {S : ms_T} {a1 : Int32} {a2 : Int32} {a3 : Int32} {z : Int32 × ms_T}  (hf : fX12_moveOf S a1 a2 a3 = some z) : tc_MI l dC dI ca yX12_moveOf cX12_moveOf 4 (some .int) rmX12_moveOf [.ref (q 0), .int (a1), .int (a2), .int (a3)] (w12 ca q S) (w12 ca q z.2) (z.1) := by
  refine tc_metI (own := RX12) (by decide) rfl ?_ (Nat.le_of_ble_eq_true rfl)
  intro p e s m below meth c A X hP hD hS ls hl
  obtain ⟨hx, hb, hr, hml, hown, hts, hlk, hK, hA, hG⟩ := id X
  unfold fX12_moveOf at hf
  have hl : lv_has ls 4 [(0, .ref (q 0)), (1, .int (a1)), (2, .int (a2)), (3, .int (a3))] := hl
  refine lv_aload_n hx hb dX12_moveOf_0 rfl (lv_at hl 0 rfl) ?_
  refine lv_iconst (v := (0 : Int32)) hx hb dX12_moveOf_1 (by decide) ?_
  refine va_put (D := (dC, dI)) (ci := 12) (v := .int ((0 : Int32))) (ty := .int) (C := RX12) (T := TX12) (N := 49) hx hb hts i_X12 tyX12 tyX12_ok nmX12 hown hK hP hD hS 0 rfl rfl 1 (by decide) (hts _ wf_X12_63) (fun _ h9 => h9) rfl (tyX12_ok 1 (by decide)) rfl rfl (Nat.le_of_ble_eq_true rfl) dX12_moveOf_2 (fun H locs hP hD hS => ?_)
  have hP := tc_eP (pw12_0_1 ca q S (0 : Int32)) hP
  have hD := tc_eD (pw12_0_1 ca q S (0 : Int32)) hD
  refine lv_aload_n hx hb dX12_moveOf_5 rfl (lv_at hl 0 rfl) ?_
  refine lv_aload_n hx hb dX12_moveOf_6 rfl (lv_at hl 0 rfl) ?_
  refine lv_iload_n hx hb dX12_moveOf_7 rfl (lv_at hl 1 rfl) ?_
  refine lv_iload_n hx hb dX12_moveOf_8 rfl (lv_at hl 2 rfl) ?_
  refine lv_iload_n hx hb dX12_moveOf_9 rfl (lv_at hl 3 rfl) ?_
  refine lv_iconst (v := (1 : Int32)) hx hb dX12_moveOf_10 (by decide) ?_
  obtain ⟨z1, hg, hf⟩ := tc_bi hf
  refine tc_iVs (As := [.int (a1), .int (a2), .int (a3), .int ((1 : Int32))]) (rest := [.ref (q 0)]) (b := q 0) X hP hD hS (mX12_whyNoGame hg) okX12_whyNoGame wl_X12_510 wi_X12_whyNoGame ws_X12_X12_whyNoGame_X12_whyNoGame ⟨rfl, rfl, Nat.le_of_ble_eq_true rfl, Nat.le_of_ble_eq_true rfl⟩ 12 0 rfl rfl rfl hl.1 (Nat.le_of_ble_eq_true rfl) dX12_moveOf_11 (fun H locs hP hD hS => ?_)
  refine va_put (D := (dC, dI)) (ci := 12) (v := .int (z1)) (ty := .int) (C := RX12) (T := TX12) (N := 49) hx hb hts i_X12 tyX12 tyX12_ok nmX12 hown hK hP hD hS 0 rfl rfl 0 (by decide) (hts _ wf_X12_66) (fun _ h9 => h9) rfl (tyX12_ok 0 (by decide)) rfl rfl (Nat.le_of_ble_eq_true rfl) dX12_moveOf_14 (fun H locs hP hD hS => ?_)
  have hP := tc_eP (pw12_0_0 ca q (si S 1 (0 : Int32)) z1) hP
  have hD := tc_eD (pw12_0_0 ca q (si S 1 (0 : Int32)) z1) hD
  refine lv_aload_n hx hb dX12_moveOf_17 rfl (lv_at hl 0 rfl) ?_
  refine va_get (D := (dC, dI)) (ci := 12) (v := .int (gi (si (si S 1 (0 : Int32)) 0 z1) 0)) (C := RX12) (T := TX12) (N := 49) hx hb hts i_X12 hown hK hP 0 rfl rfl 0 (by decide) (hts _ wf_X12_66) (fun _ h9 => h9) rfl dX12_moveOf_18 ?_
  refine lv_if_le (tgt := 26) hx hb dX12_moveOf_21 (by decide) (fun hc => ?_) (fun hc => ?_)
  · have hf := tc_pos hc hf
    refine lv_aload_n hx hb dX12_moveOf_26 rfl (lv_at hl 0 rfl) ?_
    refine lv_iload_n hx hb dX12_moveOf_27 rfl (lv_at hl 1 rfl) ?_
    refine lv_iload_n hx hb dX12_moveOf_28 rfl (lv_at hl 2 rfl) ?_
    refine lv_iconst (v := (0 : Int32)) hx hb dX12_moveOf_29 (by decide) ?_
    refine lv_iload_n hx hb dX12_moveOf_30 rfl (lv_at hl 3 rfl) ?_
    obtain ⟨z2, hg, hf⟩ := tc_bi hf
    refine tc_iVs (As := [.int (a1), .int (a2), .int ((0 : Int32)), .int (a3)]) (rest := []) (b := q 0) X hP hD hS (mX12_plays 6 hg) okX12_plays wl_X12_503 wi_X12_plays ws_X12_X12_plays_X12_plays ⟨rfl, rfl, Nat.le_of_ble_eq_true rfl, Nat.le_of_ble_eq_true rfl⟩ 12 0 rfl rfl rfl hl.1 (Nat.le_of_ble_eq_true rfl) dX12_moveOf_31 (fun H locs hP hD hS => ?_)
    refine lv_pop hx hb dX12_moveOf_34 rfl ?_
    refine lv_aload_n hx hb dX12_moveOf_35 rfl (lv_at hl 0 rfl) ?_
    refine va_get (D := (dC, dI)) (ci := 12) (v := .int (gi z2.2 38)) (C := RX12) (T := TX12) (N := 49) hx hb hts i_X12 hown hK hP 0 rfl rfl 38 (by decide) (hts _ wf_X12_507) (fun _ h9 => h9) rfl dX12_moveOf_36 ?_
    refine lv_aload_n hx hb dX12_moveOf_39 rfl (lv_at hl 0 rfl) ?_
    refine va_get (D := (dC, dI)) (ci := 12) (v := .ref (q 5)) (C := RX12) (T := TX12) (N := 49) hx hb hts i_X12 hown hK hP 0 rfl rfl 20 (by decide) (hts _ wf_X12_35) (fun _ h9 => h9) rfl dX12_moveOf_40 ?_
    refine lv_iconst (v := (1 : Int32)) hx hb dX12_moveOf_43 (by decide) ?_
    refine va_iald hx hb hK hP 5 1 rfl rfl (inb_vp (by decide)) dX12_moveOf_44 ?_
    refine lv_icmp_ne (tgt := 57) hx hb dX12_moveOf_45 (by decide) (fun hc => ?_) (fun hc => ?_)
    · have hf := tc_neg hc hf
      refine lv_aload_n hx hb dX12_moveOf_57 rfl (lv_at hl 0 rfl) ?_
      refine va_get (D := (dC, dI)) (ci := 12) (v := .int (gi z2.2 38)) (C := RX12) (T := TX12) (N := 49) hx hb hts i_X12 hown hK hP 0 rfl rfl 38 (by decide) (hts _ wf_X12_507) (fun _ h9 => h9) rfl dX12_moveOf_58 ?_
      obtain rfl := Option.some.inj hf
      exact tc_ri X hP hD hS rfl dX12_moveOf_61 rfl rfl
    · have hf := tc_pos hc hf
      refine lv_aload_n hx hb dX12_moveOf_48 rfl (lv_at hl 0 rfl) ?_
      refine lv_bipush (v := (8 : Int32)) hx hb dX12_moveOf_49 (by decide) ?_
      obtain ⟨z3, hg, hf⟩ := tc_bi hf
      refine tc_iVs (As := [.int ((8 : Int32))]) (rest := []) (b := q 0) X hP hD hS (mX12_refuse hg) okX12_refuse wl_X12_333 wi_X12_refuse ws_X12_X12_refuse_X12_refuse ⟨rfl, rfl, Nat.le_of_ble_eq_true rfl, Nat.le_of_ble_eq_true rfl⟩ 12 0 rfl rfl rfl hl.1 (Nat.le_of_ble_eq_true rfl) dX12_moveOf_51 (fun H locs hP hD hS => ?_)
      refine lv_goto (tgt := 61) hx hb dX12_moveOf_54 (by decide) ?_
      obtain rfl := Option.some.inj hf
      exact tc_ri X hP hD hS rfl dX12_moveOf_61 rfl rfl
  · have hf := tc_neg hc hf
    refine lv_iconst (v := (-1 : Int32)) hx hb dX12_moveOf_24 (by decide) ?_
    obtain rfl := Option.some.inj hf
    exact tc_ri X hP hD hS rfl dX12_moveOf_25 rfl rfl
def fX12_chutes_55   (k36 : ms_T → Int32 → Int64 → Int64 → Int32 → Option (Int32 × ms_T)) : Nat → ms_T → Int32 → Int64 → Int64 → Int32 → Int64 → Int32 → Option (Int32 × ms_T)
  | 0, _, _, _, _, _, _, _ => none
  | n + 1, S, v1, v2, v4, v6, v7, v9 =>
    if (ia S 5 (2 : Int32)) ≤ v9 then
      (fX12_sizeOf v6).bind fun z3 =>
      if z3 < v1 then
        k36 S v1 (v2 + (0 : Int64)) (v4 + v7) (v6 + (1 : Int32))
      else
        k36 S v1 (v2 + v7) (v4 + v7) (v6 + (1 : Int32))
    else
      (fX12_has v6 v9).bind fun z4 =>
      if z4 = 0 then
        if inb ((66 : Int32) + v9) 1820 = true then
          fX12_chutes_55 k36 n S v1 v2 v4 v6 (v7 * ((ia S 5 ((66 : Int32) + v9)).toInt64)) (v9 + (1 : Int32))
        else none
      else
        if inb ((66 : Int32) + v9) 1820 = true then
          fX12_chutes_55 k36 n S v1 v2 v4 v6 (v7 * (((16 : Int32) - (ia S 5 ((66 : Int32) + v9))).toInt64)) (v9 + (1 : Int32))
        else none
def fX12_chutes_36    : Nat → ms_T → Int32 → Int64 → Int64 → Int32 → Option (Int32 × ms_T)
  | 0, _, _, _, _, _ => none
  | n + 1, S, v1, v2, v4, v6 =>
    if ((1 : Int32) <<< ((ia S 5 (2 : Int32)) &&& 31)) ≤ v6 then
      (fX12_fraction S v2 v4).bind fun z2 =>
      if z2.1 &&& 1 = z2.1 then
        some (z2.1, z2.2)
      else none
    else
      fX12_chutes_55 (fX12_chutes_36 n) FU S v1 v2 v4 v6 (1 : Int64) (0 : Int32)
def fX12_chutes  (S : ms_T) (a1 : Int32) : Option (Int32 × ms_T) :=
  (fX12_isIn a1.toInt64 (0 : Int64) (6 : Int64)).bind fun z1 =>
  if z1 = 0 then
    (fX12_no (si (si S 1 (0 : Int32)) 0 (0 : Int32)) (5 : Int32)).bind fun z7 =>
    if z7.1 &&& 1 = z7.1 then
      some (z7.1, z7.2)
    else none
  else
    fX12_chutes_36 FU (si (si S 1 (0 : Int32)) 0 (0 : Int32)) a1 (0 : Int64) (0 : Int64) (0 : Int32)
abbrev rmX12_chutes : Room := { frames := 2, cells := 0, slots := 0, locals := 53 }
theorem okX12_chutes : tc_ok yX12_chutes cX12_chutes 10 (some .boolean) 1 := ⟨wc_X12_chutes, wn_X12, by decide, by decide, by decide +kernel⟩
set_option maxRecDepth 20000 in
theorem tX12_chutes_55 {q : Nat → Nat}  (X : tc_X dC dI ca A RX12 cX12_chutes 10 (some .boolean) p s m args meth c) (z : Int32 × ms_T)   (k36 : ms_T → Int32 → Int64 → Int64 → Int32 → Option (Int32 × ms_T)) (hk36 : ∀ (S : ms_T) (v1 : Int32) (v2 : Int64) (v4 : Int64) (v6 : Int32), k36 S v1 v2 v4 v6 = some z → ∀ (H : Heap) (locs : List Loc) (ls : Array Slot), va_P (dC, dI) classes (w12 ca q S) H → va_D A (w12 ca q S) → va_S A s.heap H locs → lv_has ls 10 [(0, .ref (q 0)), (1, .int (v1)), (2, .long (v2)), (4, .long (v4)), (6, .int (v6))] → W p l e rmX12_chutes s m args below meth c H locs 0 0 (MQ below (tc_QI dC dI ca A (w12 ca q z.2) (z.1)) args s 0 0 A) (F0 m 36 ls [])) : ∀ n : Nat, ∀ (S : ms_T) (v1 : Int32) (v2 : Int64) (v4 : Int64) (v6 : Int32) (v7 : Int64) (v9 : Int32), fX12_chutes_55 k36 n S v1 v2 v4 v6 v7 v9 = some z → ∀ (H : Heap) (locs : List Loc) (ls : Array Slot), va_P (dC, dI) classes (w12 ca q S) H → va_D A (w12 ca q S) → va_S A s.heap H locs → lv_has ls 10 [(0, .ref (q 0)), (1, .int (v1)), (2, .long (v2)), (4, .long (v4)), (6, .int (v6)), (7, .long (v7)), (9, .int (v9))] → W p l e rmX12_chutes s m args below meth c H locs 0 0 (MQ below (tc_QI dC dI ca A (w12 ca q z.2) (z.1)) args s 0 0 A) (F0 m 55 ls []) := by
  obtain ⟨hx, hb, hr, hml, hown, hts, hlk, hK, hA, hG⟩ := id X
  intro n
  induction n with
  | zero => intro S v1 v2 v4 v6 v7 v9 hf; exact absurd (show none = some z from hf) (fun h => by cases h)
  | succ n ih =>
    intro S v1 v2 v4 v6 v7 v9 hf H locs ls hP hD hS hl
    rw [fX12_chutes_55] at hf
    refine lv_iload hx hb dX12_chutes_55 (lv_at hl 6 rfl) ?_
    refine lv_aload_n hx hb dX12_chutes_57 rfl (lv_at hl 0 rfl) ?_
    refine va_get (D := (dC, dI)) (ci := 12) (v := .ref (q 5)) (C := RX12) (T := TX12) (N := 49) hx hb hts i_X12 hown hK hP 0 rfl rfl 20 (by decide) (hts _ wf_X12_35) (fun _ h9 => h9) rfl dX12_chutes_58 ?_
    refine lv_iconst (v := (2 : Int32)) hx hb dX12_chutes_61 (by decide) ?_
    refine va_iald hx hb hK hP 5 1 rfl rfl (inb_vp (by decide)) dX12_chutes_62 ?_
    refine lv_icmp_ge (tgt := 115) hx hb dX12_chutes_63 (by decide) (fun hc => ?_) (fun hc => ?_)
    · have hf := tc_pos hc hf
      refine lv_lload_n hx hb dX12_chutes_115 rfl (lv_at hl 2 rfl) ?_
      refine lv_iload hx hb dX12_chutes_116 (lv_at hl 4 rfl) ?_
      obtain ⟨z3, hg, hf⟩ := tc_bi hf
      refine tc_iS0 (As := [.int (v6)]) (rest := [.long (v2)]) X hP hD hS (mX12_sizeOf hg) okX12_sizeOf wl_X12_396 wt_X12_sizeOf ⟨rfl, rfl, Nat.le_of_ble_eq_true rfl, Nat.le_of_ble_eq_true rfl⟩ rfl hl.1 (Nat.le_of_ble_eq_true rfl) dX12_chutes_118 (fun H locs hP hD hS => ?_)
      refine lv_iload_n hx hb dX12_chutes_121 rfl (lv_at hl 1 rfl) ?_
      refine lv_icmp_lt (tgt := 130) hx hb dX12_chutes_122 (by decide) (fun hc => ?_) (fun hc => ?_)
      · have hf := tc_pos hc hf
        refine lv_lconst (v := (0 : Int64)) hx hb dX12_chutes_130 (by decide) ?_
        refine lv_ladd hx hb dX12_chutes_131 ?_
        refine lv_lstore_n (lv' := [(2, .long (v2 + (0 : Int64))), (0, .ref (q 0)), (1, .int (v1)), (4, .long (v4)), (6, .int (v6)), (7, .long (v7)), (9, .int (v9))]) hx hb dX12_chutes_132 rfl hl (by decide) rfl (fun ls hl => ?_)
        refine lv_lload hx hb dX12_chutes_133 (lv_at hl 3 rfl) ?_
        refine lv_lload hx hb dX12_chutes_135 (lv_at hl 5 rfl) ?_
        refine lv_ladd hx hb dX12_chutes_137 ?_
        refine lv_lstore (lv' := [(4, .long (v4 + v7)), (2, .long (v2 + (0 : Int64))), (0, .ref (q 0)), (1, .int (v1)), (6, .int (v6)), (7, .long (v7)), (9, .int (v9))]) hx hb dX12_chutes_138 hl (by decide) rfl (fun ls hl => ?_)
        refine lv_iinc (v := v6 + (1 : Int32)) (lv' := [(6, .int (v6 + (1 : Int32))), (4, .long (v4 + v7)), (2, .long (v2 + (0 : Int64))), (0, .ref (q 0)), (1, .int (v1)), (7, .long (v7)), (9, .int (v9))]) hx hb dX12_chutes_140 hl (k := 4) rfl rfl (by decide) rfl (fun ls hl => ?_)
        refine lv_goto (tgt := 36) hx hb dX12_chutes_143 (by decide) ?_
        exact hk36 S v1 (v2 + (0 : Int64)) (v4 + v7) (v6 + (1 : Int32)) hf _ _ _ hP hD hS (lv_sub hl [3, 4, 2, 1, 0] rfl)
      · have hf := tc_neg hc hf
        refine lv_lload hx hb dX12_chutes_125 (lv_at hl 5 rfl) ?_
        refine lv_goto (tgt := 131) hx hb dX12_chutes_127 (by decide) ?_
        refine lv_ladd hx hb dX12_chutes_131 ?_
        refine lv_lstore_n (lv' := [(2, .long (v2 + v7)), (0, .ref (q 0)), (1, .int (v1)), (4, .long (v4)), (6, .int (v6)), (7, .long (v7)), (9, .int (v9))]) hx hb dX12_chutes_132 rfl hl (by decide) rfl (fun ls hl => ?_)
        refine lv_lload hx hb dX12_chutes_133 (lv_at hl 3 rfl) ?_
        refine lv_lload hx hb dX12_chutes_135 (lv_at hl 5 rfl) ?_
        refine lv_ladd hx hb dX12_chutes_137 ?_
        refine lv_lstore (lv' := [(4, .long (v4 + v7)), (2, .long (v2 + v7)), (0, .ref (q 0)), (1, .int (v1)), (6, .int (v6)), (7, .long (v7)), (9, .int (v9))]) hx hb dX12_chutes_138 hl (by decide) rfl (fun ls hl => ?_)
        refine lv_iinc (v := v6 + (1 : Int32)) (lv' := [(6, .int (v6 + (1 : Int32))), (4, .long (v4 + v7)), (2, .long (v2 + v7)), (0, .ref (q 0)), (1, .int (v1)), (7, .long (v7)), (9, .int (v9))]) hx hb dX12_chutes_140 hl (k := 4) rfl rfl (by decide) rfl (fun ls hl => ?_)
        refine lv_goto (tgt := 36) hx hb dX12_chutes_143 (by decide) ?_
        exact hk36 S v1 (v2 + v7) (v4 + v7) (v6 + (1 : Int32)) hf _ _ _ hP hD hS (lv_sub hl [3, 4, 2, 1, 0] rfl)
    · have hf := tc_neg hc hf
      refine lv_lload hx hb dX12_chutes_66 (lv_at hl 5 rfl) ?_
      refine lv_iload hx hb dX12_chutes_68 (lv_at hl 4 rfl) ?_
      refine lv_iload hx hb dX12_chutes_70 (lv_at hl 6 rfl) ?_
      obtain ⟨z4, hg, hf⟩ := tc_bi hf
      refine tc_iS0 (As := [.int (v6), .int (v9)]) (rest := [.long (v7)]) X hP hD hS (mX12_has hg) okX12_has wl_X12_102 wt_X12_has ⟨rfl, rfl, Nat.le_of_ble_eq_true rfl, Nat.le_of_ble_eq_true rfl⟩ rfl hl.1 (Nat.le_of_ble_eq_true rfl) dX12_chutes_72 (fun H locs hP hD hS => ?_)
      refine lv_if_eq (tgt := 95) hx hb dX12_chutes_75 (by decide) (fun hc => ?_) (fun hc => ?_)
      · have hf := tc_pos hc hf
        refine lv_aload_n hx hb dX12_chutes_95 rfl (lv_at hl 0 rfl) ?_
        refine va_get (D := (dC, dI)) (ci := 12) (v := .ref (q 5)) (C := RX12) (T := TX12) (N := 49) hx hb hts i_X12 hown hK hP 0 rfl rfl 20 (by decide) (hts _ wf_X12_35) (fun _ h9 => h9) rfl dX12_chutes_96 ?_
        refine lv_bipush (v := (66 : Int32)) hx hb dX12_chutes_99 (by decide) ?_
        refine lv_iload hx hb dX12_chutes_101 (lv_at hl 6 rfl) ?_
        refine lv_iadd hx hb dX12_chutes_103 ?_
        obtain ⟨hi5, hf⟩ := tc_in hf
        refine va_iald hx hb hK hP 5 1 rfl rfl hi5 dX12_chutes_104 ?_
        refine lv_i2l (v := (ia S 5 ((66 : Int32) + v9)).toInt64) hx hb dX12_chutes_105 rfl ?_
        refine lv_lmul hx hb dX12_chutes_106 ?_
        refine lv_lstore (lv' := [(7, .long (v7 * ((ia S 5 ((66 : Int32) + v9)).toInt64))), (0, .ref (q 0)), (1, .int (v1)), (2, .long (v2)), (4, .long (v4)), (6, .int (v6)), (9, .int (v9))]) hx hb dX12_chutes_107 hl (by decide) rfl (fun ls hl => ?_)
        refine lv_iinc (v := v9 + (1 : Int32)) (lv' := [(9, .int (v9 + (1 : Int32))), (7, .long (v7 * ((ia S 5 ((66 : Int32) + v9)).toInt64))), (0, .ref (q 0)), (1, .int (v1)), (2, .long (v2)), (4, .long (v4)), (6, .int (v6))]) hx hb dX12_chutes_109 hl (k := 6) rfl rfl (by decide) rfl (fun ls hl => ?_)
        refine lv_goto (tgt := 55) hx hb dX12_chutes_112 (by decide) ?_
        exact ih S v1 v2 v4 v6 (v7 * ((ia S 5 ((66 : Int32) + v9)).toInt64)) (v9 + (1 : Int32)) hf _ _ _ hP hD hS (lv_sub hl [2, 3, 4, 5, 6, 1, 0] rfl)
      · have hf := tc_neg hc hf
        refine lv_bipush (v := (16 : Int32)) hx hb dX12_chutes_78 (by decide) ?_
        refine lv_aload_n hx hb dX12_chutes_80 rfl (lv_at hl 0 rfl) ?_
        refine va_get (D := (dC, dI)) (ci := 12) (v := .ref (q 5)) (C := RX12) (T := TX12) (N := 49) hx hb hts i_X12 hown hK hP 0 rfl rfl 20 (by decide) (hts _ wf_X12_35) (fun _ h9 => h9) rfl dX12_chutes_81 ?_
        refine lv_bipush (v := (66 : Int32)) hx hb dX12_chutes_84 (by decide) ?_
        refine lv_iload hx hb dX12_chutes_86 (lv_at hl 6 rfl) ?_
        refine lv_iadd hx hb dX12_chutes_88 ?_
        obtain ⟨hi6, hf⟩ := tc_in hf
        refine va_iald hx hb hK hP 5 1 rfl rfl hi6 dX12_chutes_89 ?_
        refine lv_isub hx hb dX12_chutes_90 ?_
        refine lv_i2l (v := ((16 : Int32) - (ia S 5 ((66 : Int32) + v9))).toInt64) hx hb dX12_chutes_91 rfl ?_
        refine lv_goto (tgt := 106) hx hb dX12_chutes_92 (by decide) ?_
        refine lv_lmul hx hb dX12_chutes_106 ?_
        refine lv_lstore (lv' := [(7, .long (v7 * (((16 : Int32) - (ia S 5 ((66 : Int32) + v9))).toInt64))), (0, .ref (q 0)), (1, .int (v1)), (2, .long (v2)), (4, .long (v4)), (6, .int (v6)), (9, .int (v9))]) hx hb dX12_chutes_107 hl (by decide) rfl (fun ls hl => ?_)
        refine lv_iinc (v := v9 + (1 : Int32)) (lv' := [(9, .int (v9 + (1 : Int32))), (7, .long (v7 * (((16 : Int32) - (ia S 5 ((66 : Int32) + v9))).toInt64))), (0, .ref (q 0)), (1, .int (v1)), (2, .long (v2)), (4, .long (v4)), (6, .int (v6))]) hx hb dX12_chutes_109 hl (k := 6) rfl rfl (by decide) rfl (fun ls hl => ?_)
        refine lv_goto (tgt := 55) hx hb dX12_chutes_112 (by decide) ?_
        exact ih S v1 v2 v4 v6 (v7 * (((16 : Int32) - (ia S 5 ((66 : Int32) + v9))).toInt64)) (v9 + (1 : Int32)) hf _ _ _ hP hD hS (lv_sub hl [2, 3, 4, 5, 6, 1, 0] rfl)
set_option maxRecDepth 20000 in
theorem tX12_chutes_36 {q : Nat → Nat}  (X : tc_X dC dI ca A RX12 cX12_chutes 10 (some .boolean) p s m args meth c) (z : Int32 × ms_T)     : ∀ n : Nat, ∀ (S : ms_T) (v1 : Int32) (v2 : Int64) (v4 : Int64) (v6 : Int32), fX12_chutes_36 n S v1 v2 v4 v6 = some z → ∀ (H : Heap) (locs : List Loc) (ls : Array Slot), va_P (dC, dI) classes (w12 ca q S) H → va_D A (w12 ca q S) → va_S A s.heap H locs → lv_has ls 10 [(0, .ref (q 0)), (1, .int (v1)), (2, .long (v2)), (4, .long (v4)), (6, .int (v6))] → W p l e rmX12_chutes s m args below meth c H locs 0 0 (MQ below (tc_QI dC dI ca A (w12 ca q z.2) (z.1)) args s 0 0 A) (F0 m 36 ls []) := by
  obtain ⟨hx, hb, hr, hml, hown, hts, hlk, hK, hA, hG⟩ := id X
  intro n
  induction n with
  | zero => intro S v1 v2 v4 v6 hf; exact absurd (show none = some z from hf) (fun h => by cases h)
  | succ n ih =>
    intro S v1 v2 v4 v6 hf H locs ls hP hD hS hl
    rw [fX12_chutes_36] at hf
    refine lv_iload hx hb dX12_chutes_36 (lv_at hl 4 rfl) ?_
    refine lv_iconst (v := (1 : Int32)) hx hb dX12_chutes_38 (by decide) ?_
    refine lv_aload_n hx hb dX12_chutes_39 rfl (lv_at hl 0 rfl) ?_
    refine va_get (D := (dC, dI)) (ci := 12) (v := .ref (q 5)) (C := RX12) (T := TX12) (N := 49) hx hb hts i_X12 hown hK hP 0 rfl rfl 20 (by decide) (hts _ wf_X12_35) (fun _ h9 => h9) rfl dX12_chutes_40 ?_
    refine lv_iconst (v := (2 : Int32)) hx hb dX12_chutes_43 (by decide) ?_
    refine va_iald hx hb hK hP 5 1 rfl rfl (inb_vp (by decide)) dX12_chutes_44 ?_
    refine lv_ishl hx hb dX12_chutes_45 ?_
    refine lv_icmp_ge (tgt := 146) hx hb dX12_chutes_46 (by decide) (fun hc => ?_) (fun hc => ?_)
    · have hf := tc_pos hc hf
      refine lv_aload_n hx hb dX12_chutes_146 rfl (lv_at hl 0 rfl) ?_
      refine lv_lload_n hx hb dX12_chutes_147 rfl (lv_at hl 2 rfl) ?_
      refine lv_lload hx hb dX12_chutes_148 (lv_at hl 3 rfl) ?_
      obtain ⟨z2, hg, hf⟩ := tc_bi hf
      refine tc_iVs (As := [.long (v2), .long (v4)]) (rest := []) (b := q 0) X hP hD hS (mX12_fraction hg) okX12_fraction wl_X12_429 wi_X12_fraction ws_X12_X12_fraction_X12_fraction ⟨rfl, rfl, Nat.le_of_ble_eq_true rfl, Nat.le_of_ble_eq_true rfl⟩ 12 0 rfl rfl rfl hl.1 (Nat.le_of_ble_eq_true rfl) dX12_chutes_150 (fun H locs hP hD hS => ?_)
      obtain ⟨hz1, hf⟩ := tc_ck hf
      obtain rfl := Option.some.inj hf
      exact tc_rz X hP hD hS rfl dX12_chutes_153 hz1 rfl rfl
    · have hf := tc_neg hc hf
      refine lv_lconst (v := (1 : Int64)) hx hb dX12_chutes_49 (by decide) ?_
      refine lv_lstore (lv' := [(7, .long ((1 : Int64))), (0, .ref (q 0)), (1, .int (v1)), (2, .long (v2)), (4, .long (v4)), (6, .int (v6))]) hx hb dX12_chutes_50 hl (by decide) rfl (fun ls hl => ?_)
      refine lv_iconst (v := (0 : Int32)) hx hb dX12_chutes_52 (by decide) ?_
      refine lv_istore (lv' := [(9, .int ((0 : Int32))), (7, .long ((1 : Int64))), (0, .ref (q 0)), (1, .int (v1)), (2, .long (v2)), (4, .long (v4)), (6, .int (v6))]) hx hb dX12_chutes_53 hl (by decide) rfl (fun ls hl => ?_)
      exact tX12_chutes_55 X z (fX12_chutes_36 n) ih FU S v1 v2 v4 v6 (1 : Int64) (0 : Int32) hf _ _ _ hP hD hS (lv_sub hl [2, 3, 4, 5, 6, 1, 0] rfl)
set_option maxRecDepth 20000 in
theorem mX12_chutes {q : Nat → Nat}  {S : ms_T} {a1 : Int32} {z : Int32 × ms_T}  (hf : fX12_chutes S a1 = some z) : tc_MI l dC dI ca yX12_chutes cX12_chutes 10 (some .boolean) rmX12_chutes [.ref (q 0), .int (a1)] (w12 ca q S) (w12 ca q z.2) (z.1) := by
  refine tc_metI (own := RX12) (by decide) rfl ?_ (Nat.le_of_ble_eq_true rfl)
  intro p e s m below meth c A X hP hD hS ls hl
  obtain ⟨hx, hb, hr, hml, hown, hts, hlk, hK, hA, hG⟩ := id X
  unfold fX12_chutes at hf
  have hl : lv_has ls 10 [(0, .ref (q 0)), (1, .int (a1))] := hl
  refine lv_aload_n hx hb dX12_chutes_0 rfl (lv_at hl 0 rfl) ?_
  refine lv_iconst (v := (0 : Int32)) hx hb dX12_chutes_1 (by decide) ?_
  refine va_put (D := (dC, dI)) (ci := 12) (v := .int ((0 : Int32))) (ty := .int) (C := RX12) (T := TX12) (N := 49) hx hb hts i_X12 tyX12 tyX12_ok nmX12 hown hK hP hD hS 0 rfl rfl 1 (by decide) (hts _ wf_X12_63) (fun _ h9 => h9) rfl (tyX12_ok 1 (by decide)) rfl rfl (Nat.le_of_ble_eq_true rfl) dX12_chutes_2 (fun H locs hP hD hS => ?_)
  have hP := tc_eP (pw12_0_1 ca q S (0 : Int32)) hP
  have hD := tc_eD (pw12_0_1 ca q S (0 : Int32)) hD
  refine lv_aload_n hx hb dX12_chutes_5 rfl (lv_at hl 0 rfl) ?_
  refine lv_iconst (v := (0 : Int32)) hx hb dX12_chutes_6 (by decide) ?_
  refine va_put (D := (dC, dI)) (ci := 12) (v := .int ((0 : Int32))) (ty := .int) (C := RX12) (T := TX12) (N := 49) hx hb hts i_X12 tyX12 tyX12_ok nmX12 hown hK hP hD hS 0 rfl rfl 0 (by decide) (hts _ wf_X12_66) (fun _ h9 => h9) rfl (tyX12_ok 0 (by decide)) rfl rfl (Nat.le_of_ble_eq_true rfl) dX12_chutes_7 (fun H locs hP hD hS => ?_)
  have hP := tc_eP (pw12_0_0 ca q (si S 1 (0 : Int32)) (0 : Int32)) hP
  have hD := tc_eD (pw12_0_0 ca q (si S 1 (0 : Int32)) (0 : Int32)) hD
  refine lv_iload_n hx hb dX12_chutes_10 rfl (lv_at hl 1 rfl) ?_
  refine lv_i2l (v := a1.toInt64) hx hb dX12_chutes_11 rfl ?_
  refine lv_lconst (v := (0 : Int64)) hx hb dX12_chutes_12 (by decide) ?_
  refine lv_ldc2 (v := (6 : Int64)) hx hb hown (hts _ wk_X12_513) dX12_chutes_13 ?_
  obtain ⟨z1, hg, hf⟩ := tc_bi hf
  refine tc_iS0 (As := [.long (a1.toInt64), .long ((0 : Int64)), .long ((6 : Int64))]) (rest := []) X hP hD hS (mX12_isIn hg) okX12_isIn wl_X12_98 wt_X12_isIn ⟨rfl, rfl, Nat.le_of_ble_eq_true rfl, Nat.le_of_ble_eq_true rfl⟩ rfl hl.1 (Nat.le_of_ble_eq_true rfl) dX12_chutes_16 (fun H locs hP hD hS => ?_)
  refine lv_if_ne (tgt := 28) hx hb dX12_chutes_19 (by decide) (fun hc => ?_) (fun hc => ?_)
  · have hf := tc_neg hc hf
    refine lv_lconst (v := (0 : Int64)) hx hb dX12_chutes_28 (by decide) ?_
    refine lv_lstore_n (lv' := [(2, .long ((0 : Int64))), (0, .ref (q 0)), (1, .int (a1))]) hx hb dX12_chutes_29 rfl hl (by decide) rfl (fun ls hl => ?_)
    refine lv_lconst (v := (0 : Int64)) hx hb dX12_chutes_30 (by decide) ?_
    refine lv_lstore (lv' := [(4, .long ((0 : Int64))), (2, .long ((0 : Int64))), (0, .ref (q 0)), (1, .int (a1))]) hx hb dX12_chutes_31 hl (by decide) rfl (fun ls hl => ?_)
    refine lv_iconst (v := (0 : Int32)) hx hb dX12_chutes_33 (by decide) ?_
    refine lv_istore (lv' := [(6, .int ((0 : Int32))), (4, .long ((0 : Int64))), (2, .long ((0 : Int64))), (0, .ref (q 0)), (1, .int (a1))]) hx hb dX12_chutes_34 hl (by decide) rfl (fun ls hl => ?_)
    exact tX12_chutes_36 X z FU (si (si S 1 (0 : Int32)) 0 (0 : Int32)) a1 (0 : Int64) (0 : Int64) (0 : Int32) hf _ _ _ hP hD hS (lv_sub hl [3, 4, 2, 1, 0] rfl)
  · have hf := tc_pos hc hf
    refine lv_aload_n hx hb dX12_chutes_22 rfl (lv_at hl 0 rfl) ?_
    refine lv_iconst (v := (5 : Int32)) hx hb dX12_chutes_23 (by decide) ?_
    obtain ⟨z7, hg, hf⟩ := tc_bi hf
    refine tc_iVs (As := [.int ((5 : Int32))]) (rest := []) (b := q 0) X hP hD hS (mX12_no hg) okX12_no wl_X12_78 wi_X12_no ws_X12_X12_no_X12_no ⟨rfl, rfl, Nat.le_of_ble_eq_true rfl, Nat.le_of_ble_eq_true rfl⟩ 12 0 rfl rfl rfl hl.1 (Nat.le_of_ble_eq_true rfl) dX12_chutes_24 (fun H locs hP hD hS => ?_)
    obtain ⟨hz1, hf⟩ := tc_ck hf
    obtain rfl := Option.some.inj hf
    exact tc_rz X hP hD hS rfl dX12_chutes_27 hz1 rfl rfl
def fX12_draw  (S : ms_T) (a1 : Int32) : Option (Int32 × ms_T) :=
  if ¬ a1 = 0 then
    some (((gi (si S 42 ((((gi S 42) * (2971 : Int32)) + (10979 : Int32)) - (((gi S 42) * (2971 : Int32)) + (10979 : Int32)) / (65536 : Int32) * (65536 : Int32))) 42) / (8 : Int32)) - ((gi (si S 42 ((((gi S 42) * (2971 : Int32)) + (10979 : Int32)) - (((gi S 42) * (2971 : Int32)) + (10979 : Int32)) / (65536 : Int32) * (65536 : Int32))) 42) / (8 : Int32)) / a1 * a1, si S 42 ((((gi S 42) * (2971 : Int32)) + (10979 : Int32)) - (((gi S 42) * (2971 : Int32)) + (10979 : Int32)) / (65536 : Int32) * (65536 : Int32)))
  else none
abbrev rmX12_draw : Room := { frames := 0, cells := 0, slots := 0, locals := 0 }
theorem okX12_draw : tc_ok yX12_draw cX12_draw 2 (some .int) 1 := ⟨wc_X12_draw, wn_X12, by decide, by decide, by decide +kernel⟩
set_option maxRecDepth 20000 in
theorem mX12_draw {q : Nat → Nat}  {S : ms_T} {a1 : Int32} {z : Int32 × ms_T}  (hf : fX12_draw S a1 = some z) : tc_MI l dC dI ca yX12_draw cX12_draw 2 (some .int) rmX12_draw [.ref (q 0), .int (a1)] (w12 ca q S) (w12 ca q z.2) (z.1) := by
  refine tc_metI (own := RX12) (by decide) rfl ?_ (Nat.le_of_ble_eq_true rfl)
  intro p e s m below meth c A X hP hD hS ls hl
  obtain ⟨hx, hb, hr, hml, hown, hts, hlk, hK, hA, hG⟩ := id X
  unfold fX12_draw at hf
  have hl : lv_has ls 2 [(0, .ref (q 0)), (1, .int (a1))] := hl
  refine lv_aload_n hx hb dX12_draw_0 rfl (lv_at hl 0 rfl) ?_
  refine lv_aload_n hx hb dX12_draw_1 rfl (lv_at hl 0 rfl) ?_
  refine va_get (D := (dC, dI)) (ci := 12) (v := .int (gi S 42)) (C := RX12) (T := TX12) (N := 49) hx hb hts i_X12 hown hK hP 0 rfl rfl 42 (by decide) (hts _ wf_X12_515) (fun _ h9 => h9) rfl dX12_draw_2 ?_
  refine lv_sipush (v := (2971 : Int32)) hx hb dX12_draw_5 (by decide) ?_
  refine lv_imul hx hb dX12_draw_8 ?_
  refine lv_sipush (v := (10979 : Int32)) hx hb dX12_draw_9 (by decide) ?_
  refine lv_iadd hx hb dX12_draw_12 ?_
  refine lv_ldcw (v := (65536 : Int32)) hx hb hown (hts _ wk_X12_518) dX12_draw_13 ?_
  refine lv_irem hx hb dX12_draw_16 (by decide) ?_
  refine va_put (D := (dC, dI)) (ci := 12) (v := .int ((((gi S 42) * (2971 : Int32)) + (10979 : Int32)) - (((gi S 42) * (2971 : Int32)) + (10979 : Int32)) / (65536 : Int32) * (65536 : Int32))) (ty := .int) (C := RX12) (T := TX12) (N := 49) hx hb hts i_X12 tyX12 tyX12_ok nmX12 hown hK hP hD hS 0 rfl rfl 42 (by decide) (hts _ wf_X12_515) (fun _ h9 => h9) rfl (tyX12_ok 42 (by decide)) rfl rfl (Nat.le_of_ble_eq_true rfl) dX12_draw_17 (fun H locs hP hD hS => ?_)
  have hP := tc_eP (pw12_0_42 ca q S ((((gi S 42) * (2971 : Int32)) + (10979 : Int32)) - (((gi S 42) * (2971 : Int32)) + (10979 : Int32)) / (65536 : Int32) * (65536 : Int32))) hP
  have hD := tc_eD (pw12_0_42 ca q S ((((gi S 42) * (2971 : Int32)) + (10979 : Int32)) - (((gi S 42) * (2971 : Int32)) + (10979 : Int32)) / (65536 : Int32) * (65536 : Int32))) hD
  refine lv_aload_n hx hb dX12_draw_20 rfl (lv_at hl 0 rfl) ?_
  refine va_get (D := (dC, dI)) (ci := 12) (v := .int (gi (si S 42 ((((gi S 42) * (2971 : Int32)) + (10979 : Int32)) - (((gi S 42) * (2971 : Int32)) + (10979 : Int32)) / (65536 : Int32) * (65536 : Int32))) 42)) (C := RX12) (T := TX12) (N := 49) hx hb hts i_X12 hown hK hP 0 rfl rfl 42 (by decide) (hts _ wf_X12_515) (fun _ h9 => h9) rfl dX12_draw_21 ?_
  refine lv_bipush (v := (8 : Int32)) hx hb dX12_draw_24 (by decide) ?_
  refine lv_idiv hx hb dX12_draw_26 (by decide) ?_
  refine lv_iload_n hx hb dX12_draw_27 rfl (lv_at hl 1 rfl) ?_
  obtain ⟨hne, hf⟩ := tc_ck hf
  refine lv_irem hx hb dX12_draw_28 hne ?_
  obtain rfl := Option.some.inj hf
  exact tc_ri X hP hD hS rfl dX12_draw_29 rfl rfl
def fX12_isSaid  (S : ms_T) (a1 : Int32) (a2 : Int32) : Option (Int32 × ms_T) :=
  (fX12_says S a1 a2).bind fun z1 =>
  if z1.1 = 0 then
    if z1.1 &&& 1 = z1.1 then
      some (z1.1, si z1.2 46 ((gi z1.2 46) + (0 : Int32)))
    else none
  else
    if inb ((60 : Int32) + a1) 1820 = true then
      if z1.1 &&& 1 = z1.1 then
        some (z1.1, si z1.2 46 ((gi z1.2 46) + (ia z1.2 5 ((60 : Int32) + a1))))
      else none
    else none
abbrev rmX12_isSaid : Room := { frames := 4, cells := 0, slots := 0, locals := 90 }
theorem okX12_isSaid : tc_ok yX12_isSaid cX12_isSaid 4 (some .boolean) 2 := ⟨wc_X12_isSaid, wn_X12, by decide, by decide, by decide +kernel⟩
set_option maxRecDepth 20000 in
theorem mX12_isSaid {q : Nat → Nat}  {S : ms_T} {a1 : Int32} {a2 : Int32} {z : Int32 × ms_T}  (hf : fX12_isSaid S a1 a2 = some z) : tc_MI l dC dI ca yX12_isSaid cX12_isSaid 4 (some .boolean) rmX12_isSaid [.ref (q 0), .int (a1), .int (a2)] (w12 ca q S) (w12 ca q z.2) (z.1) := by
  refine tc_metI (own := RX12) (by decide) rfl ?_ (Nat.le_of_ble_eq_true rfl)
  intro p e s m below meth c A X hP hD hS ls hl
  obtain ⟨hx, hb, hr, hml, hown, hts, hlk, hK, hA, hG⟩ := id X
  unfold fX12_isSaid at hf
  have hl : lv_has ls 4 [(0, .ref (q 0)), (1, .int (a1)), (2, .int (a2))] := hl
  refine lv_aload_n hx hb dX12_isSaid_0 rfl (lv_at hl 0 rfl) ?_
  refine lv_iload_n hx hb dX12_isSaid_1 rfl (lv_at hl 1 rfl) ?_
  refine lv_iload_n hx hb dX12_isSaid_2 rfl (lv_at hl 2 rfl) ?_
  obtain ⟨z1, hg, hf⟩ := tc_bi hf
  refine tc_iVs (As := [.int (a1), .int (a2)]) (rest := []) (b := q 0) X hP hD hS (mX12_says hg) okX12_says wl_X12_377 wi_X12_says ws_X12_X12_says_X12_says ⟨rfl, rfl, Nat.le_of_ble_eq_true rfl, Nat.le_of_ble_eq_true rfl⟩ 12 0 rfl rfl rfl hl.1 (Nat.le_of_ble_eq_true rfl) dX12_isSaid_3 (fun H locs hP hD hS => ?_)
  refine lv_istore_n (lv' := [(3, .int (z1.1)), (0, .ref (q 0)), (1, .int (a1)), (2, .int (a2))]) hx hb dX12_isSaid_6 rfl hl (by decide) rfl (fun ls hl => ?_)
  refine lv_aload_n hx hb dX12_isSaid_7 rfl (lv_at hl 1 rfl) ?_
  refine lv_dup hx hb dX12_isSaid_8 rfl ?_
  refine va_get (D := (dC, dI)) (ci := 12) (v := .int (gi z1.2 46)) (C := RX12) (T := TX12) (N := 49) hx hb hts i_X12 hown hK hP 0 rfl rfl 46 (by decide) (hts _ wf_X12_519) (fun _ h9 => h9) rfl dX12_isSaid_9 ?_
  refine lv_iload_n hx hb dX12_isSaid_12 rfl (lv_at hl 0 rfl) ?_
  refine lv_if_eq (tgt := 28) hx hb dX12_isSaid_13 (by decide) (fun hc => ?_) (fun hc => ?_)
  · have hf := tc_pos hc hf
    refine lv_iconst (v := (0 : Int32)) hx hb dX12_isSaid_28 (by decide) ?_
    refine lv_iadd hx hb dX12_isSaid_29 ?_
    refine va_put (D := (dC, dI)) (ci := 12) (v := .int ((gi z1.2 46) + (0 : Int32))) (ty := .int) (C := RX12) (T := TX12) (N := 49) hx hb hts i_X12 tyX12 tyX12_ok nmX12 hown hK hP hD hS 0 rfl rfl 46 (by decide) (hts _ wf_X12_519) (fun _ h9 => h9) rfl (tyX12_ok 46 (by decide)) rfl rfl (Nat.le_of_ble_eq_true rfl) dX12_isSaid_30 (fun H locs hP hD hS => ?_)
    have hP := tc_eP (pw12_0_46 ca q z1.2 ((gi z1.2 46) + (0 : Int32))) hP
    have hD := tc_eD (pw12_0_46 ca q z1.2 ((gi z1.2 46) + (0 : Int32))) hD
    refine lv_iload_n hx hb dX12_isSaid_33 rfl (lv_at hl 0 rfl) ?_
    obtain ⟨hz1, hf⟩ := tc_ck hf
    obtain rfl := Option.some.inj hf
    exact tc_rz X hP hD hS rfl dX12_isSaid_34 hz1 rfl rfl
  · have hf := tc_neg hc hf
    refine lv_aload_n hx hb dX12_isSaid_16 rfl (lv_at hl 1 rfl) ?_
    refine va_get (D := (dC, dI)) (ci := 12) (v := .ref (q 5)) (C := RX12) (T := TX12) (N := 49) hx hb hts i_X12 hown hK hP 0 rfl rfl 20 (by decide) (hts _ wf_X12_35) (fun _ h9 => h9) rfl dX12_isSaid_17 ?_
    refine lv_bipush (v := (60 : Int32)) hx hb dX12_isSaid_20 (by decide) ?_
    refine lv_iload_n hx hb dX12_isSaid_22 rfl (lv_at hl 2 rfl) ?_
    refine lv_iadd hx hb dX12_isSaid_23 ?_
    obtain ⟨hi2, hf⟩ := tc_in hf
    refine va_iald hx hb hK hP 5 1 rfl rfl hi2 dX12_isSaid_24 ?_
    refine lv_goto (tgt := 29) hx hb dX12_isSaid_25 (by decide) ?_
    refine lv_iadd hx hb dX12_isSaid_29 ?_
    refine va_put (D := (dC, dI)) (ci := 12) (v := .int ((gi z1.2 46) + (ia z1.2 5 ((60 : Int32) + a1)))) (ty := .int) (C := RX12) (T := TX12) (N := 49) hx hb hts i_X12 tyX12 tyX12_ok nmX12 hown hK hP hD hS 0 rfl rfl 46 (by decide) (hts _ wf_X12_519) (fun _ h9 => h9) rfl (tyX12_ok 46 (by decide)) rfl rfl (Nat.le_of_ble_eq_true rfl) dX12_isSaid_30 (fun H locs hP hD hS => ?_)
    have hP := tc_eP (pw12_0_46 ca q z1.2 ((gi z1.2 46) + (ia z1.2 5 ((60 : Int32) + a1)))) hP
    have hD := tc_eD (pw12_0_46 ca q z1.2 ((gi z1.2 46) + (ia z1.2 5 ((60 : Int32) + a1)))) hD
    refine lv_iload_n hx hb dX12_isSaid_33 rfl (lv_at hl 0 rfl) ?_
    obtain ⟨hz1, hf⟩ := tc_ck hf
    obtain rfl := Option.some.inj hf
    exact tc_rz X hP hD hS rfl dX12_isSaid_34 hz1 rfl rfl
def fX12_isPulled  (S : ms_T) (a1 : Int32) : Option (Int32 × ms_T) :=
  if inb ((60 : Int32) + a1) 1820 = true then
    if (ia S 5 ((60 : Int32) + a1)) = 0 then
      some ((0 : Int32), S)
    else
      (fX12_draw (si S 47 ((gi S 47) + (1 : Int32))) (16 : Int32)).bind fun z2 =>
      if inb ((66 : Int32) + a1) 1820 = true then
        if z2.1 < (ia z2.2 5 ((66 : Int32) + a1)) then
          (fX12_pulls z2.2 a1 (0 : Int32)).bind fun z4 =>
          if z4.1 &&& 1 = z4.1 then
            some (z4.1, z4.2)
          else none
        else
          (fX12_pulls z2.2 a1 (1 : Int32)).bind fun z5 =>
          if z5.1 &&& 1 = z5.1 then
            some (z5.1, z5.2)
          else none
      else none
  else none
abbrev rmX12_isPulled : Room := { frames := 3, cells := 0, slots := 0, locals := 66 }
theorem okX12_isPulled : tc_ok yX12_isPulled cX12_isPulled 2 (some .boolean) 1 := ⟨wc_X12_isPulled, wn_X12, by decide, by decide, by decide +kernel⟩
set_option maxRecDepth 20000 in
theorem mX12_isPulled {q : Nat → Nat}  {S : ms_T} {a1 : Int32} {z : Int32 × ms_T}  (hf : fX12_isPulled S a1 = some z) : tc_MI l dC dI ca yX12_isPulled cX12_isPulled 2 (some .boolean) rmX12_isPulled [.ref (q 0), .int (a1)] (w12 ca q S) (w12 ca q z.2) (z.1) := by
  refine tc_metI (own := RX12) (by decide) rfl ?_ (Nat.le_of_ble_eq_true rfl)
  intro p e s m below meth c A X hP hD hS ls hl
  obtain ⟨hx, hb, hr, hml, hown, hts, hlk, hK, hA, hG⟩ := id X
  unfold fX12_isPulled at hf
  have hl : lv_has ls 2 [(0, .ref (q 0)), (1, .int (a1))] := hl
  refine lv_aload_n hx hb dX12_isPulled_0 rfl (lv_at hl 0 rfl) ?_
  refine va_get (D := (dC, dI)) (ci := 12) (v := .ref (q 5)) (C := RX12) (T := TX12) (N := 49) hx hb hts i_X12 hown hK hP 0 rfl rfl 20 (by decide) (hts _ wf_X12_35) (fun _ h9 => h9) rfl dX12_isPulled_1 ?_
  refine lv_bipush (v := (60 : Int32)) hx hb dX12_isPulled_4 (by decide) ?_
  refine lv_iload_n hx hb dX12_isPulled_6 rfl (lv_at hl 1 rfl) ?_
  refine lv_iadd hx hb dX12_isPulled_7 ?_
  obtain ⟨hi1, hf⟩ := tc_in hf
  refine va_iald hx hb hK hP 5 1 rfl rfl hi1 dX12_isPulled_8 ?_
  refine lv_if_ne (tgt := 14) hx hb dX12_isPulled_9 (by decide) (fun hc => ?_) (fun hc => ?_)
  · have hf := tc_neg hc hf
    refine lv_aload_n hx hb dX12_isPulled_14 rfl (lv_at hl 0 rfl) ?_
    refine lv_dup hx hb dX12_isPulled_15 rfl ?_
    refine va_get (D := (dC, dI)) (ci := 12) (v := .int (gi S 47)) (C := RX12) (T := TX12) (N := 49) hx hb hts i_X12 hown hK hP 0 rfl rfl 47 (by decide) (hts _ wf_X12_522) (fun _ h9 => h9) rfl dX12_isPulled_16 ?_
    refine lv_iconst (v := (1 : Int32)) hx hb dX12_isPulled_19 (by decide) ?_
    refine lv_iadd hx hb dX12_isPulled_20 ?_
    refine va_put (D := (dC, dI)) (ci := 12) (v := .int ((gi S 47) + (1 : Int32))) (ty := .int) (C := RX12) (T := TX12) (N := 49) hx hb hts i_X12 tyX12 tyX12_ok nmX12 hown hK hP hD hS 0 rfl rfl 47 (by decide) (hts _ wf_X12_522) (fun _ h9 => h9) rfl (tyX12_ok 47 (by decide)) rfl rfl (Nat.le_of_ble_eq_true rfl) dX12_isPulled_21 (fun H locs hP hD hS => ?_)
    have hP := tc_eP (pw12_0_47 ca q S ((gi S 47) + (1 : Int32))) hP
    have hD := tc_eD (pw12_0_47 ca q S ((gi S 47) + (1 : Int32))) hD
    refine lv_aload_n hx hb dX12_isPulled_24 rfl (lv_at hl 0 rfl) ?_
    refine lv_iload_n hx hb dX12_isPulled_25 rfl (lv_at hl 1 rfl) ?_
    refine lv_aload_n hx hb dX12_isPulled_26 rfl (lv_at hl 0 rfl) ?_
    refine lv_bipush (v := (16 : Int32)) hx hb dX12_isPulled_27 (by decide) ?_
    obtain ⟨z2, hg, hf⟩ := tc_bi hf
    refine tc_iVs (As := [.int ((16 : Int32))]) (rest := [.int (a1), .ref (q 0)]) (b := q 0) X hP hD hS (mX12_draw hg) okX12_draw wl_X12_525 wi_X12_draw ws_X12_X12_draw_X12_draw ⟨rfl, rfl, Nat.le_of_ble_eq_true rfl, Nat.le_of_ble_eq_true rfl⟩ 12 0 rfl rfl rfl hl.1 (Nat.le_of_ble_eq_true rfl) dX12_isPulled_29 (fun H locs hP hD hS => ?_)
    refine lv_aload_n hx hb dX12_isPulled_32 rfl (lv_at hl 0 rfl) ?_
    refine va_get (D := (dC, dI)) (ci := 12) (v := .ref (q 5)) (C := RX12) (T := TX12) (N := 49) hx hb hts i_X12 hown hK hP 0 rfl rfl 20 (by decide) (hts _ wf_X12_35) (fun _ h9 => h9) rfl dX12_isPulled_33 ?_
    refine lv_bipush (v := (66 : Int32)) hx hb dX12_isPulled_36 (by decide) ?_
    refine lv_iload_n hx hb dX12_isPulled_38 rfl (lv_at hl 1 rfl) ?_
    refine lv_iadd hx hb dX12_isPulled_39 ?_
    obtain ⟨hi3, hf⟩ := tc_in hf
    refine va_iald hx hb hK hP 5 1 rfl rfl hi3 dX12_isPulled_40 ?_
    refine lv_icmp_lt (tgt := 48) hx hb dX12_isPulled_41 (by decide) (fun hc => ?_) (fun hc => ?_)
    · have hf := tc_pos hc hf
      refine lv_iconst (v := (0 : Int32)) hx hb dX12_isPulled_48 (by decide) ?_
      obtain ⟨z4, hg, hf⟩ := tc_bi hf
      refine tc_iVs (As := [.int (a1), .int ((0 : Int32))]) (rest := []) (b := q 0) X hP hD hS (mX12_pulls hg) okX12_pulls wl_X12_389 wi_X12_pulls ws_X12_X12_pulls_X12_pulls ⟨rfl, rfl, Nat.le_of_ble_eq_true rfl, Nat.le_of_ble_eq_true rfl⟩ 12 0 rfl rfl rfl hl.1 (Nat.le_of_ble_eq_true rfl) dX12_isPulled_49 (fun H locs hP hD hS => ?_)
      obtain ⟨hz1, hf⟩ := tc_ck hf
      obtain rfl := Option.some.inj hf
      exact tc_rz X hP hD hS rfl dX12_isPulled_52 hz1 rfl rfl
    · have hf := tc_neg hc hf
      refine lv_iconst (v := (1 : Int32)) hx hb dX12_isPulled_44 (by decide) ?_
      refine lv_goto (tgt := 49) hx hb dX12_isPulled_45 (by decide) ?_
      obtain ⟨z5, hg, hf⟩ := tc_bi hf
      refine tc_iVs (As := [.int (a1), .int ((1 : Int32))]) (rest := []) (b := q 0) X hP hD hS (mX12_pulls hg) okX12_pulls wl_X12_389 wi_X12_pulls ws_X12_X12_pulls_X12_pulls ⟨rfl, rfl, Nat.le_of_ble_eq_true rfl, Nat.le_of_ble_eq_true rfl⟩ 12 0 rfl rfl rfl hl.1 (Nat.le_of_ble_eq_true rfl) dX12_isPulled_49 (fun H locs hP hD hS => ?_)
      obtain ⟨hz1, hf⟩ := tc_ck hf
      obtain rfl := Option.some.inj hf
      exact tc_rz X hP hD hS rfl dX12_isPulled_52 hz1 rfl rfl
  · have hf := tc_pos hc hf
    refine lv_iconst (v := (0 : Int32)) hx hb dX12_isPulled_12 (by decide) ?_
    obtain rfl := Option.some.inj hf
    exact tc_rz X hP hD hS rfl dX12_isPulled_13 (by decide) rfl rfl
def fX12_isAny  (S : ms_T)  : Option (Int32 × ms_T) :=
  if (ia S 5 (2 : Int32)) = 0 then
    some ((0 : Int32), S)
  else
    if (ia S 5 (1 : Int32)) = 0 then
      some ((0 : Int32), S)
    else
      (fX12_draw S (ia S 5 (2 : Int32))).bind fun z1 =>
      (fX12_draw z1.2 (ia z1.2 5 (1 : Int32))).bind fun z2 =>
      if inb ((60 : Int32) + z1.1) 1820 = true then
        if (ia z2.2 5 ((60 : Int32) + z1.1)) = (1 : Int32) then
          (fX12_isPulled z2.2 z1.1).bind fun z5 =>
          if z5.1 &&& 1 = z5.1 then
            some (z5.1, z5.2)
          else none
        else
          (fX12_isSaid z2.2 z1.1 z2.1).bind fun z4 =>
          if z4.1 &&& 1 = z4.1 then
            some (z4.1, z4.2)
          else none
      else none
abbrev rmX12_isAny : Room := { frames := 5, cells := 0, slots := 0, locals := 113 }
theorem okX12_isAny : tc_ok yX12_isAny cX12_isAny 3 (some .boolean) 0 := ⟨wc_X12_isAny, wn_X12, by decide, by decide, by decide +kernel⟩
set_option maxRecDepth 20000 in
theorem mX12_isAny {q : Nat → Nat}  {S : ms_T}  {z : Int32 × ms_T}  (hf : fX12_isAny S = some z) : tc_MI l dC dI ca yX12_isAny cX12_isAny 3 (some .boolean) rmX12_isAny [.ref (q 0)] (w12 ca q S) (w12 ca q z.2) (z.1) := by
  refine tc_metI (own := RX12) (by decide) rfl ?_ (Nat.le_of_ble_eq_true rfl)
  intro p e s m below meth c A X hP hD hS ls hl
  obtain ⟨hx, hb, hr, hml, hown, hts, hlk, hK, hA, hG⟩ := id X
  unfold fX12_isAny at hf
  have hl : lv_has ls 3 [(0, .ref (q 0))] := hl
  refine lv_aload_n hx hb dX12_isAny_0 rfl (lv_at hl 0 rfl) ?_
  refine va_get (D := (dC, dI)) (ci := 12) (v := .ref (q 5)) (C := RX12) (T := TX12) (N := 49) hx hb hts i_X12 hown hK hP 0 rfl rfl 20 (by decide) (hts _ wf_X12_35) (fun _ h9 => h9) rfl dX12_isAny_1 ?_
  refine lv_iconst (v := (2 : Int32)) hx hb dX12_isAny_4 (by decide) ?_
  refine va_iald hx hb hK hP 5 1 rfl rfl (inb_vp (by decide)) dX12_isAny_5 ?_
  refine lv_if_eq (tgt := 18) hx hb dX12_isAny_6 (by decide) (fun hc => ?_) (fun hc => ?_)
  · have hf := tc_pos hc hf
    refine lv_iconst (v := (0 : Int32)) hx hb dX12_isAny_18 (by decide) ?_
    obtain rfl := Option.some.inj hf
    exact tc_rz X hP hD hS rfl dX12_isAny_19 (by decide) rfl rfl
  · have hf := tc_neg hc hf
    refine lv_aload_n hx hb dX12_isAny_9 rfl (lv_at hl 0 rfl) ?_
    refine va_get (D := (dC, dI)) (ci := 12) (v := .ref (q 5)) (C := RX12) (T := TX12) (N := 49) hx hb hts i_X12 hown hK hP 0 rfl rfl 20 (by decide) (hts _ wf_X12_35) (fun _ h9 => h9) rfl dX12_isAny_10 ?_
    refine lv_iconst (v := (1 : Int32)) hx hb dX12_isAny_13 (by decide) ?_
    refine va_iald hx hb hK hP 5 1 rfl rfl (inb_vp (by decide)) dX12_isAny_14 ?_
    refine lv_if_ne (tgt := 20) hx hb dX12_isAny_15 (by decide) (fun hc => ?_) (fun hc => ?_)
    · have hf := tc_neg hc hf
      refine lv_aload_n hx hb dX12_isAny_20 rfl (lv_at hl 0 rfl) ?_
      refine lv_aload_n hx hb dX12_isAny_21 rfl (lv_at hl 0 rfl) ?_
      refine va_get (D := (dC, dI)) (ci := 12) (v := .ref (q 5)) (C := RX12) (T := TX12) (N := 49) hx hb hts i_X12 hown hK hP 0 rfl rfl 20 (by decide) (hts _ wf_X12_35) (fun _ h9 => h9) rfl dX12_isAny_22 ?_
      refine lv_iconst (v := (2 : Int32)) hx hb dX12_isAny_25 (by decide) ?_
      refine va_iald hx hb hK hP 5 1 rfl rfl (inb_vp (by decide)) dX12_isAny_26 ?_
      obtain ⟨z1, hg, hf⟩ := tc_bi hf
      refine tc_iVs (As := [.int (ia S 5 (2 : Int32))]) (rest := []) (b := q 0) X hP hD hS (mX12_draw hg) okX12_draw wl_X12_525 wi_X12_draw ws_X12_X12_draw_X12_draw ⟨rfl, rfl, Nat.le_of_ble_eq_true rfl, Nat.le_of_ble_eq_true rfl⟩ 12 0 rfl rfl rfl hl.1 (Nat.le_of_ble_eq_true rfl) dX12_isAny_27 (fun H locs hP hD hS => ?_)
      refine lv_istore_n (lv' := [(1, .int (z1.1)), (0, .ref (q 0))]) hx hb dX12_isAny_30 rfl hl (by decide) rfl (fun ls hl => ?_)
      refine lv_aload_n hx hb dX12_isAny_31 rfl (lv_at hl 1 rfl) ?_
      refine lv_aload_n hx hb dX12_isAny_32 rfl (lv_at hl 1 rfl) ?_
      refine va_get (D := (dC, dI)) (ci := 12) (v := .ref (q 5)) (C := RX12) (T := TX12) (N := 49) hx hb hts i_X12 hown hK hP 0 rfl rfl 20 (by decide) (hts _ wf_X12_35) (fun _ h9 => h9) rfl dX12_isAny_33 ?_
      refine lv_iconst (v := (1 : Int32)) hx hb dX12_isAny_36 (by decide) ?_
      refine va_iald hx hb hK hP 5 1 rfl rfl (inb_vp (by decide)) dX12_isAny_37 ?_
      obtain ⟨z2, hg, hf⟩ := tc_bi hf
      refine tc_iVs (As := [.int (ia z1.2 5 (1 : Int32))]) (rest := []) (b := q 0) X hP hD hS (mX12_draw hg) okX12_draw wl_X12_525 wi_X12_draw ws_X12_X12_draw_X12_draw ⟨rfl, rfl, Nat.le_of_ble_eq_true rfl, Nat.le_of_ble_eq_true rfl⟩ 12 0 rfl rfl rfl hl.1 (Nat.le_of_ble_eq_true rfl) dX12_isAny_38 (fun H locs hP hD hS => ?_)
      refine lv_istore_n (lv' := [(2, .int (z2.1)), (1, .int (z1.1)), (0, .ref (q 0))]) hx hb dX12_isAny_41 rfl hl (by decide) rfl (fun ls hl => ?_)
      refine lv_aload_n hx hb dX12_isAny_42 rfl (lv_at hl 2 rfl) ?_
      refine va_get (D := (dC, dI)) (ci := 12) (v := .ref (q 5)) (C := RX12) (T := TX12) (N := 49) hx hb hts i_X12 hown hK hP 0 rfl rfl 20 (by decide) (hts _ wf_X12_35) (fun _ h9 => h9) rfl dX12_isAny_43 ?_
      refine lv_bipush (v := (60 : Int32)) hx hb dX12_isAny_46 (by decide) ?_
      refine lv_iload_n hx hb dX12_isAny_48 rfl (lv_at hl 1 rfl) ?_
      refine lv_iadd hx hb dX12_isAny_49 ?_
      obtain ⟨hi3, hf⟩ := tc_in hf
      refine va_iald hx hb hK hP 5 1 rfl rfl hi3 dX12_isAny_50 ?_
      refine lv_iconst (v := (1 : Int32)) hx hb dX12_isAny_51 (by decide) ?_
      refine lv_icmp_ne (tgt := 63) hx hb dX12_isAny_52 (by decide) (fun hc => ?_) (fun hc => ?_)
      · have hf := tc_neg hc hf
        refine lv_aload_n hx hb dX12_isAny_63 rfl (lv_at hl 2 rfl) ?_
        refine lv_iload_n hx hb dX12_isAny_64 rfl (lv_at hl 1 rfl) ?_
        refine lv_iload_n hx hb dX12_isAny_65 rfl (lv_at hl 0 rfl) ?_
        obtain ⟨z4, hg, hf⟩ := tc_bi hf
        refine tc_iVs (As := [.int (z1.1), .int (z2.1)]) (rest := []) (b := q 0) X hP hD hS (mX12_isSaid hg) okX12_isSaid wl_X12_531 wi_X12_isSaid ws_X12_X12_isSaid_X12_isSaid ⟨rfl, rfl, Nat.le_of_ble_eq_true rfl, Nat.le_of_ble_eq_true rfl⟩ 12 0 rfl rfl rfl hl.1 (Nat.le_of_ble_eq_true rfl) dX12_isAny_66 (fun H locs hP hD hS => ?_)
        obtain ⟨hz1, hf⟩ := tc_ck hf
        obtain rfl := Option.some.inj hf
        exact tc_rz X hP hD hS rfl dX12_isAny_69 hz1 rfl rfl
      · have hf := tc_pos hc hf
        refine lv_aload_n hx hb dX12_isAny_55 rfl (lv_at hl 2 rfl) ?_
        refine lv_iload_n hx hb dX12_isAny_56 rfl (lv_at hl 1 rfl) ?_
        obtain ⟨z5, hg, hf⟩ := tc_bi hf
        refine tc_iVs (As := [.int (z1.1)]) (rest := []) (b := q 0) X hP hD hS (mX12_isPulled hg) okX12_isPulled wl_X12_528 wi_X12_isPulled ws_X12_X12_isPulled_X12_isPulled ⟨rfl, rfl, Nat.le_of_ble_eq_true rfl, Nat.le_of_ble_eq_true rfl⟩ 12 0 rfl rfl rfl hl.1 (Nat.le_of_ble_eq_true rfl) dX12_isAny_57 (fun H locs hP hD hS => ?_)
        refine lv_goto (tgt := 69) hx hb dX12_isAny_60 (by decide) ?_
        obtain ⟨hz1, hf⟩ := tc_ck hf
        obtain rfl := Option.some.inj hf
        exact tc_rz X hP hD hS rfl dX12_isAny_69 hz1 rfl rfl
    · have hf := tc_pos hc hf
      refine lv_iconst (v := (0 : Int32)) hx hb dX12_isAny_18 (by decide) ?_
      obtain rfl := Option.some.inj hf
      exact tc_rz X hP hD hS rfl dX12_isAny_19 (by decide) rfl rfl
def fX12_does  (S : ms_T) (a1 : Int32) : Option (Int32 × ms_T) :=
  if inb a1 1820 = true then
    if inb (a1 + (1 : Int32)) 1820 = true then
      if (ia S 5 a1) = 0 then
        if inb (a1 + (2 : Int32)) 1820 = true then
          (fX12_isSaid S (ia S 5 (a1 + (1 : Int32))) (ia S 5 (a1 + (2 : Int32)))).bind fun z10 =>
          if z10.1 &&& 1 = z10.1 then
            some (z10.1, z10.2)
          else none
        else none
      else
        if (ia S 5 a1) = (1 : Int32) then
          if inb (a1 + (2 : Int32)) 1820 = true then
            (fX12_drops S (ia S 5 (a1 + (1 : Int32))) (ia S 5 (a1 + (2 : Int32)))).bind fun z8 =>
            if z8.1 &&& 1 = z8.1 then
              some (z8.1, z8.2)
            else none
          else none
        else
          if (ia S 5 a1) = (2 : Int32) then
            (fX12_isPulled S (ia S 5 (a1 + (1 : Int32)))).bind fun z6 =>
            if z6.1 &&& 1 = z6.1 then
              some (z6.1, z6.2)
            else none
          else
            if (ia S 5 a1) = (5 : Int32) then
              (fX12_isAny S).bind fun z5 =>
              if z5.1 &&& 1 = z5.1 then
                some (z5.1, z5.2)
              else none
            else
              if (ia S 5 a1) = (3 : Int32) then
                (fX12_becomes S ((40 : Int32) + (ia S 5 (a1 + (1 : Int32)))) (1 : Int32)).bind fun z4 =>
                if z4.1 &&& 1 = z4.1 then
                  some (z4.1, z4.2)
                else none
              else
                (fX12_becomes S ((40 : Int32) + (ia S 5 (a1 + (1 : Int32)))) (0 : Int32)).bind fun z3 =>
                if z3.1 &&& 1 = z3.1 then
                  some (z3.1, z3.2)
                else none
    else none
  else none
abbrev rmX12_does : Room := { frames := 6, cells := 0, slots := 0, locals := 135 }
theorem okX12_does : tc_ok yX12_does cX12_does 4 (some .boolean) 1 := ⟨wc_X12_does, wn_X12, by decide, by decide, by decide +kernel⟩
set_option maxRecDepth 20000 in
theorem mX12_does {q : Nat → Nat}  {S : ms_T} {a1 : Int32} {z : Int32 × ms_T}  (hf : fX12_does S a1 = some z) : tc_MI l dC dI ca yX12_does cX12_does 4 (some .boolean) rmX12_does [.ref (q 0), .int (a1)] (w12 ca q S) (w12 ca q z.2) (z.1) := by
  refine tc_metI (own := RX12) (by decide) rfl ?_ (Nat.le_of_ble_eq_true rfl)
  intro p e s m below meth c A X hP hD hS ls hl
  obtain ⟨hx, hb, hr, hml, hown, hts, hlk, hK, hA, hG⟩ := id X
  unfold fX12_does at hf
  have hl : lv_has ls 4 [(0, .ref (q 0)), (1, .int (a1))] := hl
  refine lv_aload_n hx hb dX12_does_0 rfl (lv_at hl 0 rfl) ?_
  refine va_get (D := (dC, dI)) (ci := 12) (v := .ref (q 5)) (C := RX12) (T := TX12) (N := 49) hx hb hts i_X12 hown hK hP 0 rfl rfl 20 (by decide) (hts _ wf_X12_35) (fun _ h9 => h9) rfl dX12_does_1 ?_
  refine lv_iload_n hx hb dX12_does_4 rfl (lv_at hl 1 rfl) ?_
  obtain ⟨hi1, hf⟩ := tc_in hf
  refine va_iald hx hb hK hP 5 1 rfl rfl hi1 dX12_does_5 ?_
  refine lv_istore_n (lv' := [(2, .int (ia S 5 a1)), (0, .ref (q 0)), (1, .int (a1))]) hx hb dX12_does_6 rfl hl (by decide) rfl (fun ls hl => ?_)
  refine lv_aload_n hx hb dX12_does_7 rfl (lv_at hl 1 rfl) ?_
  refine va_get (D := (dC, dI)) (ci := 12) (v := .ref (q 5)) (C := RX12) (T := TX12) (N := 49) hx hb hts i_X12 hown hK hP 0 rfl rfl 20 (by decide) (hts _ wf_X12_35) (fun _ h9 => h9) rfl dX12_does_8 ?_
  refine lv_iload_n hx hb dX12_does_11 rfl (lv_at hl 2 rfl) ?_
  refine lv_iconst (v := (1 : Int32)) hx hb dX12_does_12 (by decide) ?_
  refine lv_iadd hx hb dX12_does_13 ?_
  obtain ⟨hi2, hf⟩ := tc_in hf
  refine va_iald hx hb hK hP 5 1 rfl rfl hi2 dX12_does_14 ?_
  refine lv_istore_n (lv' := [(3, .int (ia S 5 (a1 + (1 : Int32)))), (2, .int (ia S 5 a1)), (0, .ref (q 0)), (1, .int (a1))]) hx hb dX12_does_15 rfl hl (by decide) rfl (fun ls hl => ?_)
  refine lv_iload_n hx hb dX12_does_16 rfl (lv_at hl 1 rfl) ?_
  refine lv_if_ne (tgt := 34) hx hb dX12_does_17 (by decide) (fun hc => ?_) (fun hc => ?_)
  · have hf := tc_neg hc hf
    refine lv_iload_n hx hb dX12_does_34 rfl (lv_at hl 1 rfl) ?_
    refine lv_iconst (v := (1 : Int32)) hx hb dX12_does_35 (by decide) ?_
    refine lv_icmp_ne (tgt := 53) hx hb dX12_does_36 (by decide) (fun hc => ?_) (fun hc => ?_)
    · have hf := tc_neg hc hf
      refine lv_iload_n hx hb dX12_does_53 rfl (lv_at hl 1 rfl) ?_
      refine lv_iconst (v := (2 : Int32)) hx hb dX12_does_54 (by decide) ?_
      refine lv_icmp_ne (tgt := 64) hx hb dX12_does_55 (by decide) (fun hc => ?_) (fun hc => ?_)
      · have hf := tc_neg hc hf
        refine lv_iload_n hx hb dX12_does_64 rfl (lv_at hl 1 rfl) ?_
        refine lv_iconst (v := (5 : Int32)) hx hb dX12_does_65 (by decide) ?_
        refine lv_icmp_ne (tgt := 76) hx hb dX12_does_66 (by decide) (fun hc => ?_) (fun hc => ?_)
        · have hf := tc_neg hc hf
          refine lv_aload_n hx hb dX12_does_76 rfl (lv_at hl 2 rfl) ?_
          refine lv_bipush (v := (40 : Int32)) hx hb dX12_does_77 (by decide) ?_
          refine lv_iload_n hx hb dX12_does_79 rfl (lv_at hl 0 rfl) ?_
          refine lv_iadd hx hb dX12_does_80 ?_
          refine lv_iload_n hx hb dX12_does_81 rfl (lv_at hl 1 rfl) ?_
          refine lv_iconst (v := (3 : Int32)) hx hb dX12_does_82 (by decide) ?_
          refine lv_icmp_ne (tgt := 90) hx hb dX12_does_83 (by decide) (fun hc => ?_) (fun hc => ?_)
          · have hf := tc_neg hc hf
            refine lv_iconst (v := (0 : Int32)) hx hb dX12_does_90 (by decide) ?_
            obtain ⟨z3, hg, hf⟩ := tc_bi hf
            refine tc_iVs (As := [.int ((40 : Int32) + (ia S 5 (a1 + (1 : Int32)))), .int ((0 : Int32))]) (rest := []) (b := q 0) X hP hD hS (mX12_becomes hg) okX12_becomes wl_X12_393 wi_X12_becomes ws_X12_X12_becomes_X12_becomes ⟨rfl, rfl, Nat.le_of_ble_eq_true rfl, Nat.le_of_ble_eq_true rfl⟩ 12 0 rfl rfl rfl hl.1 (Nat.le_of_ble_eq_true rfl) dX12_does_91 (fun H locs hP hD hS => ?_)
            obtain ⟨hz1, hf⟩ := tc_ck hf
            obtain rfl := Option.some.inj hf
            exact tc_rz X hP hD hS rfl dX12_does_94 hz1 rfl rfl
          · have hf := tc_pos hc hf
            refine lv_iconst (v := (1 : Int32)) hx hb dX12_does_86 (by decide) ?_
            refine lv_goto (tgt := 91) hx hb dX12_does_87 (by decide) ?_
            obtain ⟨z4, hg, hf⟩ := tc_bi hf
            refine tc_iVs (As := [.int ((40 : Int32) + (ia S 5 (a1 + (1 : Int32)))), .int ((1 : Int32))]) (rest := []) (b := q 0) X hP hD hS (mX12_becomes hg) okX12_becomes wl_X12_393 wi_X12_becomes ws_X12_X12_becomes_X12_becomes ⟨rfl, rfl, Nat.le_of_ble_eq_true rfl, Nat.le_of_ble_eq_true rfl⟩ 12 0 rfl rfl rfl hl.1 (Nat.le_of_ble_eq_true rfl) dX12_does_91 (fun H locs hP hD hS => ?_)
            obtain ⟨hz1, hf⟩ := tc_ck hf
            obtain rfl := Option.some.inj hf
            exact tc_rz X hP hD hS rfl dX12_does_94 hz1 rfl rfl
        · have hf := tc_pos hc hf
          refine lv_aload_n hx hb dX12_does_69 rfl (lv_at hl 2 rfl) ?_
          obtain ⟨z5, hg, hf⟩ := tc_bi hf
          refine tc_iVs (As := []) (rest := []) (b := q 0) X hP hD hS (mX12_isAny hg) okX12_isAny wl_X12_534 wi_X12_isAny ws_X12_X12_isAny_X12_isAny ⟨rfl, rfl, Nat.le_of_ble_eq_true rfl, Nat.le_of_ble_eq_true rfl⟩ 12 0 rfl rfl rfl hl.1 (Nat.le_of_ble_eq_true rfl) dX12_does_70 (fun H locs hP hD hS => ?_)
          refine lv_goto (tgt := 94) hx hb dX12_does_73 (by decide) ?_
          obtain ⟨hz1, hf⟩ := tc_ck hf
          obtain rfl := Option.some.inj hf
          exact tc_rz X hP hD hS rfl dX12_does_94 hz1 rfl rfl
      · have hf := tc_pos hc hf
        refine lv_aload_n hx hb dX12_does_58 rfl (lv_at hl 2 rfl) ?_
        refine lv_iload_n hx hb dX12_does_59 rfl (lv_at hl 0 rfl) ?_
        obtain ⟨z6, hg, hf⟩ := tc_bi hf
        refine tc_iVs (As := [.int (ia S 5 (a1 + (1 : Int32)))]) (rest := []) (b := q 0) X hP hD hS (mX12_isPulled hg) okX12_isPulled wl_X12_528 wi_X12_isPulled ws_X12_X12_isPulled_X12_isPulled ⟨rfl, rfl, Nat.le_of_ble_eq_true rfl, Nat.le_of_ble_eq_true rfl⟩ 12 0 rfl rfl rfl hl.1 (Nat.le_of_ble_eq_true rfl) dX12_does_60 (fun H locs hP hD hS => ?_)
        obtain ⟨hz1, hf⟩ := tc_ck hf
        obtain rfl := Option.some.inj hf
        exact tc_rz X hP hD hS rfl dX12_does_63 hz1 rfl rfl
    · have hf := tc_pos hc hf
      refine lv_aload_n hx hb dX12_does_39 rfl (lv_at hl 2 rfl) ?_
      refine lv_iload_n hx hb dX12_does_40 rfl (lv_at hl 0 rfl) ?_
      refine lv_aload_n hx hb dX12_does_41 rfl (lv_at hl 2 rfl) ?_
      refine va_get (D := (dC, dI)) (ci := 12) (v := .ref (q 5)) (C := RX12) (T := TX12) (N := 49) hx hb hts i_X12 hown hK hP 0 rfl rfl 20 (by decide) (hts _ wf_X12_35) (fun _ h9 => h9) rfl dX12_does_42 ?_
      refine lv_iload_n hx hb dX12_does_45 rfl (lv_at hl 3 rfl) ?_
      refine lv_iconst (v := (2 : Int32)) hx hb dX12_does_46 (by decide) ?_
      refine lv_iadd hx hb dX12_does_47 ?_
      obtain ⟨hi7, hf⟩ := tc_in hf
      refine va_iald hx hb hK hP 5 1 rfl rfl hi7 dX12_does_48 ?_
      obtain ⟨z8, hg, hf⟩ := tc_bi hf
      refine tc_iVs (As := [.int (ia S 5 (a1 + (1 : Int32))), .int (ia S 5 (a1 + (2 : Int32)))]) (rest := []) (b := q 0) X hP hD hS (mX12_drops hg) okX12_drops wl_X12_383 wi_X12_drops ws_X12_X12_drops_X12_drops ⟨rfl, rfl, Nat.le_of_ble_eq_true rfl, Nat.le_of_ble_eq_true rfl⟩ 12 0 rfl rfl rfl hl.1 (Nat.le_of_ble_eq_true rfl) dX12_does_49 (fun H locs hP hD hS => ?_)
      obtain ⟨hz1, hf⟩ := tc_ck hf
      obtain rfl := Option.some.inj hf
      exact tc_rz X hP hD hS rfl dX12_does_52 hz1 rfl rfl
  · have hf := tc_pos hc hf
    refine lv_aload_n hx hb dX12_does_20 rfl (lv_at hl 2 rfl) ?_
    refine lv_iload_n hx hb dX12_does_21 rfl (lv_at hl 0 rfl) ?_
    refine lv_aload_n hx hb dX12_does_22 rfl (lv_at hl 2 rfl) ?_
    refine va_get (D := (dC, dI)) (ci := 12) (v := .ref (q 5)) (C := RX12) (T := TX12) (N := 49) hx hb hts i_X12 hown hK hP 0 rfl rfl 20 (by decide) (hts _ wf_X12_35) (fun _ h9 => h9) rfl dX12_does_23 ?_
    refine lv_iload_n hx hb dX12_does_26 rfl (lv_at hl 3 rfl) ?_
    refine lv_iconst (v := (2 : Int32)) hx hb dX12_does_27 (by decide) ?_
    refine lv_iadd hx hb dX12_does_28 ?_
    obtain ⟨hi9, hf⟩ := tc_in hf
    refine va_iald hx hb hK hP 5 1 rfl rfl hi9 dX12_does_29 ?_
    obtain ⟨z10, hg, hf⟩ := tc_bi hf
    refine tc_iVs (As := [.int (ia S 5 (a1 + (1 : Int32))), .int (ia S 5 (a1 + (2 : Int32)))]) (rest := []) (b := q 0) X hP hD hS (mX12_isSaid hg) okX12_isSaid wl_X12_531 wi_X12_isSaid ws_X12_X12_isSaid_X12_isSaid ⟨rfl, rfl, Nat.le_of_ble_eq_true rfl, Nat.le_of_ble_eq_true rfl⟩ 12 0 rfl rfl rfl hl.1 (Nat.le_of_ble_eq_true rfl) dX12_does_30 (fun H locs hP hD hS => ?_)
    obtain ⟨hz1, hf⟩ := tc_ck hf
    obtain rfl := Option.some.inj hf
    exact tc_rz X hP hD hS rfl dX12_does_33 hz1 rfl rfl
def fX12_holds  (S : ms_T) (a1 : Int32) : Option (Int32) :=
  if inb (a1 + (5 : Int32)) 1820 = true then
    if inb (a1 + (1 : Int32)) 1820 = true then
      if (ia S 5 (a1 + (5 : Int32))) = 0 then
        (fX12_isHollow S (ia S 5 (a1 + (1 : Int32)))).bind fun z10 =>
        if z10 = 0 then
          some ((1 : Int32))
        else
          some ((0 : Int32))
      else
        if (ia S 5 (a1 + (5 : Int32))) = (1 : Int32) then
          if inb ((60 : Int32) + (ia S 5 (a1 + (1 : Int32)))) 1820 = true then
            if (ia S 5 ((60 : Int32) + (ia S 5 (a1 + (1 : Int32))))) = (1 : Int32) then
              some ((1 : Int32))
            else
              some ((0 : Int32))
          else none
        else
          if inb ((54 : Int32) + (ia S 5 (a1 + (1 : Int32)))) 1820 = true then
            if inb (a1 + (7 : Int32)) 1820 = true then
              if (ia S 5 (a1 + (7 : Int32))) = (60 : Int32) then
                if inb (a1 + (6 : Int32)) 1820 = true then
                  if (ia S 5 (a1 + (6 : Int32))) ≤ (ia S 5 ((54 : Int32) + (ia S 5 (a1 + (1 : Int32))))) then
                    some ((0 : Int32))
                  else
                    some ((1 : Int32))
                else none
              else
                if inb (a1 + (7 : Int32)) 1820 = true then
                  if (ia S 5 (a1 + (7 : Int32))) = (62 : Int32) then
                    if inb (a1 + (6 : Int32)) 1820 = true then
                      if (ia S 5 ((54 : Int32) + (ia S 5 (a1 + (1 : Int32))))) ≤ (ia S 5 (a1 + (6 : Int32))) then
                        some ((0 : Int32))
                      else
                        some ((1 : Int32))
                    else none
                  else
                    if inb (a1 + (6 : Int32)) 1820 = true then
                      if (ia S 5 ((54 : Int32) + (ia S 5 (a1 + (1 : Int32))))) = (ia S 5 (a1 + (6 : Int32))) then
                        some ((1 : Int32))
                      else
                        some ((0 : Int32))
                    else none
                else none
            else none
          else none
    else none
  else none
abbrev rmX12_holds : Room := { frames := 3, cells := 0, slots := 0, locals := 68 }
theorem okX12_holds : tc_ok yX12_holds cX12_holds 5 (some .boolean) 1 := ⟨wc_X12_holds, wn_X12, by decide, by decide, by decide +kernel⟩
set_option maxRecDepth 20000 in
theorem mX12_holds {q : Nat → Nat}  {S : ms_T} {a1 : Int32} {z : Int32}  (hf : fX12_holds S a1 = some z) : tc_MI l dC dI ca yX12_holds cX12_holds 5 (some .boolean) rmX12_holds [.ref (q 0), .int (a1)] (w12 ca q S) (w12 ca q S) (z) := by
  refine tc_metI (own := RX12) (by decide) rfl ?_ (Nat.le_of_ble_eq_true rfl)
  intro p e s m below meth c A X hP hD hS ls hl
  obtain ⟨hx, hb, hr, hml, hown, hts, hlk, hK, hA, hG⟩ := id X
  unfold fX12_holds at hf
  have hl : lv_has ls 5 [(0, .ref (q 0)), (1, .int (a1))] := hl
  refine lv_aload_n hx hb dX12_holds_0 rfl (lv_at hl 0 rfl) ?_
  refine va_get (D := (dC, dI)) (ci := 12) (v := .ref (q 5)) (C := RX12) (T := TX12) (N := 49) hx hb hts i_X12 hown hK hP 0 rfl rfl 20 (by decide) (hts _ wf_X12_35) (fun _ h9 => h9) rfl dX12_holds_1 ?_
  refine lv_iload_n hx hb dX12_holds_4 rfl (lv_at hl 1 rfl) ?_
  refine lv_iconst (v := (5 : Int32)) hx hb dX12_holds_5 (by decide) ?_
  refine lv_iadd hx hb dX12_holds_6 ?_
  obtain ⟨hi1, hf⟩ := tc_in hf
  refine va_iald hx hb hK hP 5 1 rfl rfl hi1 dX12_holds_7 ?_
  refine lv_istore_n (lv' := [(2, .int (ia S 5 (a1 + (5 : Int32)))), (0, .ref (q 0)), (1, .int (a1))]) hx hb dX12_holds_8 rfl hl (by decide) rfl (fun ls hl => ?_)
  refine lv_aload_n hx hb dX12_holds_9 rfl (lv_at hl 1 rfl) ?_
  refine va_get (D := (dC, dI)) (ci := 12) (v := .ref (q 5)) (C := RX12) (T := TX12) (N := 49) hx hb hts i_X12 hown hK hP 0 rfl rfl 20 (by decide) (hts _ wf_X12_35) (fun _ h9 => h9) rfl dX12_holds_10 ?_
  refine lv_iload_n hx hb dX12_holds_13 rfl (lv_at hl 2 rfl) ?_
  refine lv_iconst (v := (1 : Int32)) hx hb dX12_holds_14 (by decide) ?_
  refine lv_iadd hx hb dX12_holds_15 ?_
  obtain ⟨hi2, hf⟩ := tc_in hf
  refine va_iald hx hb hK hP 5 1 rfl rfl hi2 dX12_holds_16 ?_
  refine lv_istore_n (lv' := [(3, .int (ia S 5 (a1 + (1 : Int32)))), (2, .int (ia S 5 (a1 + (5 : Int32)))), (0, .ref (q 0)), (1, .int (a1))]) hx hb dX12_holds_17 rfl hl (by decide) rfl (fun ls hl => ?_)
  refine lv_iload_n hx hb dX12_holds_18 rfl (lv_at hl 1 rfl) ?_
  refine lv_if_ne (tgt := 36) hx hb dX12_holds_19 (by decide) (fun hc => ?_) (fun hc => ?_)
  · have hf := tc_neg hc hf
    refine lv_iload_n hx hb dX12_holds_36 rfl (lv_at hl 1 rfl) ?_
    refine lv_iconst (v := (1 : Int32)) hx hb dX12_holds_37 (by decide) ?_
    refine lv_icmp_ne (tgt := 60) hx hb dX12_holds_38 (by decide) (fun hc => ?_) (fun hc => ?_)
    · have hf := tc_neg hc hf
      refine lv_aload_n hx hb dX12_holds_60 rfl (lv_at hl 2 rfl) ?_
      refine va_get (D := (dC, dI)) (ci := 12) (v := .ref (q 5)) (C := RX12) (T := TX12) (N := 49) hx hb hts i_X12 hown hK hP 0 rfl rfl 20 (by decide) (hts _ wf_X12_35) (fun _ h9 => h9) rfl dX12_holds_61 ?_
      refine lv_bipush (v := (54 : Int32)) hx hb dX12_holds_64 (by decide) ?_
      refine lv_iload_n hx hb dX12_holds_66 rfl (lv_at hl 0 rfl) ?_
      refine lv_iadd hx hb dX12_holds_67 ?_
      obtain ⟨hi3, hf⟩ := tc_in hf
      refine va_iald hx hb hK hP 5 1 rfl rfl hi3 dX12_holds_68 ?_
      refine lv_istore (lv' := [(4, .int (ia S 5 ((54 : Int32) + (ia S 5 (a1 + (1 : Int32)))))), (3, .int (ia S 5 (a1 + (1 : Int32)))), (2, .int (ia S 5 (a1 + (5 : Int32)))), (0, .ref (q 0)), (1, .int (a1))]) hx hb dX12_holds_69 hl (by decide) rfl (fun ls hl => ?_)
      refine lv_aload_n hx hb dX12_holds_71 rfl (lv_at hl 3 rfl) ?_
      refine va_get (D := (dC, dI)) (ci := 12) (v := .ref (q 5)) (C := RX12) (T := TX12) (N := 49) hx hb hts i_X12 hown hK hP 0 rfl rfl 20 (by decide) (hts _ wf_X12_35) (fun _ h9 => h9) rfl dX12_holds_72 ?_
      refine lv_iload_n hx hb dX12_holds_75 rfl (lv_at hl 4 rfl) ?_
      refine lv_bipush (v := (7 : Int32)) hx hb dX12_holds_76 (by decide) ?_
      refine lv_iadd hx hb dX12_holds_78 ?_
      obtain ⟨hi4, hf⟩ := tc_in hf
      refine va_iald hx hb hK hP 5 1 rfl rfl hi4 dX12_holds_79 ?_
      refine lv_bipush (v := (60 : Int32)) hx hb dX12_holds_80 (by decide) ?_
      refine lv_icmp_ne (tgt := 107) hx hb dX12_holds_82 (by decide) (fun hc => ?_) (fun hc => ?_)
      · have hf := tc_neg hc hf
        refine lv_aload_n hx hb dX12_holds_107 rfl (lv_at hl 3 rfl) ?_
        refine va_get (D := (dC, dI)) (ci := 12) (v := .ref (q 5)) (C := RX12) (T := TX12) (N := 49) hx hb hts i_X12 hown hK hP 0 rfl rfl 20 (by decide) (hts _ wf_X12_35) (fun _ h9 => h9) rfl dX12_holds_108 ?_
        refine lv_iload_n hx hb dX12_holds_111 rfl (lv_at hl 4 rfl) ?_
        refine lv_bipush (v := (7 : Int32)) hx hb dX12_holds_112 (by decide) ?_
        refine lv_iadd hx hb dX12_holds_114 ?_
        obtain ⟨hi5, hf⟩ := tc_in hf
        refine va_iald hx hb hK hP 5 1 rfl rfl hi5 dX12_holds_115 ?_
        refine lv_bipush (v := (62 : Int32)) hx hb dX12_holds_116 (by decide) ?_
        refine lv_icmp_ne (tgt := 143) hx hb dX12_holds_118 (by decide) (fun hc => ?_) (fun hc => ?_)
        · have hf := tc_neg hc hf
          refine lv_iload hx hb dX12_holds_143 (lv_at hl 0 rfl) ?_
          refine lv_aload_n hx hb dX12_holds_145 rfl (lv_at hl 3 rfl) ?_
          refine va_get (D := (dC, dI)) (ci := 12) (v := .ref (q 5)) (C := RX12) (T := TX12) (N := 49) hx hb hts i_X12 hown hK hP 0 rfl rfl 20 (by decide) (hts _ wf_X12_35) (fun _ h9 => h9) rfl dX12_holds_146 ?_
          refine lv_iload_n hx hb dX12_holds_149 rfl (lv_at hl 4 rfl) ?_
          refine lv_bipush (v := (6 : Int32)) hx hb dX12_holds_150 (by decide) ?_
          refine lv_iadd hx hb dX12_holds_152 ?_
          obtain ⟨hi6, hf⟩ := tc_in hf
          refine va_iald hx hb hK hP 5 1 rfl rfl hi6 dX12_holds_153 ?_
          refine lv_icmp_ne (tgt := 161) hx hb dX12_holds_154 (by decide) (fun hc => ?_) (fun hc => ?_)
          · have hf := tc_neg hc hf
            refine lv_iconst (v := (0 : Int32)) hx hb dX12_holds_161 (by decide) ?_
            obtain rfl := Option.some.inj hf
            exact tc_rz X hP hD hS rfl dX12_holds_162 (by decide) rfl rfl
          · have hf := tc_pos hc hf
            refine lv_iconst (v := (1 : Int32)) hx hb dX12_holds_157 (by decide) ?_
            refine lv_goto (tgt := 162) hx hb dX12_holds_158 (by decide) ?_
            obtain rfl := Option.some.inj hf
            exact tc_rz X hP hD hS rfl dX12_holds_162 (by decide) rfl rfl
        · have hf := tc_pos hc hf
          refine lv_iload hx hb dX12_holds_121 (lv_at hl 0 rfl) ?_
          refine lv_aload_n hx hb dX12_holds_123 rfl (lv_at hl 3 rfl) ?_
          refine va_get (D := (dC, dI)) (ci := 12) (v := .ref (q 5)) (C := RX12) (T := TX12) (N := 49) hx hb hts i_X12 hown hK hP 0 rfl rfl 20 (by decide) (hts _ wf_X12_35) (fun _ h9 => h9) rfl dX12_holds_124 ?_
          refine lv_iload_n hx hb dX12_holds_127 rfl (lv_at hl 4 rfl) ?_
          refine lv_bipush (v := (6 : Int32)) hx hb dX12_holds_128 (by decide) ?_
          refine lv_iadd hx hb dX12_holds_130 ?_
          obtain ⟨hi7, hf⟩ := tc_in hf
          refine va_iald hx hb hK hP 5 1 rfl rfl hi7 dX12_holds_131 ?_
          refine lv_icmp_le (tgt := 139) hx hb dX12_holds_132 (by decide) (fun hc => ?_) (fun hc => ?_)
          · have hf := tc_pos hc hf
            refine lv_iconst (v := (0 : Int32)) hx hb dX12_holds_139 (by decide) ?_
            refine lv_goto (tgt := 162) hx hb dX12_holds_140 (by decide) ?_
            obtain rfl := Option.some.inj hf
            exact tc_rz X hP hD hS rfl dX12_holds_162 (by decide) rfl rfl
          · have hf := tc_neg hc hf
            refine lv_iconst (v := (1 : Int32)) hx hb dX12_holds_135 (by decide) ?_
            refine lv_goto (tgt := 162) hx hb dX12_holds_136 (by decide) ?_
            obtain rfl := Option.some.inj hf
            exact tc_rz X hP hD hS rfl dX12_holds_162 (by decide) rfl rfl
      · have hf := tc_pos hc hf
        refine lv_iload hx hb dX12_holds_85 (lv_at hl 0 rfl) ?_
        refine lv_aload_n hx hb dX12_holds_87 rfl (lv_at hl 3 rfl) ?_
        refine va_get (D := (dC, dI)) (ci := 12) (v := .ref (q 5)) (C := RX12) (T := TX12) (N := 49) hx hb hts i_X12 hown hK hP 0 rfl rfl 20 (by decide) (hts _ wf_X12_35) (fun _ h9 => h9) rfl dX12_holds_88 ?_
        refine lv_iload_n hx hb dX12_holds_91 rfl (lv_at hl 4 rfl) ?_
        refine lv_bipush (v := (6 : Int32)) hx hb dX12_holds_92 (by decide) ?_
        refine lv_iadd hx hb dX12_holds_94 ?_
        obtain ⟨hi8, hf⟩ := tc_in hf
        refine va_iald hx hb hK hP 5 1 rfl rfl hi8 dX12_holds_95 ?_
        refine lv_icmp_ge (tgt := 103) hx hb dX12_holds_96 (by decide) (fun hc => ?_) (fun hc => ?_)
        · have hf := tc_pos hc hf
          refine lv_iconst (v := (0 : Int32)) hx hb dX12_holds_103 (by decide) ?_
          refine lv_goto (tgt := 162) hx hb dX12_holds_104 (by decide) ?_
          obtain rfl := Option.some.inj hf
          exact tc_rz X hP hD hS rfl dX12_holds_162 (by decide) rfl rfl
        · have hf := tc_neg hc hf
          refine lv_iconst (v := (1 : Int32)) hx hb dX12_holds_99 (by decide) ?_
          refine lv_goto (tgt := 162) hx hb dX12_holds_100 (by decide) ?_
          obtain rfl := Option.some.inj hf
          exact tc_rz X hP hD hS rfl dX12_holds_162 (by decide) rfl rfl
    · have hf := tc_pos hc hf
      refine lv_aload_n hx hb dX12_holds_41 rfl (lv_at hl 2 rfl) ?_
      refine va_get (D := (dC, dI)) (ci := 12) (v := .ref (q 5)) (C := RX12) (T := TX12) (N := 49) hx hb hts i_X12 hown hK hP 0 rfl rfl 20 (by decide) (hts _ wf_X12_35) (fun _ h9 => h9) rfl dX12_holds_42 ?_
      refine lv_bipush (v := (60 : Int32)) hx hb dX12_holds_45 (by decide) ?_
      refine lv_iload_n hx hb dX12_holds_47 rfl (lv_at hl 0 rfl) ?_
      refine lv_iadd hx hb dX12_holds_48 ?_
      obtain ⟨hi9, hf⟩ := tc_in hf
      refine va_iald hx hb hK hP 5 1 rfl rfl hi9 dX12_holds_49 ?_
      refine lv_iconst (v := (1 : Int32)) hx hb dX12_holds_50 (by decide) ?_
      refine lv_icmp_ne (tgt := 58) hx hb dX12_holds_51 (by decide) (fun hc => ?_) (fun hc => ?_)
      · have hf := tc_neg hc hf
        refine lv_iconst (v := (0 : Int32)) hx hb dX12_holds_58 (by decide) ?_
        obtain rfl := Option.some.inj hf
        exact tc_rz X hP hD hS rfl dX12_holds_59 (by decide) rfl rfl
      · have hf := tc_pos hc hf
        refine lv_iconst (v := (1 : Int32)) hx hb dX12_holds_54 (by decide) ?_
        refine lv_goto (tgt := 59) hx hb dX12_holds_55 (by decide) ?_
        obtain rfl := Option.some.inj hf
        exact tc_rz X hP hD hS rfl dX12_holds_59 (by decide) rfl rfl
  · have hf := tc_pos hc hf
    refine lv_aload_n hx hb dX12_holds_22 rfl (lv_at hl 2 rfl) ?_
    refine lv_iload_n hx hb dX12_holds_23 rfl (lv_at hl 0 rfl) ?_
    obtain ⟨z10, hg, hf⟩ := tc_bi hf
    refine tc_iVs (As := [.int (ia S 5 (a1 + (1 : Int32)))]) (rest := []) (b := q 0) X hP hD hS (mX12_isHollow hg) okX12_isHollow wl_X12_354 wi_X12_isHollow ws_X12_X12_isHollow_X12_isHollow ⟨rfl, rfl, Nat.le_of_ble_eq_true rfl, Nat.le_of_ble_eq_true rfl⟩ 12 0 rfl rfl rfl hl.1 (Nat.le_of_ble_eq_true rfl) dX12_holds_24 (fun H locs hP hD hS => ?_)
    refine lv_if_ne (tgt := 34) hx hb dX12_holds_27 (by decide) (fun hc => ?_) (fun hc => ?_)
    · have hf := tc_neg hc hf
      refine lv_iconst (v := (0 : Int32)) hx hb dX12_holds_34 (by decide) ?_
      obtain rfl := Option.some.inj hf
      exact tc_rz X hP hD hS rfl dX12_holds_35 (by decide) rfl rfl
    · have hf := tc_pos hc hf
      refine lv_iconst (v := (1 : Int32)) hx hb dX12_holds_30 (by decide) ?_
      refine lv_goto (tgt := 35) hx hb dX12_holds_31 (by decide) ?_
      obtain rfl := Option.some.inj hf
      exact tc_rz X hP hD hS rfl dX12_holds_35 (by decide) rfl rfl
def fX12_doOne_119 (rc : ms_T → Int32 → Int32 → Option (ms_T))   : Nat → ms_T → Int32 → Int32 → Int32 → Option (ms_T)
  | 0, _, _, _, _ => none
  | n + 1, S, v1, v2, v4 =>
    if inb (v2 + (1 : Int32)) 1820 = true then
      if (ia S 5 (v2 + (1 : Int32))) ≤ v4 then
        some (S)
      else
        if (gi S 41) = 0 then
          if inb (v2 + (8 : Int32)) 1820 = true then
            (rc S (v1 + (1 : Int32)) (ia S 5 (v2 + (8 : Int32)))).bind fun z4 =>
            fX12_doOne_119 rc n z4 v1 v2 (v4 + (1 : Int32))
          else none
        else
          some (S)
    else none
def fX12_doOne_110 (rc : ms_T → Int32 → Int32 → Option (ms_T))   (S : ms_T) (v1 : Int32) (v2 : Int32) (v3 : Int32) : Option (ms_T) :=
  if v3 = (7 : Int32) then
    fX12_doOne_119 rc FU S v1 v2 (0 : Int32)
  else
    if v3 ≤ (7 : Int32) then
      some (S)
    else
      some (si S 41 (1 : Int32))
def fX12_doOne (rc : ms_T → Int32 → Int32 → Option (ms_T)) (S : ms_T) (a1 : Int32) : Option (ms_T) :=
  if (gi S 43) = (300 : Int32) then
    some (si (si S 41 (1 : Int32)) 48 (1 : Int32))
  else
    if inb ((94 : Int32) + ((9 : Int32) * a1)) 1820 = true then
      if (6 : Int32) ≤ (ia (si S 43 ((gi S 43) + (1 : Int32))) 5 ((94 : Int32) + ((9 : Int32) * a1))) then
        if (ia (si S 43 ((gi S 43) + (1 : Int32))) 5 ((94 : Int32) + ((9 : Int32) * a1))) = (6 : Int32) then
          (fX12_holds (si S 43 ((gi S 43) + (1 : Int32))) ((94 : Int32) + ((9 : Int32) * a1))).bind fun z5 =>
          if z5 = 0 then
            fX12_doOne_110 rc (si S 43 ((gi S 43) + (1 : Int32))) a1 ((94 : Int32) + ((9 : Int32) * a1)) (ia (si S 43 ((gi S 43) + (1 : Int32))) 5 ((94 : Int32) + ((9 : Int32) * a1)))
          else
            if inb (((94 : Int32) + ((9 : Int32) * a1)) + (8 : Int32)) 1820 = true then
              (rc (si S 43 ((gi S 43) + (1 : Int32))) (a1 + (1 : Int32)) (ia (si S 43 ((gi S 43) + (1 : Int32))) 5 (((94 : Int32) + ((9 : Int32) * a1)) + (8 : Int32)))).bind fun z7 =>
              some (z7)
            else none
        else
          fX12_doOne_110 rc (si S 43 ((gi S 43) + (1 : Int32))) a1 ((94 : Int32) + ((9 : Int32) * a1)) (ia (si S 43 ((gi S 43) + (1 : Int32))) 5 ((94 : Int32) + ((9 : Int32) * a1)))
      else
        (fX12_does (si S 43 ((gi S 43) + (1 : Int32))) ((94 : Int32) + ((9 : Int32) * a1))).bind fun z8 =>
        if z8.1 = 0 then
          some (si z8.2 44 ((gi (si S 43 ((gi S 43) + (1 : Int32))) 44) + (1 : Int32)))
        else
          some (si z8.2 44 ((gi (si S 43 ((gi S 43) + (1 : Int32))) 44) + (0 : Int32)))
    else none
abbrev rmX12_doAll (d : Nat) : Room := { frames := 8 + 2 * d, cells := 0, slots := 0, locals := 182 + d * 47 }
abbrev rmX12_doOne (d : Nat) : Room := { frames := 7 + 2 * d, cells := 0, slots := 0, locals := 158 + d * 47 }
theorem okX12_doAll : tc_ok yX12_doAll cX12_doAll 4 none 2 := ⟨wc_X12_doAll, wn_X12, by decide, by decide, by decide +kernel⟩
theorem okX12_doOne : tc_ok yX12_doOne cX12_doOne 5 none 1 := ⟨wc_X12_doOne, wn_X12, by decide, by decide, by decide +kernel⟩
set_option maxRecDepth 20000 in
theorem tX12_doOne_119 {d : Nat} {q : Nat → Nat}  (X : tc_X dC dI ca A RX12 cX12_doOne 5 none p s m args meth c) (z : ms_T) (rc : ms_T → Int32 → Int32 → Option (ms_T)) (hrc : ∀ {S : ms_T} {a1 : Int32} {a2 : Int32} {z : ms_T}, rc S a1 a2 = some z → tc_MV l dC dI ca yX12_doAll cX12_doAll 4 none (rmX12_doAll d) [.ref (q 0), .int (a1), .int (a2)] (w12 ca q S) (w12 ca q z))    : ∀ n : Nat, ∀ (S : ms_T) (v1 : Int32) (v2 : Int32) (v4 : Int32), fX12_doOne_119 rc n S v1 v2 v4 = some z → ∀ (H : Heap) (locs : List Loc) (ls : Array Slot), va_P (dC, dI) classes (w12 ca q S) H → va_D A (w12 ca q S) → va_S A s.heap H locs → lv_has ls 5 [(0, .ref (q 0)), (1, .int (v1)), (2, .int (v2)), (4, .int (v4))] → W p l e (rmX12_doOne (d + 1)) s m args below meth c H locs 0 0 (MQ below (tc_QV dC dI ca A (w12 ca q z)) args s 0 0 A) (F0 m 119 ls []) := by
  obtain ⟨hx, hb, hr, hml, hown, hts, hlk, hK, hA, hG⟩ := id X
  intro n
  induction n with
  | zero => intro S v1 v2 v4 hf; exact absurd (show none = some z from hf) (fun h => by cases h)
  | succ n ih =>
    intro S v1 v2 v4 hf H locs ls hP hD hS hl
    rw [fX12_doOne_119] at hf
    refine lv_iload hx hb dX12_doOne_119 (lv_at hl 3 rfl) ?_
    refine lv_aload_n hx hb dX12_doOne_121 rfl (lv_at hl 0 rfl) ?_
    refine va_get (D := (dC, dI)) (ci := 12) (v := .ref (q 5)) (C := RX12) (T := TX12) (N := 49) hx hb hts i_X12 hown hK hP 0 rfl rfl 20 (by decide) (hts _ wf_X12_35) (fun _ h9 => h9) rfl dX12_doOne_122 ?_
    refine lv_iload_n hx hb dX12_doOne_125 rfl (lv_at hl 2 rfl) ?_
    refine lv_iconst (v := (1 : Int32)) hx hb dX12_doOne_126 (by decide) ?_
    refine lv_iadd hx hb dX12_doOne_127 ?_
    obtain ⟨hi2, hf⟩ := tc_in hf
    refine va_iald hx hb hK hP 5 1 rfl rfl hi2 dX12_doOne_128 ?_
    refine lv_icmp_ge (tgt := 161) hx hb dX12_doOne_129 (by decide) (fun hc => ?_) (fun hc => ?_)
    · have hf := tc_pos hc hf
      refine lv_goto (tgt := 175) hx hb dX12_doOne_161 (by decide) ?_
      obtain rfl := Option.some.inj hf
      exact tc_rv X hP hD hS rfl dX12_doOne_175 rfl
    · have hf := tc_neg hc hf
      refine lv_aload_n hx hb dX12_doOne_132 rfl (lv_at hl 0 rfl) ?_
      refine va_get (D := (dC, dI)) (ci := 12) (v := .int (gi S 41)) (C := RX12) (T := TX12) (N := 49) hx hb hts i_X12 hown hK hP 0 rfl rfl 41 (by decide) (hts _ wf_X12_540) (fun _ h9 => h9) rfl dX12_doOne_133 ?_
      refine lv_if_ne (tgt := 161) hx hb dX12_doOne_136 (by decide) (fun hc => ?_) (fun hc => ?_)
      · have hf := tc_neg hc hf
        refine lv_goto (tgt := 175) hx hb dX12_doOne_161 (by decide) ?_
        obtain rfl := Option.some.inj hf
        exact tc_rv X hP hD hS rfl dX12_doOne_175 rfl
      · have hf := tc_pos hc hf
        refine lv_aload_n hx hb dX12_doOne_139 rfl (lv_at hl 0 rfl) ?_
        refine lv_iload_n hx hb dX12_doOne_140 rfl (lv_at hl 1 rfl) ?_
        refine lv_iconst (v := (1 : Int32)) hx hb dX12_doOne_141 (by decide) ?_
        refine lv_iadd hx hb dX12_doOne_142 ?_
        refine lv_aload_n hx hb dX12_doOne_143 rfl (lv_at hl 0 rfl) ?_
        refine va_get (D := (dC, dI)) (ci := 12) (v := .ref (q 5)) (C := RX12) (T := TX12) (N := 49) hx hb hts i_X12 hown hK hP 0 rfl rfl 20 (by decide) (hts _ wf_X12_35) (fun _ h9 => h9) rfl dX12_doOne_144 ?_
        refine lv_iload_n hx hb dX12_doOne_147 rfl (lv_at hl 2 rfl) ?_
        refine lv_bipush (v := (8 : Int32)) hx hb dX12_doOne_148 (by decide) ?_
        refine lv_iadd hx hb dX12_doOne_150 ?_
        obtain ⟨hi3, hf⟩ := tc_in hf
        refine va_iald hx hb hK hP 5 1 rfl rfl hi3 dX12_doOne_151 ?_
        obtain ⟨z4, hg, hf⟩ := tc_bi hf
        refine tc_vVs (As := [.int (v1 + (1 : Int32)), .int (ia S 5 (v2 + (8 : Int32)))]) (rest := []) (b := q 0) X hP hD hS (hrc hg) okX12_doAll wl_X12_555 wi_X12_doAll ws_X12_X12_doAll_X12_doAll ⟨rfl, rfl, (by show (8 + 2 * d) + 1 ≤ 7 + 2 * (d + 1); omega), (by show 8 + (4 + 11) + (182 + d * 47) ≤ 158 + (d + 1) * 47; omega)⟩ 12 0 rfl rfl rfl hl.1 (Nat.le_of_ble_eq_true rfl) dX12_doOne_152 (fun H locs hP hD hS => ?_)
        refine lv_iinc (v := v4 + (1 : Int32)) (lv' := [(4, .int (v4 + (1 : Int32))), (0, .ref (q 0)), (1, .int (v1)), (2, .int (v2))]) hx hb dX12_doOne_155 hl (k := 3) rfl rfl (by decide) rfl (fun ls hl => ?_)
        refine lv_goto (tgt := 119) hx hb dX12_doOne_158 (by decide) ?_
        exact ih z4 v1 v2 (v4 + (1 : Int32)) hf _ _ _ hP hD hS (lv_sub hl [1, 2, 3, 0] rfl)
set_option maxRecDepth 20000 in
theorem tX12_doOne_110 {d : Nat} {q : Nat → Nat}  (X : tc_X dC dI ca A RX12 cX12_doOne 5 none p s m args meth c) (z : ms_T) (rc : ms_T → Int32 → Int32 → Option (ms_T)) (hrc : ∀ {S : ms_T} {a1 : Int32} {a2 : Int32} {z : ms_T}, rc S a1 a2 = some z → tc_MV l dC dI ca yX12_doAll cX12_doAll 4 none (rmX12_doAll d) [.ref (q 0), .int (a1), .int (a2)] (w12 ca q S) (w12 ca q z))    : ∀ (S : ms_T) (v1 : Int32) (v2 : Int32) (v3 : Int32), fX12_doOne_110 rc S v1 v2 v3 = some z → ∀ (H : Heap) (locs : List Loc) (ls : Array Slot), va_P (dC, dI) classes (w12 ca q S) H → va_D A (w12 ca q S) → va_S A s.heap H locs → lv_has ls 5 [(0, .ref (q 0)), (1, .int (v1)), (2, .int (v2)), (3, .int (v3))] → W p l e (rmX12_doOne (d + 1)) s m args below meth c H locs 0 0 (MQ below (tc_QV dC dI ca A (w12 ca q z)) args s 0 0 A) (F0 m 110 ls []) := by
  obtain ⟨hx, hb, hr, hml, hown, hts, hlk, hK, hA, hG⟩ := id X
  intro S v1 v2 v3 hf H locs ls hP hD hS hl
  unfold fX12_doOne_110 at hf
  refine lv_iload_n hx hb dX12_doOne_110 rfl (lv_at hl 3 rfl) ?_
  refine lv_bipush (v := (7 : Int32)) hx hb dX12_doOne_111 (by decide) ?_
  refine lv_icmp_ne (tgt := 164) hx hb dX12_doOne_113 (by decide) (fun hc => ?_) (fun hc => ?_)
  · have hf := tc_neg hc hf
    refine lv_iload_n hx hb dX12_doOne_164 rfl (lv_at hl 3 rfl) ?_
    refine lv_bipush (v := (7 : Int32)) hx hb dX12_doOne_165 (by decide) ?_
    refine lv_icmp_le (tgt := 175) hx hb dX12_doOne_167 (by decide) (fun hc => ?_) (fun hc => ?_)
    · have hf := tc_pos hc hf
      obtain rfl := Option.some.inj hf
      exact tc_rv X hP hD hS rfl dX12_doOne_175 rfl
    · have hf := tc_neg hc hf
      refine lv_aload_n hx hb dX12_doOne_170 rfl (lv_at hl 0 rfl) ?_
      refine lv_iconst (v := (1 : Int32)) hx hb dX12_doOne_171 (by decide) ?_
      refine va_put (D := (dC, dI)) (ci := 12) (v := .int ((1 : Int32))) (ty := .boolean) (C := RX12) (T := TX12) (N := 49) hx hb hts i_X12 tyX12 tyX12_ok nmX12 hown hK hP hD hS 0 rfl rfl 41 (by decide) (hts _ wf_X12_540) (fun _ h9 => h9) rfl (tyX12_ok 41 (by decide)) (tc_nb (by decide)) (tc_fb (by decide)) (Nat.le_of_ble_eq_true rfl) dX12_doOne_172 (fun H locs hP hD hS => ?_)
      have hP := tc_eP (pw12_0_41 ca q S (1 : Int32)) hP
      have hD := tc_eD (pw12_0_41 ca q S (1 : Int32)) hD
      obtain rfl := Option.some.inj hf
      exact tc_rv X hP hD hS rfl dX12_doOne_175 rfl
  · have hf := tc_pos hc hf
    refine lv_iconst (v := (0 : Int32)) hx hb dX12_doOne_116 (by decide) ?_
    refine lv_istore (lv' := [(4, .int ((0 : Int32))), (0, .ref (q 0)), (1, .int (v1)), (2, .int (v2)), (3, .int (v3))]) hx hb dX12_doOne_117 hl (by decide) rfl (fun ls hl => ?_)
    exact tX12_doOne_119 X z rc hrc FU S v1 v2 (0 : Int32) hf _ _ _ hP hD hS (lv_sub hl [1, 2, 3, 0] rfl)
set_option maxRecDepth 20000 in
theorem mX12_doOne {d : Nat} {q : Nat → Nat}  {S : ms_T} {a1 : Int32} {z : ms_T} {rc : ms_T → Int32 → Int32 → Option (ms_T)} (hrc : ∀ {S : ms_T} {a1 : Int32} {a2 : Int32} {z : ms_T}, rc S a1 a2 = some z → tc_MV l dC dI ca yX12_doAll cX12_doAll 4 none (rmX12_doAll d) [.ref (q 0), .int (a1), .int (a2)] (w12 ca q S) (w12 ca q z)) (hf : fX12_doOne rc S a1 = some z) : tc_MV l dC dI ca yX12_doOne cX12_doOne 5 none (rmX12_doOne (d + 1)) [.ref (q 0), .int (a1)] (w12 ca q S) (w12 ca q z) := by
  refine tc_metV (own := RX12) (by decide) rfl ?_ (Nat.le_of_ble_eq_true rfl)
  intro p e s m below meth c A X hP hD hS ls hl
  obtain ⟨hx, hb, hr, hml, hown, hts, hlk, hK, hA, hG⟩ := id X
  unfold fX12_doOne at hf
  have hl : lv_has ls 5 [(0, .ref (q 0)), (1, .int (a1))] := hl
  refine lv_aload_n hx hb dX12_doOne_0 rfl (lv_at hl 0 rfl) ?_
  refine va_get (D := (dC, dI)) (ci := 12) (v := .int (gi S 43)) (C := RX12) (T := TX12) (N := 49) hx hb hts i_X12 hown hK hP 0 rfl rfl 43 (by decide) (hts _ wf_X12_537) (fun _ h9 => h9) rfl dX12_doOne_1 ?_
  refine lv_sipush (v := (300 : Int32)) hx hb dX12_doOne_4 (by decide) ?_
  refine lv_icmp_ne (tgt := 21) hx hb dX12_doOne_7 (by decide) (fun hc => ?_) (fun hc => ?_)
  · have hf := tc_neg hc hf
    refine lv_aload_n hx hb dX12_doOne_21 rfl (lv_at hl 0 rfl) ?_
    refine lv_dup hx hb dX12_doOne_22 rfl ?_
    refine va_get (D := (dC, dI)) (ci := 12) (v := .int (gi S 43)) (C := RX12) (T := TX12) (N := 49) hx hb hts i_X12 hown hK hP 0 rfl rfl 43 (by decide) (hts _ wf_X12_537) (fun _ h9 => h9) rfl dX12_doOne_23 ?_
    refine lv_iconst (v := (1 : Int32)) hx hb dX12_doOne_26 (by decide) ?_
    refine lv_iadd hx hb dX12_doOne_27 ?_
    refine va_put (D := (dC, dI)) (ci := 12) (v := .int ((gi S 43) + (1 : Int32))) (ty := .int) (C := RX12) (T := TX12) (N := 49) hx hb hts i_X12 tyX12 tyX12_ok nmX12 hown hK hP hD hS 0 rfl rfl 43 (by decide) (hts _ wf_X12_537) (fun _ h9 => h9) rfl (tyX12_ok 43 (by decide)) rfl rfl (Nat.le_of_ble_eq_true rfl) dX12_doOne_28 (fun H locs hP hD hS => ?_)
    have hP := tc_eP (pw12_0_43 ca q S ((gi S 43) + (1 : Int32))) hP
    have hD := tc_eD (pw12_0_43 ca q S ((gi S 43) + (1 : Int32))) hD
    refine lv_bipush (v := (94 : Int32)) hx hb dX12_doOne_31 (by decide) ?_
    refine lv_bipush (v := (9 : Int32)) hx hb dX12_doOne_33 (by decide) ?_
    refine lv_iload_n hx hb dX12_doOne_35 rfl (lv_at hl 1 rfl) ?_
    refine lv_imul hx hb dX12_doOne_36 ?_
    refine lv_iadd hx hb dX12_doOne_37 ?_
    refine lv_istore_n (lv' := [(2, .int ((94 : Int32) + ((9 : Int32) * a1))), (0, .ref (q 0)), (1, .int (a1))]) hx hb dX12_doOne_38 rfl hl (by decide) rfl (fun ls hl => ?_)
    refine lv_aload_n hx hb dX12_doOne_39 rfl (lv_at hl 1 rfl) ?_
    refine va_get (D := (dC, dI)) (ci := 12) (v := .ref (q 5)) (C := RX12) (T := TX12) (N := 49) hx hb hts i_X12 hown hK hP 0 rfl rfl 20 (by decide) (hts _ wf_X12_35) (fun _ h9 => h9) rfl dX12_doOne_40 ?_
    refine lv_iload_n hx hb dX12_doOne_43 rfl (lv_at hl 0 rfl) ?_
    obtain ⟨hi1, hf⟩ := tc_in hf
    refine va_iald hx hb hK hP 5 1 rfl rfl hi1 dX12_doOne_44 ?_
    refine lv_istore_n (lv' := [(3, .int (ia (si S 43 ((gi S 43) + (1 : Int32))) 5 ((94 : Int32) + ((9 : Int32) * a1)))), (2, .int ((94 : Int32) + ((9 : Int32) * a1))), (0, .ref (q 0)), (1, .int (a1))]) hx hb dX12_doOne_45 rfl hl (by decide) rfl (fun ls hl => ?_)
    refine lv_iload_n hx hb dX12_doOne_46 rfl (lv_at hl 0 rfl) ?_
    refine lv_bipush (v := (6 : Int32)) hx hb dX12_doOne_47 (by decide) ?_
    refine lv_icmp_ge (tgt := 77) hx hb dX12_doOne_49 (by decide) (fun hc => ?_) (fun hc => ?_)
    · have hf := tc_pos hc hf
      refine lv_iload_n hx hb dX12_doOne_77 rfl (lv_at hl 0 rfl) ?_
      refine lv_bipush (v := (6 : Int32)) hx hb dX12_doOne_78 (by decide) ?_
      refine lv_icmp_ne (tgt := 110) hx hb dX12_doOne_80 (by decide) (fun hc => ?_) (fun hc => ?_)
      · have hf := tc_neg hc hf
        exact tX12_doOne_110 X z rc hrc (si S 43 ((gi S 43) + (1 : Int32))) a1 ((94 : Int32) + ((9 : Int32) * a1)) (ia (si S 43 ((gi S 43) + (1 : Int32))) 5 ((94 : Int32) + ((9 : Int32) * a1))) hf _ _ _ hP hD hS (lv_sub hl [2, 3, 1, 0] rfl)
      · have hf := tc_pos hc hf
        refine lv_aload_n hx hb dX12_doOne_83 rfl (lv_at hl 2 rfl) ?_
        refine lv_iload_n hx hb dX12_doOne_84 rfl (lv_at hl 1 rfl) ?_
        obtain ⟨z5, hg, hf⟩ := tc_bi hf
        refine tc_iVs (As := [.int ((94 : Int32) + ((9 : Int32) * a1))]) (rest := []) (b := q 0) X hP hD hS (mX12_holds hg) okX12_holds wl_X12_552 wi_X12_holds ws_X12_X12_holds_X12_holds ⟨rfl, rfl, (by show 3 + 1 ≤ 7 + 2 * (d + 1); omega), (by show 8 + (5 + 11) + 68 ≤ 158 + (d + 1) * 47; omega)⟩ 12 0 rfl rfl rfl hl.1 (Nat.le_of_ble_eq_true rfl) dX12_doOne_85 (fun H locs hP hD hS => ?_)
        refine lv_if_eq (tgt := 110) hx hb dX12_doOne_88 (by decide) (fun hc => ?_) (fun hc => ?_)
        · have hf := tc_pos hc hf
          exact tX12_doOne_110 X z rc hrc (si S 43 ((gi S 43) + (1 : Int32))) a1 ((94 : Int32) + ((9 : Int32) * a1)) (ia (si S 43 ((gi S 43) + (1 : Int32))) 5 ((94 : Int32) + ((9 : Int32) * a1))) hf _ _ _ hP hD hS (lv_sub hl [2, 3, 1, 0] rfl)
        · have hf := tc_neg hc hf
          refine lv_aload_n hx hb dX12_doOne_91 rfl (lv_at hl 2 rfl) ?_
          refine lv_iload_n hx hb dX12_doOne_92 rfl (lv_at hl 3 rfl) ?_
          refine lv_iconst (v := (1 : Int32)) hx hb dX12_doOne_93 (by decide) ?_
          refine lv_iadd hx hb dX12_doOne_94 ?_
          refine lv_aload_n hx hb dX12_doOne_95 rfl (lv_at hl 2 rfl) ?_
          refine va_get (D := (dC, dI)) (ci := 12) (v := .ref (q 5)) (C := RX12) (T := TX12) (N := 49) hx hb hts i_X12 hown hK hP 0 rfl rfl 20 (by decide) (hts _ wf_X12_35) (fun _ h9 => h9) rfl dX12_doOne_96 ?_
          refine lv_iload_n hx hb dX12_doOne_99 rfl (lv_at hl 1 rfl) ?_
          refine lv_bipush (v := (8 : Int32)) hx hb dX12_doOne_100 (by decide) ?_
          refine lv_iadd hx hb dX12_doOne_102 ?_
          obtain ⟨hi6, hf⟩ := tc_in hf
          refine va_iald hx hb hK hP 5 1 rfl rfl hi6 dX12_doOne_103 ?_
          obtain ⟨z7, hg, hf⟩ := tc_bi hf
          refine tc_vVs (As := [.int (a1 + (1 : Int32)), .int (ia (si S 43 ((gi S 43) + (1 : Int32))) 5 (((94 : Int32) + ((9 : Int32) * a1)) + (8 : Int32)))]) (rest := []) (b := q 0) X hP hD hS (hrc hg) okX12_doAll wl_X12_555 wi_X12_doAll ws_X12_X12_doAll_X12_doAll ⟨rfl, rfl, (by show (8 + 2 * d) + 1 ≤ 7 + 2 * (d + 1); omega), (by show 8 + (4 + 11) + (182 + d * 47) ≤ 158 + (d + 1) * 47; omega)⟩ 12 0 rfl rfl rfl hl.1 (Nat.le_of_ble_eq_true rfl) dX12_doOne_104 (fun H locs hP hD hS => ?_)
          refine lv_goto (tgt := 175) hx hb dX12_doOne_107 (by decide) ?_
          obtain rfl := Option.some.inj hf
          exact tc_rv X hP hD hS rfl dX12_doOne_175 rfl
    · have hf := tc_neg hc hf
      refine lv_aload_n hx hb dX12_doOne_52 rfl (lv_at hl 2 rfl) ?_
      refine lv_dup hx hb dX12_doOne_53 rfl ?_
      refine va_get (D := (dC, dI)) (ci := 12) (v := .int (gi (si S 43 ((gi S 43) + (1 : Int32))) 44)) (C := RX12) (T := TX12) (N := 49) hx hb hts i_X12 hown hK hP 0 rfl rfl 44 (by decide) (hts _ wf_X12_546) (fun _ h9 => h9) rfl dX12_doOne_54 ?_
      refine lv_aload_n hx hb dX12_doOne_57 rfl (lv_at hl 2 rfl) ?_
      refine lv_iload_n hx hb dX12_doOne_58 rfl (lv_at hl 1 rfl) ?_
      obtain ⟨z8, hg, hf⟩ := tc_bi hf
      refine tc_iVs (As := [.int ((94 : Int32) + ((9 : Int32) * a1))]) (rest := [.int (gi (si S 43 ((gi S 43) + (1 : Int32))) 44), .ref (q 0)]) (b := q 0) X hP hD hS (mX12_does hg) okX12_does wl_X12_549 wi_X12_does ws_X12_X12_does_X12_does ⟨rfl, rfl, (by show 6 + 1 ≤ 7 + 2 * (d + 1); omega), (by show 8 + (4 + 11) + 135 ≤ 158 + (d + 1) * 47; omega)⟩ 12 0 rfl rfl rfl hl.1 (Nat.le_of_ble_eq_true rfl) dX12_doOne_59 (fun H locs hP hD hS => ?_)
      refine lv_if_eq (tgt := 69) hx hb dX12_doOne_62 (by decide) (fun hc => ?_) (fun hc => ?_)
      · have hf := tc_pos hc hf
        refine lv_iconst (v := (1 : Int32)) hx hb dX12_doOne_69 (by decide) ?_
        refine lv_iadd hx hb dX12_doOne_70 ?_
        refine va_put (D := (dC, dI)) (ci := 12) (v := .int ((gi (si S 43 ((gi S 43) + (1 : Int32))) 44) + (1 : Int32))) (ty := .int) (C := RX12) (T := TX12) (N := 49) hx hb hts i_X12 tyX12 tyX12_ok nmX12 hown hK hP hD hS 0 rfl rfl 44 (by decide) (hts _ wf_X12_546) (fun _ h9 => h9) rfl (tyX12_ok 44 (by decide)) rfl rfl (Nat.le_of_ble_eq_true rfl) dX12_doOne_71 (fun H locs hP hD hS => ?_)
        have hP := tc_eP (pw12_0_44 ca q z8.2 ((gi (si S 43 ((gi S 43) + (1 : Int32))) 44) + (1 : Int32))) hP
        have hD := tc_eD (pw12_0_44 ca q z8.2 ((gi (si S 43 ((gi S 43) + (1 : Int32))) 44) + (1 : Int32))) hD
        refine lv_goto (tgt := 175) hx hb dX12_doOne_74 (by decide) ?_
        obtain rfl := Option.some.inj hf
        exact tc_rv X hP hD hS rfl dX12_doOne_175 rfl
      · have hf := tc_neg hc hf
        refine lv_iconst (v := (0 : Int32)) hx hb dX12_doOne_65 (by decide) ?_
        refine lv_goto (tgt := 70) hx hb dX12_doOne_66 (by decide) ?_
        refine lv_iadd hx hb dX12_doOne_70 ?_
        refine va_put (D := (dC, dI)) (ci := 12) (v := .int ((gi (si S 43 ((gi S 43) + (1 : Int32))) 44) + (0 : Int32))) (ty := .int) (C := RX12) (T := TX12) (N := 49) hx hb hts i_X12 tyX12 tyX12_ok nmX12 hown hK hP hD hS 0 rfl rfl 44 (by decide) (hts _ wf_X12_546) (fun _ h9 => h9) rfl (tyX12_ok 44 (by decide)) rfl rfl (Nat.le_of_ble_eq_true rfl) dX12_doOne_71 (fun H locs hP hD hS => ?_)
        have hP := tc_eP (pw12_0_44 ca q z8.2 ((gi (si S 43 ((gi S 43) + (1 : Int32))) 44) + (0 : Int32))) hP
        have hD := tc_eD (pw12_0_44 ca q z8.2 ((gi (si S 43 ((gi S 43) + (1 : Int32))) 44) + (0 : Int32))) hD
        refine lv_goto (tgt := 175) hx hb dX12_doOne_74 (by decide) ?_
        obtain rfl := Option.some.inj hf
        exact tc_rv X hP hD hS rfl dX12_doOne_175 rfl
  · have hf := tc_pos hc hf
    refine lv_aload_n hx hb dX12_doOne_10 rfl (lv_at hl 0 rfl) ?_
    refine lv_iconst (v := (1 : Int32)) hx hb dX12_doOne_11 (by decide) ?_
    refine va_put (D := (dC, dI)) (ci := 12) (v := .int ((1 : Int32))) (ty := .boolean) (C := RX12) (T := TX12) (N := 49) hx hb hts i_X12 tyX12 tyX12_ok nmX12 hown hK hP hD hS 0 rfl rfl 41 (by decide) (hts _ wf_X12_540) (fun _ h9 => h9) rfl (tyX12_ok 41 (by decide)) (tc_nb (by decide)) (tc_fb (by decide)) (Nat.le_of_ble_eq_true rfl) dX12_doOne_12 (fun H locs hP hD hS => ?_)
    have hP := tc_eP (pw12_0_41 ca q S (1 : Int32)) hP
    have hD := tc_eD (pw12_0_41 ca q S (1 : Int32)) hD
    refine lv_aload_n hx hb dX12_doOne_15 rfl (lv_at hl 0 rfl) ?_
    refine lv_iconst (v := (1 : Int32)) hx hb dX12_doOne_16 (by decide) ?_
    refine va_put (D := (dC, dI)) (ci := 12) (v := .int ((1 : Int32))) (ty := .int) (C := RX12) (T := TX12) (N := 49) hx hb hts i_X12 tyX12 tyX12_ok nmX12 hown hK hP hD hS 0 rfl rfl 48 (by decide) (hts _ wf_X12_543) (fun _ h9 => h9) rfl (tyX12_ok 48 (by decide)) rfl rfl (Nat.le_of_ble_eq_true rfl) dX12_doOne_17 (fun H locs hP hD hS => ?_)
    have hP := tc_eP (pw12_0_48 ca q (si S 41 (1 : Int32)) (1 : Int32)) hP
    have hD := tc_eD (pw12_0_48 ca q (si S 41 (1 : Int32)) (1 : Int32)) hD
    obtain rfl := Option.some.inj hf
    exact tc_rv X hP hD hS rfl dX12_doOne_20 rfl
def fX12_doAll_2 (rc : ms_T → Int32 → Int32 → Option (ms_T))   : Nat → ms_T → Int32 → Int32 → Option (ms_T)
  | 0, _, _, _ => none
  | n + 1, S, v2, v3 =>
    if v2 ≤ v3 then
      some (S)
    else
      if (gi S 41) = 0 then
        (fX12_doOne rc S v3).bind fun z1 =>
        if inb (((94 : Int32) + ((9 : Int32) * v3)) + (8 : Int32)) 1820 = true then
          fX12_doAll_2 rc n z1 v2 (ia z1 5 (((94 : Int32) + ((9 : Int32) * v3)) + (8 : Int32)))
        else none
      else
        some (S)
def fX12_doAll_0 (rc : ms_T → Int32 → Int32 → Option (ms_T)) (S : ms_T) (a1 : Int32) (a2 : Int32) : Option (ms_T) :=
  fX12_doAll_2 rc FU S a2 a1
def fX12_doAll : Nat → ms_T → Int32 → Int32 → Option (ms_T)
  | 0, _, _, _ => none
  | d + 1, S, a1, a2 => fX12_doAll_0 (fX12_doAll d) S a1 a2
set_option maxRecDepth 20000 in
theorem tX12_doAll_2 {d : Nat} {q : Nat → Nat}  (X : tc_X dC dI ca A RX12 cX12_doAll 4 none p s m args meth c) (z : ms_T) (rc : ms_T → Int32 → Int32 → Option (ms_T)) (hrc : ∀ {S : ms_T} {a1 : Int32} {a2 : Int32} {z : ms_T}, rc S a1 a2 = some z → tc_MV l dC dI ca yX12_doAll cX12_doAll 4 none (rmX12_doAll d) [.ref (q 0), .int (a1), .int (a2)] (w12 ca q S) (w12 ca q z))    : ∀ n : Nat, ∀ (S : ms_T) (v2 : Int32) (v3 : Int32), fX12_doAll_2 rc n S v2 v3 = some z → ∀ (H : Heap) (locs : List Loc) (ls : Array Slot), va_P (dC, dI) classes (w12 ca q S) H → va_D A (w12 ca q S) → va_S A s.heap H locs → lv_has ls 4 [(0, .ref (q 0)), (2, .int (v2)), (3, .int (v3))] → W p l e (rmX12_doAll (d + 1)) s m args below meth c H locs 0 0 (MQ below (tc_QV dC dI ca A (w12 ca q z)) args s 0 0 A) (F0 m 2 ls []) := by
  obtain ⟨hx, hb, hr, hml, hown, hts, hlk, hK, hA, hG⟩ := id X
  intro n
  induction n with
  | zero => intro S v2 v3 hf; exact absurd (show none = some z from hf) (fun h => by cases h)
  | succ n ih =>
    intro S v2 v3 hf H locs ls hP hD hS hl
    rw [fX12_doAll_2] at hf
    refine lv_iload_n hx hb dX12_doAll_2 rfl (lv_at hl 2 rfl) ?_
    refine lv_iload_n hx hb dX12_doAll_3 rfl (lv_at hl 1 rfl) ?_
    refine lv_icmp_ge (tgt := 38) hx hb dX12_doAll_4 (by decide) (fun hc => ?_) (fun hc => ?_)
    · have hf := tc_pos hc hf
      obtain rfl := Option.some.inj hf
      exact tc_rv X hP hD hS rfl dX12_doAll_38 rfl
    · have hf := tc_neg hc hf
      refine lv_aload_n hx hb dX12_doAll_7 rfl (lv_at hl 0 rfl) ?_
      refine va_get (D := (dC, dI)) (ci := 12) (v := .int (gi S 41)) (C := RX12) (T := TX12) (N := 49) hx hb hts i_X12 hown hK hP 0 rfl rfl 41 (by decide) (hts _ wf_X12_540) (fun _ h9 => h9) rfl dX12_doAll_8 ?_
      refine lv_if_ne (tgt := 38) hx hb dX12_doAll_11 (by decide) (fun hc => ?_) (fun hc => ?_)
      · have hf := tc_neg hc hf
        obtain rfl := Option.some.inj hf
        exact tc_rv X hP hD hS rfl dX12_doAll_38 rfl
      · have hf := tc_pos hc hf
        refine lv_aload_n hx hb dX12_doAll_14 rfl (lv_at hl 0 rfl) ?_
        refine lv_iload_n hx hb dX12_doAll_15 rfl (lv_at hl 2 rfl) ?_
        obtain ⟨z1, hg, hf⟩ := tc_bi hf
        refine tc_vVs (As := [.int (v3)]) (rest := []) (b := q 0) X hP hD hS (mX12_doOne hrc hg) okX12_doOne wl_X12_558 wi_X12_doOne ws_X12_X12_doOne_X12_doOne ⟨rfl, rfl, (by show (7 + 2 * (d + 1)) + 1 ≤ 8 + 2 * (d + 1); omega), (by show 8 + (5 + 11) + (158 + (d + 1) * 47) ≤ 182 + (d + 1) * 47; omega)⟩ 12 0 rfl rfl rfl hl.1 (Nat.le_of_ble_eq_true rfl) dX12_doAll_16 (fun H locs hP hD hS => ?_)
        refine lv_aload_n hx hb dX12_doAll_19 rfl (lv_at hl 0 rfl) ?_
        refine va_get (D := (dC, dI)) (ci := 12) (v := .ref (q 5)) (C := RX12) (T := TX12) (N := 49) hx hb hts i_X12 hown hK hP 0 rfl rfl 20 (by decide) (hts _ wf_X12_35) (fun _ h9 => h9) rfl dX12_doAll_20 ?_
        refine lv_bipush (v := (94 : Int32)) hx hb dX12_doAll_23 (by decide) ?_
        refine lv_bipush (v := (9 : Int32)) hx hb dX12_doAll_25 (by decide) ?_
        refine lv_iload_n hx hb dX12_doAll_27 rfl (lv_at hl 2 rfl) ?_
        refine lv_imul hx hb dX12_doAll_28 ?_
        refine lv_iadd hx hb dX12_doAll_29 ?_
        refine lv_bipush (v := (8 : Int32)) hx hb dX12_doAll_30 (by decide) ?_
        refine lv_iadd hx hb dX12_doAll_32 ?_
        obtain ⟨hi2, hf⟩ := tc_in hf
        refine va_iald hx hb hK hP 5 1 rfl rfl hi2 dX12_doAll_33 ?_
        refine lv_istore_n (lv' := [(3, .int (ia z1 5 (((94 : Int32) + ((9 : Int32) * v3)) + (8 : Int32)))), (0, .ref (q 0)), (2, .int (v2))]) hx hb dX12_doAll_34 rfl hl (by decide) rfl (fun ls hl => ?_)
        refine lv_goto (tgt := 2) hx hb dX12_doAll_35 (by decide) ?_
        exact ih z1 v2 (ia z1 5 (((94 : Int32) + ((9 : Int32) * v3)) + (8 : Int32))) hf _ _ _ hP hD hS (lv_sub hl [1, 2, 0] rfl)
set_option maxRecDepth 20000 in
theorem mX12_doAll_0 {d : Nat} {q : Nat → Nat}  {S : ms_T} {a1 : Int32} {a2 : Int32} {z : ms_T} {rc : ms_T → Int32 → Int32 → Option (ms_T)} (hrc : ∀ {S : ms_T} {a1 : Int32} {a2 : Int32} {z : ms_T}, rc S a1 a2 = some z → tc_MV l dC dI ca yX12_doAll cX12_doAll 4 none (rmX12_doAll d) [.ref (q 0), .int (a1), .int (a2)] (w12 ca q S) (w12 ca q z)) (hf : fX12_doAll_0 rc S a1 a2 = some z) : tc_MV l dC dI ca yX12_doAll cX12_doAll 4 none (rmX12_doAll (d + 1)) [.ref (q 0), .int (a1), .int (a2)] (w12 ca q S) (w12 ca q z) := by
  refine tc_metV (own := RX12) (by decide) rfl ?_ (Nat.le_of_ble_eq_true rfl)
  intro p e s m below meth c A X hP hD hS ls hl
  obtain ⟨hx, hb, hr, hml, hown, hts, hlk, hK, hA, hG⟩ := id X
  unfold fX12_doAll_0 at hf
  have hl : lv_has ls 4 [(0, .ref (q 0)), (1, .int (a1)), (2, .int (a2))] := hl
  refine lv_iload_n hx hb dX12_doAll_0 rfl (lv_at hl 1 rfl) ?_
  refine lv_istore_n (lv' := [(3, .int (a1)), (0, .ref (q 0)), (1, .int (a1)), (2, .int (a2))]) hx hb dX12_doAll_1 rfl hl (by decide) rfl (fun ls hl => ?_)
  exact tX12_doAll_2 X z rc hrc FU S a2 a1 hf _ _ _ hP hD hS (lv_sub hl [1, 3, 0] rfl)
theorem mX12_doAll (d : Nat) {q : Nat → Nat}  : ∀ {S : ms_T} {a1 : Int32} {a2 : Int32} {z : ms_T}, fX12_doAll d S a1 a2 = some z → tc_MV l dC dI ca yX12_doAll cX12_doAll 4 none (rmX12_doAll d) [.ref (q 0), .int (a1), .int (a2)] (w12 ca q S) (w12 ca q z) := by
  induction d with
  | zero => intro S a1 a2 z hf; exact absurd (show none = some z from hf) (fun h => by cases h)
  | succ d ih => intro S a1 a2 z hf; exact mX12_doAll_0 ih hf
def fX12_runsEvenings  (S : ms_T) (a1 : Int32) : Option (ms_T) :=
  (fX12_doAll 6 (si (si (si (si (si (si (si (si S 42 a1) 43 (0 : Int32)) 44 (0 : Int32)) 45 (ia (si (si (si S 42 a1) 43 (0 : Int32)) 44 (0 : Int32)) 5 (5 : Int32))) 46 (0 : Int32)) 47 (0 : Int32)) 48 (0 : Int32)) 41 (0 : Int32)) (0 : Int32) (ia (si (si (si (si (si (si (si (si S 42 a1) 43 (0 : Int32)) 44 (0 : Int32)) 45 (ia (si (si (si S 42 a1) 43 (0 : Int32)) 44 (0 : Int32)) 5 (5 : Int32))) 46 (0 : Int32)) 47 (0 : Int32)) 48 (0 : Int32)) 41 (0 : Int32)) 5 (93 : Int32))).bind fun z1 =>
  some (z1)
abbrev rmX12_runsEvenings : Room := { frames := 21, cells := 0, slots := 0, locals := 487 }
theorem okX12_runsEvenings : tc_ok yX12_runsEvenings cX12_runsEvenings 2 none 1 := ⟨wc_X12_runsEvenings, wn_X12, by decide, by decide, by decide +kernel⟩
set_option maxRecDepth 20000 in
theorem mX12_runsEvenings {q : Nat → Nat}  {S : ms_T} {a1 : Int32} {z : ms_T}  (hf : fX12_runsEvenings S a1 = some z) : tc_MV l dC dI ca yX12_runsEvenings cX12_runsEvenings 2 none rmX12_runsEvenings [.ref (q 0), .int (a1)] (w12 ca q S) (w12 ca q z) := by
  refine tc_metV (own := RX12) (by decide) rfl ?_ (Nat.le_of_ble_eq_true rfl)
  intro p e s m below meth c A X hP hD hS ls hl
  obtain ⟨hx, hb, hr, hml, hown, hts, hlk, hK, hA, hG⟩ := id X
  unfold fX12_runsEvenings at hf
  have hl : lv_has ls 2 [(0, .ref (q 0)), (1, .int (a1))] := hl
  refine lv_aload_n hx hb dX12_runsEvenings_0 rfl (lv_at hl 0 rfl) ?_
  refine lv_iload_n hx hb dX12_runsEvenings_1 rfl (lv_at hl 1 rfl) ?_
  refine va_put (D := (dC, dI)) (ci := 12) (v := .int (a1)) (ty := .int) (C := RX12) (T := TX12) (N := 49) hx hb hts i_X12 tyX12 tyX12_ok nmX12 hown hK hP hD hS 0 rfl rfl 42 (by decide) (hts _ wf_X12_515) (fun _ h9 => h9) rfl (tyX12_ok 42 (by decide)) rfl rfl (Nat.le_of_ble_eq_true rfl) dX12_runsEvenings_2 (fun H locs hP hD hS => ?_)
  have hP := tc_eP (pw12_0_42 ca q S a1) hP
  have hD := tc_eD (pw12_0_42 ca q S a1) hD
  refine lv_aload_n hx hb dX12_runsEvenings_5 rfl (lv_at hl 0 rfl) ?_
  refine lv_iconst (v := (0 : Int32)) hx hb dX12_runsEvenings_6 (by decide) ?_
  refine va_put (D := (dC, dI)) (ci := 12) (v := .int ((0 : Int32))) (ty := .int) (C := RX12) (T := TX12) (N := 49) hx hb hts i_X12 tyX12 tyX12_ok nmX12 hown hK hP hD hS 0 rfl rfl 43 (by decide) (hts _ wf_X12_537) (fun _ h9 => h9) rfl (tyX12_ok 43 (by decide)) rfl rfl (Nat.le_of_ble_eq_true rfl) dX12_runsEvenings_7 (fun H locs hP hD hS => ?_)
  have hP := tc_eP (pw12_0_43 ca q (si S 42 a1) (0 : Int32)) hP
  have hD := tc_eD (pw12_0_43 ca q (si S 42 a1) (0 : Int32)) hD
  refine lv_aload_n hx hb dX12_runsEvenings_10 rfl (lv_at hl 0 rfl) ?_
  refine lv_iconst (v := (0 : Int32)) hx hb dX12_runsEvenings_11 (by decide) ?_
  refine va_put (D := (dC, dI)) (ci := 12) (v := .int ((0 : Int32))) (ty := .int) (C := RX12) (T := TX12) (N := 49) hx hb hts i_X12 tyX12 tyX12_ok nmX12 hown hK hP hD hS 0 rfl rfl 44 (by decide) (hts _ wf_X12_546) (fun _ h9 => h9) rfl (tyX12_ok 44 (by decide)) rfl rfl (Nat.le_of_ble_eq_true rfl) dX12_runsEvenings_12 (fun H locs hP hD hS => ?_)
  have hP := tc_eP (pw12_0_44 ca q (si (si S 42 a1) 43 (0 : Int32)) (0 : Int32)) hP
  have hD := tc_eD (pw12_0_44 ca q (si (si S 42 a1) 43 (0 : Int32)) (0 : Int32)) hD
  refine lv_aload_n hx hb dX12_runsEvenings_15 rfl (lv_at hl 0 rfl) ?_
  refine lv_aload_n hx hb dX12_runsEvenings_16 rfl (lv_at hl 0 rfl) ?_
  refine va_get (D := (dC, dI)) (ci := 12) (v := .ref (q 5)) (C := RX12) (T := TX12) (N := 49) hx hb hts i_X12 hown hK hP 0 rfl rfl 20 (by decide) (hts _ wf_X12_35) (fun _ h9 => h9) rfl dX12_runsEvenings_17 ?_
  refine lv_iconst (v := (5 : Int32)) hx hb dX12_runsEvenings_20 (by decide) ?_
  refine va_iald hx hb hK hP 5 1 rfl rfl (inb_vp (by decide)) dX12_runsEvenings_21 ?_
  refine va_put (D := (dC, dI)) (ci := 12) (v := .int (ia (si (si (si S 42 a1) 43 (0 : Int32)) 44 (0 : Int32)) 5 (5 : Int32))) (ty := .int) (C := RX12) (T := TX12) (N := 49) hx hb hts i_X12 tyX12 tyX12_ok nmX12 hown hK hP hD hS 0 rfl rfl 45 (by decide) (hts _ wf_X12_561) (fun _ h9 => h9) rfl (tyX12_ok 45 (by decide)) rfl rfl (Nat.le_of_ble_eq_true rfl) dX12_runsEvenings_22 (fun H locs hP hD hS => ?_)
  have hP := tc_eP (pw12_0_45 ca q (si (si (si S 42 a1) 43 (0 : Int32)) 44 (0 : Int32)) (ia (si (si (si S 42 a1) 43 (0 : Int32)) 44 (0 : Int32)) 5 (5 : Int32))) hP
  have hD := tc_eD (pw12_0_45 ca q (si (si (si S 42 a1) 43 (0 : Int32)) 44 (0 : Int32)) (ia (si (si (si S 42 a1) 43 (0 : Int32)) 44 (0 : Int32)) 5 (5 : Int32))) hD
  refine lv_aload_n hx hb dX12_runsEvenings_25 rfl (lv_at hl 0 rfl) ?_
  refine lv_iconst (v := (0 : Int32)) hx hb dX12_runsEvenings_26 (by decide) ?_
  refine va_put (D := (dC, dI)) (ci := 12) (v := .int ((0 : Int32))) (ty := .int) (C := RX12) (T := TX12) (N := 49) hx hb hts i_X12 tyX12 tyX12_ok nmX12 hown hK hP hD hS 0 rfl rfl 46 (by decide) (hts _ wf_X12_519) (fun _ h9 => h9) rfl (tyX12_ok 46 (by decide)) rfl rfl (Nat.le_of_ble_eq_true rfl) dX12_runsEvenings_27 (fun H locs hP hD hS => ?_)
  have hP := tc_eP (pw12_0_46 ca q (si (si (si (si S 42 a1) 43 (0 : Int32)) 44 (0 : Int32)) 45 (ia (si (si (si S 42 a1) 43 (0 : Int32)) 44 (0 : Int32)) 5 (5 : Int32))) (0 : Int32)) hP
  have hD := tc_eD (pw12_0_46 ca q (si (si (si (si S 42 a1) 43 (0 : Int32)) 44 (0 : Int32)) 45 (ia (si (si (si S 42 a1) 43 (0 : Int32)) 44 (0 : Int32)) 5 (5 : Int32))) (0 : Int32)) hD
  refine lv_aload_n hx hb dX12_runsEvenings_30 rfl (lv_at hl 0 rfl) ?_
  refine lv_iconst (v := (0 : Int32)) hx hb dX12_runsEvenings_31 (by decide) ?_
  refine va_put (D := (dC, dI)) (ci := 12) (v := .int ((0 : Int32))) (ty := .int) (C := RX12) (T := TX12) (N := 49) hx hb hts i_X12 tyX12 tyX12_ok nmX12 hown hK hP hD hS 0 rfl rfl 47 (by decide) (hts _ wf_X12_522) (fun _ h9 => h9) rfl (tyX12_ok 47 (by decide)) rfl rfl (Nat.le_of_ble_eq_true rfl) dX12_runsEvenings_32 (fun H locs hP hD hS => ?_)
  have hP := tc_eP (pw12_0_47 ca q (si (si (si (si (si S 42 a1) 43 (0 : Int32)) 44 (0 : Int32)) 45 (ia (si (si (si S 42 a1) 43 (0 : Int32)) 44 (0 : Int32)) 5 (5 : Int32))) 46 (0 : Int32)) (0 : Int32)) hP
  have hD := tc_eD (pw12_0_47 ca q (si (si (si (si (si S 42 a1) 43 (0 : Int32)) 44 (0 : Int32)) 45 (ia (si (si (si S 42 a1) 43 (0 : Int32)) 44 (0 : Int32)) 5 (5 : Int32))) 46 (0 : Int32)) (0 : Int32)) hD
  refine lv_aload_n hx hb dX12_runsEvenings_35 rfl (lv_at hl 0 rfl) ?_
  refine lv_iconst (v := (0 : Int32)) hx hb dX12_runsEvenings_36 (by decide) ?_
  refine va_put (D := (dC, dI)) (ci := 12) (v := .int ((0 : Int32))) (ty := .int) (C := RX12) (T := TX12) (N := 49) hx hb hts i_X12 tyX12 tyX12_ok nmX12 hown hK hP hD hS 0 rfl rfl 48 (by decide) (hts _ wf_X12_543) (fun _ h9 => h9) rfl (tyX12_ok 48 (by decide)) rfl rfl (Nat.le_of_ble_eq_true rfl) dX12_runsEvenings_37 (fun H locs hP hD hS => ?_)
  have hP := tc_eP (pw12_0_48 ca q (si (si (si (si (si (si S 42 a1) 43 (0 : Int32)) 44 (0 : Int32)) 45 (ia (si (si (si S 42 a1) 43 (0 : Int32)) 44 (0 : Int32)) 5 (5 : Int32))) 46 (0 : Int32)) 47 (0 : Int32)) (0 : Int32)) hP
  have hD := tc_eD (pw12_0_48 ca q (si (si (si (si (si (si S 42 a1) 43 (0 : Int32)) 44 (0 : Int32)) 45 (ia (si (si (si S 42 a1) 43 (0 : Int32)) 44 (0 : Int32)) 5 (5 : Int32))) 46 (0 : Int32)) 47 (0 : Int32)) (0 : Int32)) hD
  refine lv_aload_n hx hb dX12_runsEvenings_40 rfl (lv_at hl 0 rfl) ?_
  refine lv_iconst (v := (0 : Int32)) hx hb dX12_runsEvenings_41 (by decide) ?_
  refine va_put (D := (dC, dI)) (ci := 12) (v := .int ((0 : Int32))) (ty := .boolean) (C := RX12) (T := TX12) (N := 49) hx hb hts i_X12 tyX12 tyX12_ok nmX12 hown hK hP hD hS 0 rfl rfl 41 (by decide) (hts _ wf_X12_540) (fun _ h9 => h9) rfl (tyX12_ok 41 (by decide)) (tc_nb (by decide)) (tc_fb (by decide)) (Nat.le_of_ble_eq_true rfl) dX12_runsEvenings_42 (fun H locs hP hD hS => ?_)
  have hP := tc_eP (pw12_0_41 ca q (si (si (si (si (si (si (si S 42 a1) 43 (0 : Int32)) 44 (0 : Int32)) 45 (ia (si (si (si S 42 a1) 43 (0 : Int32)) 44 (0 : Int32)) 5 (5 : Int32))) 46 (0 : Int32)) 47 (0 : Int32)) 48 (0 : Int32)) (0 : Int32)) hP
  have hD := tc_eD (pw12_0_41 ca q (si (si (si (si (si (si (si S 42 a1) 43 (0 : Int32)) 44 (0 : Int32)) 45 (ia (si (si (si S 42 a1) 43 (0 : Int32)) 44 (0 : Int32)) 5 (5 : Int32))) 46 (0 : Int32)) 47 (0 : Int32)) 48 (0 : Int32)) (0 : Int32)) hD
  refine lv_aload_n hx hb dX12_runsEvenings_45 rfl (lv_at hl 0 rfl) ?_
  refine lv_iconst (v := (0 : Int32)) hx hb dX12_runsEvenings_46 (by decide) ?_
  refine lv_aload_n hx hb dX12_runsEvenings_47 rfl (lv_at hl 0 rfl) ?_
  refine va_get (D := (dC, dI)) (ci := 12) (v := .ref (q 5)) (C := RX12) (T := TX12) (N := 49) hx hb hts i_X12 hown hK hP 0 rfl rfl 20 (by decide) (hts _ wf_X12_35) (fun _ h9 => h9) rfl dX12_runsEvenings_48 ?_
  refine lv_bipush (v := (93 : Int32)) hx hb dX12_runsEvenings_51 (by decide) ?_
  refine va_iald hx hb hK hP 5 1 rfl rfl (inb_vp (by decide)) dX12_runsEvenings_53 ?_
  obtain ⟨z1, hg, hf⟩ := tc_bi hf
  refine tc_vVs (As := [.int ((0 : Int32)), .int (ia (si (si (si (si (si (si (si (si S 42 a1) 43 (0 : Int32)) 44 (0 : Int32)) 45 (ia (si (si (si S 42 a1) 43 (0 : Int32)) 44 (0 : Int32)) 5 (5 : Int32))) 46 (0 : Int32)) 47 (0 : Int32)) 48 (0 : Int32)) 41 (0 : Int32)) 5 (93 : Int32))]) (rest := []) (b := q 0) X hP hD hS (mX12_doAll 6 hg) okX12_doAll wl_X12_555 wi_X12_doAll ws_X12_X12_doAll_X12_doAll ⟨rfl, rfl, Nat.le_of_ble_eq_true rfl, Nat.le_of_ble_eq_true rfl⟩ 12 0 rfl rfl rfl hl.1 (Nat.le_of_ble_eq_true rfl) dX12_runsEvenings_54 (fun H locs hP hD hS => ?_)
  obtain rfl := Option.some.inj hf
  exact tc_rv X hP hD hS rfl dX12_runsEvenings_57 rfl
def fX12_live  (S : ms_T) (a1 : Int32) : Option (Int32 × ms_T) :=
  (fX12_isIn a1.toInt64 (0 : Int64) (9999 : Int64)).bind fun z1 =>
  if z1 = 0 then
    (fX12_refuse (si (si S 1 (0 : Int32)) 0 (0 : Int32)) (5 : Int32)).bind fun z4 =>
    some (z4.1, z4.2)
  else
    if (ia (si (si S 1 (0 : Int32)) 0 (0 : Int32)) 5 (92 : Int32)) = 0 then
      (fX12_refuse (si (si S 1 (0 : Int32)) 0 (0 : Int32)) (8 : Int32)).bind fun z3 =>
      some (z3.1, z3.2)
    else
      (fX12_runsEvenings (si (si S 1 (0 : Int32)) 0 (0 : Int32)) a1).bind fun z2 =>
      some (gi (si (sa (sa (sa (sa (sa z2 12 (0 : Int32) (gi z2 44)) 12 (1 : Int32) ((ia (sa z2 12 (0 : Int32) (gi z2 44)) 5 (5 : Int32)) - (gi (sa z2 12 (0 : Int32) (gi z2 44)) 45))) 12 (2 : Int32) (gi (sa (sa z2 12 (0 : Int32) (gi z2 44)) 12 (1 : Int32) ((ia (sa z2 12 (0 : Int32) (gi z2 44)) 5 (5 : Int32)) - (gi (sa z2 12 (0 : Int32) (gi z2 44)) 45))) 46)) 12 (3 : Int32) (gi (sa (sa (sa z2 12 (0 : Int32) (gi z2 44)) 12 (1 : Int32) ((ia (sa z2 12 (0 : Int32) (gi z2 44)) 5 (5 : Int32)) - (gi (sa z2 12 (0 : Int32) (gi z2 44)) 45))) 12 (2 : Int32) (gi (sa (sa z2 12 (0 : Int32) (gi z2 44)) 12 (1 : Int32) ((ia (sa z2 12 (0 : Int32) (gi z2 44)) 5 (5 : Int32)) - (gi (sa z2 12 (0 : Int32) (gi z2 44)) 45))) 46)) 47)) 12 (4 : Int32) (gi (sa (sa (sa (sa z2 12 (0 : Int32) (gi z2 44)) 12 (1 : Int32) ((ia (sa z2 12 (0 : Int32) (gi z2 44)) 5 (5 : Int32)) - (gi (sa z2 12 (0 : Int32) (gi z2 44)) 45))) 12 (2 : Int32) (gi (sa (sa z2 12 (0 : Int32) (gi z2 44)) 12 (1 : Int32) ((ia (sa z2 12 (0 : Int32) (gi z2 44)) 5 (5 : Int32)) - (gi (sa z2 12 (0 : Int32) (gi z2 44)) 45))) 46)) 12 (3 : Int32) (gi (sa (sa (sa z2 12 (0 : Int32) (gi z2 44)) 12 (1 : Int32) ((ia (sa z2 12 (0 : Int32) (gi z2 44)) 5 (5 : Int32)) - (gi (sa z2 12 (0 : Int32) (gi z2 44)) 45))) 12 (2 : Int32) (gi (sa (sa z2 12 (0 : Int32) (gi z2 44)) 12 (1 : Int32) ((ia (sa z2 12 (0 : Int32) (gi z2 44)) 5 (5 : Int32)) - (gi (sa z2 12 (0 : Int32) (gi z2 44)) 45))) 46)) 47)) 48)) 40 (1 : Int32)) 43, si (sa (sa (sa (sa (sa z2 12 (0 : Int32) (gi z2 44)) 12 (1 : Int32) ((ia (sa z2 12 (0 : Int32) (gi z2 44)) 5 (5 : Int32)) - (gi (sa z2 12 (0 : Int32) (gi z2 44)) 45))) 12 (2 : Int32) (gi (sa (sa z2 12 (0 : Int32) (gi z2 44)) 12 (1 : Int32) ((ia (sa z2 12 (0 : Int32) (gi z2 44)) 5 (5 : Int32)) - (gi (sa z2 12 (0 : Int32) (gi z2 44)) 45))) 46)) 12 (3 : Int32) (gi (sa (sa (sa z2 12 (0 : Int32) (gi z2 44)) 12 (1 : Int32) ((ia (sa z2 12 (0 : Int32) (gi z2 44)) 5 (5 : Int32)) - (gi (sa z2 12 (0 : Int32) (gi z2 44)) 45))) 12 (2 : Int32) (gi (sa (sa z2 12 (0 : Int32) (gi z2 44)) 12 (1 : Int32) ((ia (sa z2 12 (0 : Int32) (gi z2 44)) 5 (5 : Int32)) - (gi (sa z2 12 (0 : Int32) (gi z2 44)) 45))) 46)) 47)) 12 (4 : Int32) (gi (sa (sa (sa (sa z2 12 (0 : Int32) (gi z2 44)) 12 (1 : Int32) ((ia (sa z2 12 (0 : Int32) (gi z2 44)) 5 (5 : Int32)) - (gi (sa z2 12 (0 : Int32) (gi z2 44)) 45))) 12 (2 : Int32) (gi (sa (sa z2 12 (0 : Int32) (gi z2 44)) 12 (1 : Int32) ((ia (sa z2 12 (0 : Int32) (gi z2 44)) 5 (5 : Int32)) - (gi (sa z2 12 (0 : Int32) (gi z2 44)) 45))) 46)) 12 (3 : Int32) (gi (sa (sa (sa z2 12 (0 : Int32) (gi z2 44)) 12 (1 : Int32) ((ia (sa z2 12 (0 : Int32) (gi z2 44)) 5 (5 : Int32)) - (gi (sa z2 12 (0 : Int32) (gi z2 44)) 45))) 12 (2 : Int32) (gi (sa (sa z2 12 (0 : Int32) (gi z2 44)) 12 (1 : Int32) ((ia (sa z2 12 (0 : Int32) (gi z2 44)) 5 (5 : Int32)) - (gi (sa z2 12 (0 : Int32) (gi z2 44)) 45))) 46)) 47)) 48)) 40 (1 : Int32))
abbrev rmX12_live : Room := { frames := 22, cells := 0, slots := 0, locals := 508 }
theorem okX12_live : tc_ok yX12_live cX12_live 2 (some .int) 1 := ⟨wc_X12_live, wn_X12, by decide, by decide, by decide +kernel⟩
set_option maxRecDepth 20000 in
theorem mX12_live {q : Nat → Nat}  {S : ms_T} {a1 : Int32} {z : Int32 × ms_T}  (hf : fX12_live S a1 = some z) : tc_MI l dC dI ca yX12_live cX12_live 2 (some .int) rmX12_live [.ref (q 0), .int (a1)] (w12 ca q S) (w12 ca q z.2) (z.1) := by
  refine tc_metI (own := RX12) (by decide) rfl ?_ (Nat.le_of_ble_eq_true rfl)
  intro p e s m below meth c A X hP hD hS ls hl
  obtain ⟨hx, hb, hr, hml, hown, hts, hlk, hK, hA, hG⟩ := id X
  unfold fX12_live at hf
  have hl : lv_has ls 2 [(0, .ref (q 0)), (1, .int (a1))] := hl
  refine lv_aload_n hx hb dX12_live_0 rfl (lv_at hl 0 rfl) ?_
  refine lv_iconst (v := (0 : Int32)) hx hb dX12_live_1 (by decide) ?_
  refine va_put (D := (dC, dI)) (ci := 12) (v := .int ((0 : Int32))) (ty := .int) (C := RX12) (T := TX12) (N := 49) hx hb hts i_X12 tyX12 tyX12_ok nmX12 hown hK hP hD hS 0 rfl rfl 1 (by decide) (hts _ wf_X12_63) (fun _ h9 => h9) rfl (tyX12_ok 1 (by decide)) rfl rfl (Nat.le_of_ble_eq_true rfl) dX12_live_2 (fun H locs hP hD hS => ?_)
  have hP := tc_eP (pw12_0_1 ca q S (0 : Int32)) hP
  have hD := tc_eD (pw12_0_1 ca q S (0 : Int32)) hD
  refine lv_aload_n hx hb dX12_live_5 rfl (lv_at hl 0 rfl) ?_
  refine lv_iconst (v := (0 : Int32)) hx hb dX12_live_6 (by decide) ?_
  refine va_put (D := (dC, dI)) (ci := 12) (v := .int ((0 : Int32))) (ty := .int) (C := RX12) (T := TX12) (N := 49) hx hb hts i_X12 tyX12 tyX12_ok nmX12 hown hK hP hD hS 0 rfl rfl 0 (by decide) (hts _ wf_X12_66) (fun _ h9 => h9) rfl (tyX12_ok 0 (by decide)) rfl rfl (Nat.le_of_ble_eq_true rfl) dX12_live_7 (fun H locs hP hD hS => ?_)
  have hP := tc_eP (pw12_0_0 ca q (si S 1 (0 : Int32)) (0 : Int32)) hP
  have hD := tc_eD (pw12_0_0 ca q (si S 1 (0 : Int32)) (0 : Int32)) hD
  refine lv_iload_n hx hb dX12_live_10 rfl (lv_at hl 1 rfl) ?_
  refine lv_i2l (v := a1.toInt64) hx hb dX12_live_11 rfl ?_
  refine lv_lconst (v := (0 : Int64)) hx hb dX12_live_12 (by decide) ?_
  refine lv_ldc2 (v := (9999 : Int64)) hx hb hown (hts _ wk_X12_564) dX12_live_13 ?_
  obtain ⟨z1, hg, hf⟩ := tc_bi hf
  refine tc_iS0 (As := [.long (a1.toInt64), .long ((0 : Int64)), .long ((9999 : Int64))]) (rest := []) X hP hD hS (mX12_isIn hg) okX12_isIn wl_X12_98 wt_X12_isIn ⟨rfl, rfl, Nat.le_of_ble_eq_true rfl, Nat.le_of_ble_eq_true rfl⟩ rfl hl.1 (Nat.le_of_ble_eq_true rfl) dX12_live_16 (fun H locs hP hD hS => ?_)
  refine lv_if_ne (tgt := 28) hx hb dX12_live_19 (by decide) (fun hc => ?_) (fun hc => ?_)
  · have hf := tc_neg hc hf
    refine lv_aload_n hx hb dX12_live_28 rfl (lv_at hl 0 rfl) ?_
    refine va_get (D := (dC, dI)) (ci := 12) (v := .ref (q 5)) (C := RX12) (T := TX12) (N := 49) hx hb hts i_X12 hown hK hP 0 rfl rfl 20 (by decide) (hts _ wf_X12_35) (fun _ h9 => h9) rfl dX12_live_29 ?_
    refine lv_bipush (v := (92 : Int32)) hx hb dX12_live_32 (by decide) ?_
    refine va_iald hx hb hK hP 5 1 rfl rfl (inb_vp (by decide)) dX12_live_34 ?_
    refine lv_if_ne (tgt := 45) hx hb dX12_live_35 (by decide) (fun hc => ?_) (fun hc => ?_)
    · have hf := tc_neg hc hf
      refine lv_aload_n hx hb dX12_live_45 rfl (lv_at hl 0 rfl) ?_
      refine lv_iload_n hx hb dX12_live_46 rfl (lv_at hl 1 rfl) ?_
      obtain ⟨z2, hg, hf⟩ := tc_bi hf
      refine tc_vVs (As := [.int (a1)]) (rest := []) (b := q 0) X hP hD hS (mX12_runsEvenings hg) okX12_runsEvenings wl_X12_566 wi_X12_runsEvenings ws_X12_X12_runsEvenings_X12_runsEvenings ⟨rfl, rfl, Nat.le_of_ble_eq_true rfl, Nat.le_of_ble_eq_true rfl⟩ 12 0 rfl rfl rfl hl.1 (Nat.le_of_ble_eq_true rfl) dX12_live_47 (fun H locs hP hD hS => ?_)
      refine lv_aload_n hx hb dX12_live_50 rfl (lv_at hl 0 rfl) ?_
      refine va_get (D := (dC, dI)) (ci := 12) (v := .ref (q 12)) (C := RX12) (T := TX12) (N := 49) hx hb hts i_X12 hown hK hP 0 rfl rfl 39 (by decide) (hts _ wf_X12_56) (fun _ h9 => h9) rfl dX12_live_51 ?_
      refine lv_iconst (v := (0 : Int32)) hx hb dX12_live_54 (by decide) ?_
      refine lv_aload_n hx hb dX12_live_55 rfl (lv_at hl 0 rfl) ?_
      refine va_get (D := (dC, dI)) (ci := 12) (v := .int (gi z2 44)) (C := RX12) (T := TX12) (N := 49) hx hb hts i_X12 hown hK hP 0 rfl rfl 44 (by decide) (hts _ wf_X12_546) (fun _ h9 => h9) rfl dX12_live_56 ?_
      refine va_iast hx hb hK hP hD hS 12 1 rfl rfl (inb_vp (by decide)) dX12_live_59 (fun H locs hP hD hS => ?_)
      have hP := tc_eP (aw12_0_12 ca q z2 (0 : Int32) (gi z2 44)) hP
      have hD := tc_eD (aw12_0_12 ca q z2 (0 : Int32) (gi z2 44)) hD
      refine lv_aload_n hx hb dX12_live_60 rfl (lv_at hl 0 rfl) ?_
      refine va_get (D := (dC, dI)) (ci := 12) (v := .ref (q 12)) (C := RX12) (T := TX12) (N := 49) hx hb hts i_X12 hown hK hP 0 rfl rfl 39 (by decide) (hts _ wf_X12_56) (fun _ h9 => h9) rfl dX12_live_61 ?_
      refine lv_iconst (v := (1 : Int32)) hx hb dX12_live_64 (by decide) ?_
      refine lv_aload_n hx hb dX12_live_65 rfl (lv_at hl 0 rfl) ?_
      refine va_get (D := (dC, dI)) (ci := 12) (v := .ref (q 5)) (C := RX12) (T := TX12) (N := 49) hx hb hts i_X12 hown hK hP 0 rfl rfl 20 (by decide) (hts _ wf_X12_35) (fun _ h9 => h9) rfl dX12_live_66 ?_
      refine lv_iconst (v := (5 : Int32)) hx hb dX12_live_69 (by decide) ?_
      refine va_iald hx hb hK hP 5 1 rfl rfl (inb_vp (by decide)) dX12_live_70 ?_
      refine lv_aload_n hx hb dX12_live_71 rfl (lv_at hl 0 rfl) ?_
      refine va_get (D := (dC, dI)) (ci := 12) (v := .int (gi (sa z2 12 (0 : Int32) (gi z2 44)) 45)) (C := RX12) (T := TX12) (N := 49) hx hb hts i_X12 hown hK hP 0 rfl rfl 45 (by decide) (hts _ wf_X12_561) (fun _ h9 => h9) rfl dX12_live_72 ?_
      refine lv_isub hx hb dX12_live_75 ?_
      refine va_iast hx hb hK hP hD hS 12 1 rfl rfl (inb_vp (by decide)) dX12_live_76 (fun H locs hP hD hS => ?_)
      have hP := tc_eP (aw12_0_12 ca q (sa z2 12 (0 : Int32) (gi z2 44)) (1 : Int32) ((ia (sa z2 12 (0 : Int32) (gi z2 44)) 5 (5 : Int32)) - (gi (sa z2 12 (0 : Int32) (gi z2 44)) 45))) hP
      have hD := tc_eD (aw12_0_12 ca q (sa z2 12 (0 : Int32) (gi z2 44)) (1 : Int32) ((ia (sa z2 12 (0 : Int32) (gi z2 44)) 5 (5 : Int32)) - (gi (sa z2 12 (0 : Int32) (gi z2 44)) 45))) hD
      refine lv_aload_n hx hb dX12_live_77 rfl (lv_at hl 0 rfl) ?_
      refine va_get (D := (dC, dI)) (ci := 12) (v := .ref (q 12)) (C := RX12) (T := TX12) (N := 49) hx hb hts i_X12 hown hK hP 0 rfl rfl 39 (by decide) (hts _ wf_X12_56) (fun _ h9 => h9) rfl dX12_live_78 ?_
      refine lv_iconst (v := (2 : Int32)) hx hb dX12_live_81 (by decide) ?_
      refine lv_aload_n hx hb dX12_live_82 rfl (lv_at hl 0 rfl) ?_
      refine va_get (D := (dC, dI)) (ci := 12) (v := .int (gi (sa (sa z2 12 (0 : Int32) (gi z2 44)) 12 (1 : Int32) ((ia (sa z2 12 (0 : Int32) (gi z2 44)) 5 (5 : Int32)) - (gi (sa z2 12 (0 : Int32) (gi z2 44)) 45))) 46)) (C := RX12) (T := TX12) (N := 49) hx hb hts i_X12 hown hK hP 0 rfl rfl 46 (by decide) (hts _ wf_X12_519) (fun _ h9 => h9) rfl dX12_live_83 ?_
      refine va_iast hx hb hK hP hD hS 12 1 rfl rfl (inb_vp (by decide)) dX12_live_86 (fun H locs hP hD hS => ?_)
      have hP := tc_eP (aw12_0_12 ca q (sa (sa z2 12 (0 : Int32) (gi z2 44)) 12 (1 : Int32) ((ia (sa z2 12 (0 : Int32) (gi z2 44)) 5 (5 : Int32)) - (gi (sa z2 12 (0 : Int32) (gi z2 44)) 45))) (2 : Int32) (gi (sa (sa z2 12 (0 : Int32) (gi z2 44)) 12 (1 : Int32) ((ia (sa z2 12 (0 : Int32) (gi z2 44)) 5 (5 : Int32)) - (gi (sa z2 12 (0 : Int32) (gi z2 44)) 45))) 46)) hP
      have hD := tc_eD (aw12_0_12 ca q (sa (sa z2 12 (0 : Int32) (gi z2 44)) 12 (1 : Int32) ((ia (sa z2 12 (0 : Int32) (gi z2 44)) 5 (5 : Int32)) - (gi (sa z2 12 (0 : Int32) (gi z2 44)) 45))) (2 : Int32) (gi (sa (sa z2 12 (0 : Int32) (gi z2 44)) 12 (1 : Int32) ((ia (sa z2 12 (0 : Int32) (gi z2 44)) 5 (5 : Int32)) - (gi (sa z2 12 (0 : Int32) (gi z2 44)) 45))) 46)) hD
      refine lv_aload_n hx hb dX12_live_87 rfl (lv_at hl 0 rfl) ?_
      refine va_get (D := (dC, dI)) (ci := 12) (v := .ref (q 12)) (C := RX12) (T := TX12) (N := 49) hx hb hts i_X12 hown hK hP 0 rfl rfl 39 (by decide) (hts _ wf_X12_56) (fun _ h9 => h9) rfl dX12_live_88 ?_
      refine lv_iconst (v := (3 : Int32)) hx hb dX12_live_91 (by decide) ?_
      refine lv_aload_n hx hb dX12_live_92 rfl (lv_at hl 0 rfl) ?_
      refine va_get (D := (dC, dI)) (ci := 12) (v := .int (gi (sa (sa (sa z2 12 (0 : Int32) (gi z2 44)) 12 (1 : Int32) ((ia (sa z2 12 (0 : Int32) (gi z2 44)) 5 (5 : Int32)) - (gi (sa z2 12 (0 : Int32) (gi z2 44)) 45))) 12 (2 : Int32) (gi (sa (sa z2 12 (0 : Int32) (gi z2 44)) 12 (1 : Int32) ((ia (sa z2 12 (0 : Int32) (gi z2 44)) 5 (5 : Int32)) - (gi (sa z2 12 (0 : Int32) (gi z2 44)) 45))) 46)) 47)) (C := RX12) (T := TX12) (N := 49) hx hb hts i_X12 hown hK hP 0 rfl rfl 47 (by decide) (hts _ wf_X12_522) (fun _ h9 => h9) rfl dX12_live_93 ?_
      refine va_iast hx hb hK hP hD hS 12 1 rfl rfl (inb_vp (by decide)) dX12_live_96 (fun H locs hP hD hS => ?_)
      have hP := tc_eP (aw12_0_12 ca q (sa (sa (sa z2 12 (0 : Int32) (gi z2 44)) 12 (1 : Int32) ((ia (sa z2 12 (0 : Int32) (gi z2 44)) 5 (5 : Int32)) - (gi (sa z2 12 (0 : Int32) (gi z2 44)) 45))) 12 (2 : Int32) (gi (sa (sa z2 12 (0 : Int32) (gi z2 44)) 12 (1 : Int32) ((ia (sa z2 12 (0 : Int32) (gi z2 44)) 5 (5 : Int32)) - (gi (sa z2 12 (0 : Int32) (gi z2 44)) 45))) 46)) (3 : Int32) (gi (sa (sa (sa z2 12 (0 : Int32) (gi z2 44)) 12 (1 : Int32) ((ia (sa z2 12 (0 : Int32) (gi z2 44)) 5 (5 : Int32)) - (gi (sa z2 12 (0 : Int32) (gi z2 44)) 45))) 12 (2 : Int32) (gi (sa (sa z2 12 (0 : Int32) (gi z2 44)) 12 (1 : Int32) ((ia (sa z2 12 (0 : Int32) (gi z2 44)) 5 (5 : Int32)) - (gi (sa z2 12 (0 : Int32) (gi z2 44)) 45))) 46)) 47)) hP
      have hD := tc_eD (aw12_0_12 ca q (sa (sa (sa z2 12 (0 : Int32) (gi z2 44)) 12 (1 : Int32) ((ia (sa z2 12 (0 : Int32) (gi z2 44)) 5 (5 : Int32)) - (gi (sa z2 12 (0 : Int32) (gi z2 44)) 45))) 12 (2 : Int32) (gi (sa (sa z2 12 (0 : Int32) (gi z2 44)) 12 (1 : Int32) ((ia (sa z2 12 (0 : Int32) (gi z2 44)) 5 (5 : Int32)) - (gi (sa z2 12 (0 : Int32) (gi z2 44)) 45))) 46)) (3 : Int32) (gi (sa (sa (sa z2 12 (0 : Int32) (gi z2 44)) 12 (1 : Int32) ((ia (sa z2 12 (0 : Int32) (gi z2 44)) 5 (5 : Int32)) - (gi (sa z2 12 (0 : Int32) (gi z2 44)) 45))) 12 (2 : Int32) (gi (sa (sa z2 12 (0 : Int32) (gi z2 44)) 12 (1 : Int32) ((ia (sa z2 12 (0 : Int32) (gi z2 44)) 5 (5 : Int32)) - (gi (sa z2 12 (0 : Int32) (gi z2 44)) 45))) 46)) 47)) hD
      refine lv_aload_n hx hb dX12_live_97 rfl (lv_at hl 0 rfl) ?_
      refine va_get (D := (dC, dI)) (ci := 12) (v := .ref (q 12)) (C := RX12) (T := TX12) (N := 49) hx hb hts i_X12 hown hK hP 0 rfl rfl 39 (by decide) (hts _ wf_X12_56) (fun _ h9 => h9) rfl dX12_live_98 ?_
      refine lv_iconst (v := (4 : Int32)) hx hb dX12_live_101 (by decide) ?_
      refine lv_aload_n hx hb dX12_live_102 rfl (lv_at hl 0 rfl) ?_
      refine va_get (D := (dC, dI)) (ci := 12) (v := .int (gi (sa (sa (sa (sa z2 12 (0 : Int32) (gi z2 44)) 12 (1 : Int32) ((ia (sa z2 12 (0 : Int32) (gi z2 44)) 5 (5 : Int32)) - (gi (sa z2 12 (0 : Int32) (gi z2 44)) 45))) 12 (2 : Int32) (gi (sa (sa z2 12 (0 : Int32) (gi z2 44)) 12 (1 : Int32) ((ia (sa z2 12 (0 : Int32) (gi z2 44)) 5 (5 : Int32)) - (gi (sa z2 12 (0 : Int32) (gi z2 44)) 45))) 46)) 12 (3 : Int32) (gi (sa (sa (sa z2 12 (0 : Int32) (gi z2 44)) 12 (1 : Int32) ((ia (sa z2 12 (0 : Int32) (gi z2 44)) 5 (5 : Int32)) - (gi (sa z2 12 (0 : Int32) (gi z2 44)) 45))) 12 (2 : Int32) (gi (sa (sa z2 12 (0 : Int32) (gi z2 44)) 12 (1 : Int32) ((ia (sa z2 12 (0 : Int32) (gi z2 44)) 5 (5 : Int32)) - (gi (sa z2 12 (0 : Int32) (gi z2 44)) 45))) 46)) 47)) 48)) (C := RX12) (T := TX12) (N := 49) hx hb hts i_X12 hown hK hP 0 rfl rfl 48 (by decide) (hts _ wf_X12_543) (fun _ h9 => h9) rfl dX12_live_103 ?_
      refine va_iast hx hb hK hP hD hS 12 1 rfl rfl (inb_vp (by decide)) dX12_live_106 (fun H locs hP hD hS => ?_)
      have hP := tc_eP (aw12_0_12 ca q (sa (sa (sa (sa z2 12 (0 : Int32) (gi z2 44)) 12 (1 : Int32) ((ia (sa z2 12 (0 : Int32) (gi z2 44)) 5 (5 : Int32)) - (gi (sa z2 12 (0 : Int32) (gi z2 44)) 45))) 12 (2 : Int32) (gi (sa (sa z2 12 (0 : Int32) (gi z2 44)) 12 (1 : Int32) ((ia (sa z2 12 (0 : Int32) (gi z2 44)) 5 (5 : Int32)) - (gi (sa z2 12 (0 : Int32) (gi z2 44)) 45))) 46)) 12 (3 : Int32) (gi (sa (sa (sa z2 12 (0 : Int32) (gi z2 44)) 12 (1 : Int32) ((ia (sa z2 12 (0 : Int32) (gi z2 44)) 5 (5 : Int32)) - (gi (sa z2 12 (0 : Int32) (gi z2 44)) 45))) 12 (2 : Int32) (gi (sa (sa z2 12 (0 : Int32) (gi z2 44)) 12 (1 : Int32) ((ia (sa z2 12 (0 : Int32) (gi z2 44)) 5 (5 : Int32)) - (gi (sa z2 12 (0 : Int32) (gi z2 44)) 45))) 46)) 47)) (4 : Int32) (gi (sa (sa (sa (sa z2 12 (0 : Int32) (gi z2 44)) 12 (1 : Int32) ((ia (sa z2 12 (0 : Int32) (gi z2 44)) 5 (5 : Int32)) - (gi (sa z2 12 (0 : Int32) (gi z2 44)) 45))) 12 (2 : Int32) (gi (sa (sa z2 12 (0 : Int32) (gi z2 44)) 12 (1 : Int32) ((ia (sa z2 12 (0 : Int32) (gi z2 44)) 5 (5 : Int32)) - (gi (sa z2 12 (0 : Int32) (gi z2 44)) 45))) 46)) 12 (3 : Int32) (gi (sa (sa (sa z2 12 (0 : Int32) (gi z2 44)) 12 (1 : Int32) ((ia (sa z2 12 (0 : Int32) (gi z2 44)) 5 (5 : Int32)) - (gi (sa z2 12 (0 : Int32) (gi z2 44)) 45))) 12 (2 : Int32) (gi (sa (sa z2 12 (0 : Int32) (gi z2 44)) 12 (1 : Int32) ((ia (sa z2 12 (0 : Int32) (gi z2 44)) 5 (5 : Int32)) - (gi (sa z2 12 (0 : Int32) (gi z2 44)) 45))) 46)) 47)) 48)) hP
      have hD := tc_eD (aw12_0_12 ca q (sa (sa (sa (sa z2 12 (0 : Int32) (gi z2 44)) 12 (1 : Int32) ((ia (sa z2 12 (0 : Int32) (gi z2 44)) 5 (5 : Int32)) - (gi (sa z2 12 (0 : Int32) (gi z2 44)) 45))) 12 (2 : Int32) (gi (sa (sa z2 12 (0 : Int32) (gi z2 44)) 12 (1 : Int32) ((ia (sa z2 12 (0 : Int32) (gi z2 44)) 5 (5 : Int32)) - (gi (sa z2 12 (0 : Int32) (gi z2 44)) 45))) 46)) 12 (3 : Int32) (gi (sa (sa (sa z2 12 (0 : Int32) (gi z2 44)) 12 (1 : Int32) ((ia (sa z2 12 (0 : Int32) (gi z2 44)) 5 (5 : Int32)) - (gi (sa z2 12 (0 : Int32) (gi z2 44)) 45))) 12 (2 : Int32) (gi (sa (sa z2 12 (0 : Int32) (gi z2 44)) 12 (1 : Int32) ((ia (sa z2 12 (0 : Int32) (gi z2 44)) 5 (5 : Int32)) - (gi (sa z2 12 (0 : Int32) (gi z2 44)) 45))) 46)) 47)) (4 : Int32) (gi (sa (sa (sa (sa z2 12 (0 : Int32) (gi z2 44)) 12 (1 : Int32) ((ia (sa z2 12 (0 : Int32) (gi z2 44)) 5 (5 : Int32)) - (gi (sa z2 12 (0 : Int32) (gi z2 44)) 45))) 12 (2 : Int32) (gi (sa (sa z2 12 (0 : Int32) (gi z2 44)) 12 (1 : Int32) ((ia (sa z2 12 (0 : Int32) (gi z2 44)) 5 (5 : Int32)) - (gi (sa z2 12 (0 : Int32) (gi z2 44)) 45))) 46)) 12 (3 : Int32) (gi (sa (sa (sa z2 12 (0 : Int32) (gi z2 44)) 12 (1 : Int32) ((ia (sa z2 12 (0 : Int32) (gi z2 44)) 5 (5 : Int32)) - (gi (sa z2 12 (0 : Int32) (gi z2 44)) 45))) 12 (2 : Int32) (gi (sa (sa z2 12 (0 : Int32) (gi z2 44)) 12 (1 : Int32) ((ia (sa z2 12 (0 : Int32) (gi z2 44)) 5 (5 : Int32)) - (gi (sa z2 12 (0 : Int32) (gi z2 44)) 45))) 46)) 47)) 48)) hD
      refine lv_aload_n hx hb dX12_live_107 rfl (lv_at hl 0 rfl) ?_
      refine lv_iconst (v := (1 : Int32)) hx hb dX12_live_108 (by decide) ?_
      refine va_put (D := (dC, dI)) (ci := 12) (v := .int ((1 : Int32))) (ty := .boolean) (C := RX12) (T := TX12) (N := 49) hx hb hts i_X12 tyX12 tyX12_ok nmX12 hown hK hP hD hS 0 rfl rfl 40 (by decide) (hts _ wf_X12_569) (fun _ h9 => h9) rfl (tyX12_ok 40 (by decide)) (tc_nb (by decide)) (tc_fb (by decide)) (Nat.le_of_ble_eq_true rfl) dX12_live_109 (fun H locs hP hD hS => ?_)
      have hP := tc_eP (pw12_0_40 ca q (sa (sa (sa (sa (sa z2 12 (0 : Int32) (gi z2 44)) 12 (1 : Int32) ((ia (sa z2 12 (0 : Int32) (gi z2 44)) 5 (5 : Int32)) - (gi (sa z2 12 (0 : Int32) (gi z2 44)) 45))) 12 (2 : Int32) (gi (sa (sa z2 12 (0 : Int32) (gi z2 44)) 12 (1 : Int32) ((ia (sa z2 12 (0 : Int32) (gi z2 44)) 5 (5 : Int32)) - (gi (sa z2 12 (0 : Int32) (gi z2 44)) 45))) 46)) 12 (3 : Int32) (gi (sa (sa (sa z2 12 (0 : Int32) (gi z2 44)) 12 (1 : Int32) ((ia (sa z2 12 (0 : Int32) (gi z2 44)) 5 (5 : Int32)) - (gi (sa z2 12 (0 : Int32) (gi z2 44)) 45))) 12 (2 : Int32) (gi (sa (sa z2 12 (0 : Int32) (gi z2 44)) 12 (1 : Int32) ((ia (sa z2 12 (0 : Int32) (gi z2 44)) 5 (5 : Int32)) - (gi (sa z2 12 (0 : Int32) (gi z2 44)) 45))) 46)) 47)) 12 (4 : Int32) (gi (sa (sa (sa (sa z2 12 (0 : Int32) (gi z2 44)) 12 (1 : Int32) ((ia (sa z2 12 (0 : Int32) (gi z2 44)) 5 (5 : Int32)) - (gi (sa z2 12 (0 : Int32) (gi z2 44)) 45))) 12 (2 : Int32) (gi (sa (sa z2 12 (0 : Int32) (gi z2 44)) 12 (1 : Int32) ((ia (sa z2 12 (0 : Int32) (gi z2 44)) 5 (5 : Int32)) - (gi (sa z2 12 (0 : Int32) (gi z2 44)) 45))) 46)) 12 (3 : Int32) (gi (sa (sa (sa z2 12 (0 : Int32) (gi z2 44)) 12 (1 : Int32) ((ia (sa z2 12 (0 : Int32) (gi z2 44)) 5 (5 : Int32)) - (gi (sa z2 12 (0 : Int32) (gi z2 44)) 45))) 12 (2 : Int32) (gi (sa (sa z2 12 (0 : Int32) (gi z2 44)) 12 (1 : Int32) ((ia (sa z2 12 (0 : Int32) (gi z2 44)) 5 (5 : Int32)) - (gi (sa z2 12 (0 : Int32) (gi z2 44)) 45))) 46)) 47)) 48)) (1 : Int32)) hP
      have hD := tc_eD (pw12_0_40 ca q (sa (sa (sa (sa (sa z2 12 (0 : Int32) (gi z2 44)) 12 (1 : Int32) ((ia (sa z2 12 (0 : Int32) (gi z2 44)) 5 (5 : Int32)) - (gi (sa z2 12 (0 : Int32) (gi z2 44)) 45))) 12 (2 : Int32) (gi (sa (sa z2 12 (0 : Int32) (gi z2 44)) 12 (1 : Int32) ((ia (sa z2 12 (0 : Int32) (gi z2 44)) 5 (5 : Int32)) - (gi (sa z2 12 (0 : Int32) (gi z2 44)) 45))) 46)) 12 (3 : Int32) (gi (sa (sa (sa z2 12 (0 : Int32) (gi z2 44)) 12 (1 : Int32) ((ia (sa z2 12 (0 : Int32) (gi z2 44)) 5 (5 : Int32)) - (gi (sa z2 12 (0 : Int32) (gi z2 44)) 45))) 12 (2 : Int32) (gi (sa (sa z2 12 (0 : Int32) (gi z2 44)) 12 (1 : Int32) ((ia (sa z2 12 (0 : Int32) (gi z2 44)) 5 (5 : Int32)) - (gi (sa z2 12 (0 : Int32) (gi z2 44)) 45))) 46)) 47)) 12 (4 : Int32) (gi (sa (sa (sa (sa z2 12 (0 : Int32) (gi z2 44)) 12 (1 : Int32) ((ia (sa z2 12 (0 : Int32) (gi z2 44)) 5 (5 : Int32)) - (gi (sa z2 12 (0 : Int32) (gi z2 44)) 45))) 12 (2 : Int32) (gi (sa (sa z2 12 (0 : Int32) (gi z2 44)) 12 (1 : Int32) ((ia (sa z2 12 (0 : Int32) (gi z2 44)) 5 (5 : Int32)) - (gi (sa z2 12 (0 : Int32) (gi z2 44)) 45))) 46)) 12 (3 : Int32) (gi (sa (sa (sa z2 12 (0 : Int32) (gi z2 44)) 12 (1 : Int32) ((ia (sa z2 12 (0 : Int32) (gi z2 44)) 5 (5 : Int32)) - (gi (sa z2 12 (0 : Int32) (gi z2 44)) 45))) 12 (2 : Int32) (gi (sa (sa z2 12 (0 : Int32) (gi z2 44)) 12 (1 : Int32) ((ia (sa z2 12 (0 : Int32) (gi z2 44)) 5 (5 : Int32)) - (gi (sa z2 12 (0 : Int32) (gi z2 44)) 45))) 46)) 47)) 48)) (1 : Int32)) hD
      refine lv_aload_n hx hb dX12_live_112 rfl (lv_at hl 0 rfl) ?_
      refine va_get (D := (dC, dI)) (ci := 12) (v := .int (gi (si (sa (sa (sa (sa (sa z2 12 (0 : Int32) (gi z2 44)) 12 (1 : Int32) ((ia (sa z2 12 (0 : Int32) (gi z2 44)) 5 (5 : Int32)) - (gi (sa z2 12 (0 : Int32) (gi z2 44)) 45))) 12 (2 : Int32) (gi (sa (sa z2 12 (0 : Int32) (gi z2 44)) 12 (1 : Int32) ((ia (sa z2 12 (0 : Int32) (gi z2 44)) 5 (5 : Int32)) - (gi (sa z2 12 (0 : Int32) (gi z2 44)) 45))) 46)) 12 (3 : Int32) (gi (sa (sa (sa z2 12 (0 : Int32) (gi z2 44)) 12 (1 : Int32) ((ia (sa z2 12 (0 : Int32) (gi z2 44)) 5 (5 : Int32)) - (gi (sa z2 12 (0 : Int32) (gi z2 44)) 45))) 12 (2 : Int32) (gi (sa (sa z2 12 (0 : Int32) (gi z2 44)) 12 (1 : Int32) ((ia (sa z2 12 (0 : Int32) (gi z2 44)) 5 (5 : Int32)) - (gi (sa z2 12 (0 : Int32) (gi z2 44)) 45))) 46)) 47)) 12 (4 : Int32) (gi (sa (sa (sa (sa z2 12 (0 : Int32) (gi z2 44)) 12 (1 : Int32) ((ia (sa z2 12 (0 : Int32) (gi z2 44)) 5 (5 : Int32)) - (gi (sa z2 12 (0 : Int32) (gi z2 44)) 45))) 12 (2 : Int32) (gi (sa (sa z2 12 (0 : Int32) (gi z2 44)) 12 (1 : Int32) ((ia (sa z2 12 (0 : Int32) (gi z2 44)) 5 (5 : Int32)) - (gi (sa z2 12 (0 : Int32) (gi z2 44)) 45))) 46)) 12 (3 : Int32) (gi (sa (sa (sa z2 12 (0 : Int32) (gi z2 44)) 12 (1 : Int32) ((ia (sa z2 12 (0 : Int32) (gi z2 44)) 5 (5 : Int32)) - (gi (sa z2 12 (0 : Int32) (gi z2 44)) 45))) 12 (2 : Int32) (gi (sa (sa z2 12 (0 : Int32) (gi z2 44)) 12 (1 : Int32) ((ia (sa z2 12 (0 : Int32) (gi z2 44)) 5 (5 : Int32)) - (gi (sa z2 12 (0 : Int32) (gi z2 44)) 45))) 46)) 47)) 48)) 40 (1 : Int32)) 43)) (C := RX12) (T := TX12) (N := 49) hx hb hts i_X12 hown hK hP 0 rfl rfl 43 (by decide) (hts _ wf_X12_537) (fun _ h9 => h9) rfl dX12_live_113 ?_
      obtain rfl := Option.some.inj hf
      exact tc_ri X hP hD hS rfl dX12_live_116 rfl rfl
    · have hf := tc_pos hc hf
      refine lv_aload_n hx hb dX12_live_38 rfl (lv_at hl 0 rfl) ?_
      refine lv_bipush (v := (8 : Int32)) hx hb dX12_live_39 (by decide) ?_
      obtain ⟨z3, hg, hf⟩ := tc_bi hf
      refine tc_iVs (As := [.int ((8 : Int32))]) (rest := []) (b := q 0) X hP hD hS (mX12_refuse hg) okX12_refuse wl_X12_333 wi_X12_refuse ws_X12_X12_refuse_X12_refuse ⟨rfl, rfl, Nat.le_of_ble_eq_true rfl, Nat.le_of_ble_eq_true rfl⟩ 12 0 rfl rfl rfl hl.1 (Nat.le_of_ble_eq_true rfl) dX12_live_41 (fun H locs hP hD hS => ?_)
      obtain rfl := Option.some.inj hf
      exact tc_ri X hP hD hS rfl dX12_live_44 rfl rfl
  · have hf := tc_pos hc hf
    refine lv_aload_n hx hb dX12_live_22 rfl (lv_at hl 0 rfl) ?_
    refine lv_iconst (v := (5 : Int32)) hx hb dX12_live_23 (by decide) ?_
    obtain ⟨z4, hg, hf⟩ := tc_bi hf
    refine tc_iVs (As := [.int ((5 : Int32))]) (rest := []) (b := q 0) X hP hD hS (mX12_refuse hg) okX12_refuse wl_X12_333 wi_X12_refuse ws_X12_X12_refuse_X12_refuse ⟨rfl, rfl, Nat.le_of_ble_eq_true rfl, Nat.le_of_ble_eq_true rfl⟩ 12 0 rfl rfl rfl hl.1 (Nat.le_of_ble_eq_true rfl) dX12_live_24 (fun H locs hP hD hS => ?_)
    obtain rfl := Option.some.inj hf
    exact tc_ri X hP hD hS rfl dX12_live_27 rfl rfl
def fX12_lived  (S : ms_T) (a1 : Int32) : Option (Int32 × ms_T) :=
  (fX12_isIn a1.toInt64 (0 : Int64) (4 : Int64)).bind fun z1 =>
  if z1 = 0 then
    (fX12_refuse (si (si S 1 (0 : Int32)) 0 (0 : Int32)) (5 : Int32)).bind fun z4 =>
    some (z4.1, z4.2)
  else
    if (gi (si (si S 1 (0 : Int32)) 0 (0 : Int32)) 40) = 0 then
      (fX12_refuse (si (si S 1 (0 : Int32)) 0 (0 : Int32)) (8 : Int32)).bind fun z2 =>
      some (z2.1, z2.2)
    else
      if inb a1 5 = true then
        some (ia (si (si S 1 (0 : Int32)) 0 (0 : Int32)) 12 a1, si (si S 1 (0 : Int32)) 0 (0 : Int32))
      else none
abbrev rmX12_lived : Room := { frames := 1, cells := 0, slots := 0, locals := 25 }
theorem okX12_lived : tc_ok yX12_lived cX12_lived 2 (some .int) 1 := ⟨wc_X12_lived, wn_X12, by decide, by decide, by decide +kernel⟩
set_option maxRecDepth 20000 in
theorem mX12_lived {q : Nat → Nat}  {S : ms_T} {a1 : Int32} {z : Int32 × ms_T}  (hf : fX12_lived S a1 = some z) : tc_MI l dC dI ca yX12_lived cX12_lived 2 (some .int) rmX12_lived [.ref (q 0), .int (a1)] (w12 ca q S) (w12 ca q z.2) (z.1) := by
  refine tc_metI (own := RX12) (by decide) rfl ?_ (Nat.le_of_ble_eq_true rfl)
  intro p e s m below meth c A X hP hD hS ls hl
  obtain ⟨hx, hb, hr, hml, hown, hts, hlk, hK, hA, hG⟩ := id X
  unfold fX12_lived at hf
  have hl : lv_has ls 2 [(0, .ref (q 0)), (1, .int (a1))] := hl
  refine lv_aload_n hx hb dX12_lived_0 rfl (lv_at hl 0 rfl) ?_
  refine lv_iconst (v := (0 : Int32)) hx hb dX12_lived_1 (by decide) ?_
  refine va_put (D := (dC, dI)) (ci := 12) (v := .int ((0 : Int32))) (ty := .int) (C := RX12) (T := TX12) (N := 49) hx hb hts i_X12 tyX12 tyX12_ok nmX12 hown hK hP hD hS 0 rfl rfl 1 (by decide) (hts _ wf_X12_63) (fun _ h9 => h9) rfl (tyX12_ok 1 (by decide)) rfl rfl (Nat.le_of_ble_eq_true rfl) dX12_lived_2 (fun H locs hP hD hS => ?_)
  have hP := tc_eP (pw12_0_1 ca q S (0 : Int32)) hP
  have hD := tc_eD (pw12_0_1 ca q S (0 : Int32)) hD
  refine lv_aload_n hx hb dX12_lived_5 rfl (lv_at hl 0 rfl) ?_
  refine lv_iconst (v := (0 : Int32)) hx hb dX12_lived_6 (by decide) ?_
  refine va_put (D := (dC, dI)) (ci := 12) (v := .int ((0 : Int32))) (ty := .int) (C := RX12) (T := TX12) (N := 49) hx hb hts i_X12 tyX12 tyX12_ok nmX12 hown hK hP hD hS 0 rfl rfl 0 (by decide) (hts _ wf_X12_66) (fun _ h9 => h9) rfl (tyX12_ok 0 (by decide)) rfl rfl (Nat.le_of_ble_eq_true rfl) dX12_lived_7 (fun H locs hP hD hS => ?_)
  have hP := tc_eP (pw12_0_0 ca q (si S 1 (0 : Int32)) (0 : Int32)) hP
  have hD := tc_eD (pw12_0_0 ca q (si S 1 (0 : Int32)) (0 : Int32)) hD
  refine lv_iload_n hx hb dX12_lived_10 rfl (lv_at hl 1 rfl) ?_
  refine lv_i2l (v := a1.toInt64) hx hb dX12_lived_11 rfl ?_
  refine lv_lconst (v := (0 : Int64)) hx hb dX12_lived_12 (by decide) ?_
  refine lv_ldc2 (v := (4 : Int64)) hx hb hown (hts _ wk_X12_365) dX12_lived_13 ?_
  obtain ⟨z1, hg, hf⟩ := tc_bi hf
  refine tc_iS0 (As := [.long (a1.toInt64), .long ((0 : Int64)), .long ((4 : Int64))]) (rest := []) X hP hD hS (mX12_isIn hg) okX12_isIn wl_X12_98 wt_X12_isIn ⟨rfl, rfl, Nat.le_of_ble_eq_true rfl, Nat.le_of_ble_eq_true rfl⟩ rfl hl.1 (Nat.le_of_ble_eq_true rfl) dX12_lived_16 (fun H locs hP hD hS => ?_)
  refine lv_if_ne (tgt := 28) hx hb dX12_lived_19 (by decide) (fun hc => ?_) (fun hc => ?_)
  · have hf := tc_neg hc hf
    refine lv_aload_n hx hb dX12_lived_28 rfl (lv_at hl 0 rfl) ?_
    refine va_get (D := (dC, dI)) (ci := 12) (v := .int (gi (si (si S 1 (0 : Int32)) 0 (0 : Int32)) 40)) (C := RX12) (T := TX12) (N := 49) hx hb hts i_X12 hown hK hP 0 rfl rfl 40 (by decide) (hts _ wf_X12_569) (fun _ h9 => h9) rfl dX12_lived_29 ?_
    refine lv_if_eq (tgt := 44) hx hb dX12_lived_32 (by decide) (fun hc => ?_) (fun hc => ?_)
    · have hf := tc_pos hc hf
      refine lv_aload_n hx hb dX12_lived_44 rfl (lv_at hl 0 rfl) ?_
      refine lv_bipush (v := (8 : Int32)) hx hb dX12_lived_45 (by decide) ?_
      obtain ⟨z2, hg, hf⟩ := tc_bi hf
      refine tc_iVs (As := [.int ((8 : Int32))]) (rest := []) (b := q 0) X hP hD hS (mX12_refuse hg) okX12_refuse wl_X12_333 wi_X12_refuse ws_X12_X12_refuse_X12_refuse ⟨rfl, rfl, Nat.le_of_ble_eq_true rfl, Nat.le_of_ble_eq_true rfl⟩ 12 0 rfl rfl rfl hl.1 (Nat.le_of_ble_eq_true rfl) dX12_lived_47 (fun H locs hP hD hS => ?_)
      obtain rfl := Option.some.inj hf
      exact tc_ri X hP hD hS rfl dX12_lived_50 rfl rfl
    · have hf := tc_neg hc hf
      refine lv_aload_n hx hb dX12_lived_35 rfl (lv_at hl 0 rfl) ?_
      refine va_get (D := (dC, dI)) (ci := 12) (v := .ref (q 12)) (C := RX12) (T := TX12) (N := 49) hx hb hts i_X12 hown hK hP 0 rfl rfl 39 (by decide) (hts _ wf_X12_56) (fun _ h9 => h9) rfl dX12_lived_36 ?_
      refine lv_iload_n hx hb dX12_lived_39 rfl (lv_at hl 1 rfl) ?_
      obtain ⟨hi3, hf⟩ := tc_in hf
      refine va_iald hx hb hK hP 12 1 rfl rfl hi3 dX12_lived_40 ?_
      refine lv_goto (tgt := 50) hx hb dX12_lived_41 (by decide) ?_
      obtain rfl := Option.some.inj hf
      exact tc_ri X hP hD hS rfl dX12_lived_50 rfl rfl
  · have hf := tc_pos hc hf
    refine lv_aload_n hx hb dX12_lived_22 rfl (lv_at hl 0 rfl) ?_
    refine lv_iconst (v := (5 : Int32)) hx hb dX12_lived_23 (by decide) ?_
    obtain ⟨z4, hg, hf⟩ := tc_bi hf
    refine tc_iVs (As := [.int ((5 : Int32))]) (rest := []) (b := q 0) X hP hD hS (mX12_refuse hg) okX12_refuse wl_X12_333 wi_X12_refuse ws_X12_X12_refuse_X12_refuse ⟨rfl, rfl, Nat.le_of_ble_eq_true rfl, Nat.le_of_ble_eq_true rfl⟩ 12 0 rfl rfl rfl hl.1 (Nat.le_of_ble_eq_true rfl) dX12_lived_24 (fun H locs hP hD hS => ?_)
    obtain rfl := Option.some.inj hf
    exact tc_ri X hP hD hS rfl dX12_lived_27 rfl rfl
def fX12_mean_37    (S : ms_T) : Option (Int32 × ms_T) :=
  (fX12_no S (5 : Int32)).bind fun z2 =>
  if z2.1 &&& 1 = z2.1 then
    some (z2.1, z2.2)
  else none
def fX12_mean_142   (k91 : ms_T → Int32 → Int32 → Int64 → Int32 → Option (Int32 × ms_T)) : Nat → ms_T → Int32 → Int32 → Int64 → Int32 → Int32 → Option (Int32 × ms_T)
  | 0, _, _, _, _, _, _ => none
  | n + 1, S, v1, v2, v3, v5, v6 =>
    if (92 : Int32) ≤ v6 then
      k91 S v1 v2 v3 (v5 + (1 : Int32))
    else
      if inb v6 92 = true then
        if inb v6 1820 = true then
          fX12_mean_142 k91 n (sa S 5 v6 (ia S 6 v6)) v1 v2 v3 v5 (v6 + (1 : Int32))
        else none
      else none
def fX12_mean_108   (k91 : ms_T → Int32 → Int32 → Int64 → Int32 → Option (Int32 × ms_T)) : Nat → ms_T → Int32 → Int32 → Int64 → Int32 → Int32 → Option (Int32 × ms_T)
  | 0, _, _, _, _, _, _ => none
  | n + 1, S, v1, v2, v3, v5, v6 =>
    if (ia S 5 (2 : Int32)) ≤ v6 then
      fX12_mean_142 k91 FU S v1 v2 v3 v5 (0 : Int32)
    else
      if inb ((54 : Int32) + v6) 1820 = true then
        fX12_mean_108 k91 n S v1 v2 (v3 + ((ia S 5 ((54 : Int32) + v6)).toInt64)) v5 (v6 + (1 : Int32))
      else none
def fX12_mean_91    : Nat → ms_T → Int32 → Int32 → Int64 → Int32 → Option (Int32 × ms_T)
  | 0, _, _, _, _, _ => none
  | n + 1, S, v1, v2, v3, v5 =>
    if v2 ≤ v5 then
      (fX12_fraction S v3 v2.toInt64).bind fun z4 =>
      if z4.1 &&& 1 = z4.1 then
        some (z4.1, z4.2)
      else none
    else
      (fX12_runsEvenings S (v1 + v5)).bind fun z5 =>
      fX12_mean_108 (fX12_mean_91 n) FU z5 v1 v2 v3 v5 (0 : Int32)
def fX12_mean_62    : Nat → ms_T → Int32 → Int32 → Int32 → Option (Int32 × ms_T)
  | 0, _, _, _, _ => none
  | n + 1, S, v1, v2, v3 =>
    if (92 : Int32) ≤ v3 then
      fX12_mean_91 FU S v1 v2 (0 : Int64) (0 : Int32)
    else
      if inb v3 1820 = true then
        if inb v3 92 = true then
          fX12_mean_62 n (sa S 6 v3 (ia S 5 v3)) v1 v2 (v3 + (1 : Int32))
        else none
      else none
def fX12_mean  (S : ms_T) (a1 : Int32) (a2 : Int32) : Option (Int32 × ms_T) :=
  (fX12_isIn a2.toInt64 (1 : Int64) (20 : Int64)).bind fun z1 =>
  if z1 = 0 then
    fX12_mean_37 (si (si S 1 (0 : Int32)) 0 (0 : Int32))
  else
    (fX12_isIn a1.toInt64 (0 : Int64) (((10000 : Int32) - a2).toInt64)).bind fun z3 =>
    if z3 = 0 then
      fX12_mean_37 (si (si S 1 (0 : Int32)) 0 (0 : Int32))
    else
      if (ia (si (si S 1 (0 : Int32)) 0 (0 : Int32)) 5 (92 : Int32)) = 0 then
        (fX12_no (si (si S 1 (0 : Int32)) 0 (0 : Int32)) (8 : Int32)).bind fun z11 =>
        if z11.1 &&& 1 = z11.1 then
          some (z11.1, z11.2)
        else none
      else
        fX12_mean_62 FU (si (si S 1 (0 : Int32)) 0 (0 : Int32)) a1 a2 (0 : Int32)
abbrev rmX12_mean : Room := { frames := 22, cells := 0, slots := 0, locals := 508 }
theorem okX12_mean : tc_ok yX12_mean cX12_mean 7 (some .boolean) 2 := ⟨wc_X12_mean, wn_X12, by decide, by decide, by decide +kernel⟩
set_option maxRecDepth 20000 in
theorem tX12_mean_37 {q : Nat → Nat}  (X : tc_X dC dI ca A RX12 cX12_mean 7 (some .boolean) p s m args meth c) (z : Int32 × ms_T)     : ∀ (S : ms_T), fX12_mean_37 S = some z → ∀ (H : Heap) (locs : List Loc) (ls : Array Slot), va_P (dC, dI) classes (w12 ca q S) H → va_D A (w12 ca q S) → va_S A s.heap H locs → lv_has ls 7 [(0, .ref (q 0))] → W p l e rmX12_mean s m args below meth c H locs 0 0 (MQ below (tc_QI dC dI ca A (w12 ca q z.2) (z.1)) args s 0 0 A) (F0 m 37 ls []) := by
  obtain ⟨hx, hb, hr, hml, hown, hts, hlk, hK, hA, hG⟩ := id X
  intro S hf H locs ls hP hD hS hl
  unfold fX12_mean_37 at hf
  refine lv_aload_n hx hb dX12_mean_37 rfl (lv_at hl 0 rfl) ?_
  refine lv_iconst (v := (5 : Int32)) hx hb dX12_mean_38 (by decide) ?_
  obtain ⟨z2, hg, hf⟩ := tc_bi hf
  refine tc_iVs (As := [.int ((5 : Int32))]) (rest := []) (b := q 0) X hP hD hS (mX12_no hg) okX12_no wl_X12_78 wi_X12_no ws_X12_X12_no_X12_no ⟨rfl, rfl, Nat.le_of_ble_eq_true rfl, Nat.le_of_ble_eq_true rfl⟩ 12 0 rfl rfl rfl hl.1 (Nat.le_of_ble_eq_true rfl) dX12_mean_39 (fun H locs hP hD hS => ?_)
  obtain ⟨hz1, hf⟩ := tc_ck hf
  obtain rfl := Option.some.inj hf
  exact tc_rz X hP hD hS rfl dX12_mean_42 hz1 rfl rfl
set_option maxRecDepth 20000 in
theorem tX12_mean_142 {q : Nat → Nat}  (X : tc_X dC dI ca A RX12 cX12_mean 7 (some .boolean) p s m args meth c) (z : Int32 × ms_T)   (k91 : ms_T → Int32 → Int32 → Int64 → Int32 → Option (Int32 × ms_T)) (hk91 : ∀ (S : ms_T) (v1 : Int32) (v2 : Int32) (v3 : Int64) (v5 : Int32), k91 S v1 v2 v3 v5 = some z → ∀ (H : Heap) (locs : List Loc) (ls : Array Slot), va_P (dC, dI) classes (w12 ca q S) H → va_D A (w12 ca q S) → va_S A s.heap H locs → lv_has ls 7 [(0, .ref (q 0)), (1, .int (v1)), (2, .int (v2)), (3, .long (v3)), (5, .int (v5))] → W p l e rmX12_mean s m args below meth c H locs 0 0 (MQ below (tc_QI dC dI ca A (w12 ca q z.2) (z.1)) args s 0 0 A) (F0 m 91 ls [])) : ∀ n : Nat, ∀ (S : ms_T) (v1 : Int32) (v2 : Int32) (v3 : Int64) (v5 : Int32) (v6 : Int32), fX12_mean_142 k91 n S v1 v2 v3 v5 v6 = some z → ∀ (H : Heap) (locs : List Loc) (ls : Array Slot), va_P (dC, dI) classes (w12 ca q S) H → va_D A (w12 ca q S) → va_S A s.heap H locs → lv_has ls 7 [(0, .ref (q 0)), (1, .int (v1)), (2, .int (v2)), (3, .long (v3)), (5, .int (v5)), (6, .int (v6))] → W p l e rmX12_mean s m args below meth c H locs 0 0 (MQ below (tc_QI dC dI ca A (w12 ca q z.2) (z.1)) args s 0 0 A) (F0 m 142 ls []) := by
  obtain ⟨hx, hb, hr, hml, hown, hts, hlk, hK, hA, hG⟩ := id X
  intro n
  induction n with
  | zero => intro S v1 v2 v3 v5 v6 hf; exact absurd (show none = some z from hf) (fun h => by cases h)
  | succ n ih =>
    intro S v1 v2 v3 v5 v6 hf H locs ls hP hD hS hl
    rw [fX12_mean_142] at hf
    refine lv_iload hx hb dX12_mean_142 (lv_at hl 5 rfl) ?_
    refine lv_bipush (v := (92 : Int32)) hx hb dX12_mean_144 (by decide) ?_
    refine lv_icmp_ge (tgt := 169) hx hb dX12_mean_146 (by decide) (fun hc => ?_) (fun hc => ?_)
    · have hf := tc_pos hc hf
      refine lv_iinc (v := v5 + (1 : Int32)) (lv' := [(5, .int (v5 + (1 : Int32))), (0, .ref (q 0)), (1, .int (v1)), (2, .int (v2)), (3, .long (v3)), (6, .int (v6))]) hx hb dX12_mean_169 hl (k := 4) rfl rfl (by decide) rfl (fun ls hl => ?_)
      refine lv_goto (tgt := 91) hx hb dX12_mean_172 (by decide) ?_
      exact hk91 S v1 v2 v3 (v5 + (1 : Int32)) hf _ _ _ hP hD hS (lv_sub hl [1, 2, 3, 4, 0] rfl)
    · have hf := tc_neg hc hf
      refine lv_aload_n hx hb dX12_mean_149 rfl (lv_at hl 0 rfl) ?_
      refine va_get (D := (dC, dI)) (ci := 12) (v := .ref (q 5)) (C := RX12) (T := TX12) (N := 49) hx hb hts i_X12 hown hK hP 0 rfl rfl 20 (by decide) (hts _ wf_X12_35) (fun _ h9 => h9) rfl dX12_mean_150 ?_
      refine lv_iload hx hb dX12_mean_153 (lv_at hl 5 rfl) ?_
      refine lv_aload_n hx hb dX12_mean_155 rfl (lv_at hl 0 rfl) ?_
      refine va_get (D := (dC, dI)) (ci := 12) (v := .ref (q 6)) (C := RX12) (T := TX12) (N := 49) hx hb hts i_X12 hown hK hP 0 rfl rfl 21 (by decide) (hts _ wf_X12_38) (fun _ h9 => h9) rfl dX12_mean_156 ?_
      refine lv_iload hx hb dX12_mean_159 (lv_at hl 5 rfl) ?_
      obtain ⟨hi6, hf⟩ := tc_in hf
      refine va_iald hx hb hK hP 6 1 rfl rfl hi6 dX12_mean_161 ?_
      obtain ⟨hi7, hf⟩ := tc_in hf
      refine va_iast hx hb hK hP hD hS 5 1 rfl rfl hi7 dX12_mean_162 (fun H locs hP hD hS => ?_)
      have hP := tc_eP (aw12_0_5 ca q S v6 (ia S 6 v6)) hP
      have hD := tc_eD (aw12_0_5 ca q S v6 (ia S 6 v6)) hD
      refine lv_iinc (v := v6 + (1 : Int32)) (lv' := [(6, .int (v6 + (1 : Int32))), (0, .ref (q 0)), (1, .int (v1)), (2, .int (v2)), (3, .long (v3)), (5, .int (v5))]) hx hb dX12_mean_163 hl (k := 5) rfl rfl (by decide) rfl (fun ls hl => ?_)
      refine lv_goto (tgt := 142) hx hb dX12_mean_166 (by decide) ?_
      exact ih (sa S 5 v6 (ia S 6 v6)) v1 v2 v3 v5 (v6 + (1 : Int32)) hf _ _ _ hP hD hS (lv_sub hl [1, 2, 3, 4, 5, 0] rfl)
set_option maxRecDepth 20000 in
theorem tX12_mean_108 {q : Nat → Nat}  (X : tc_X dC dI ca A RX12 cX12_mean 7 (some .boolean) p s m args meth c) (z : Int32 × ms_T)   (k91 : ms_T → Int32 → Int32 → Int64 → Int32 → Option (Int32 × ms_T)) (hk91 : ∀ (S : ms_T) (v1 : Int32) (v2 : Int32) (v3 : Int64) (v5 : Int32), k91 S v1 v2 v3 v5 = some z → ∀ (H : Heap) (locs : List Loc) (ls : Array Slot), va_P (dC, dI) classes (w12 ca q S) H → va_D A (w12 ca q S) → va_S A s.heap H locs → lv_has ls 7 [(0, .ref (q 0)), (1, .int (v1)), (2, .int (v2)), (3, .long (v3)), (5, .int (v5))] → W p l e rmX12_mean s m args below meth c H locs 0 0 (MQ below (tc_QI dC dI ca A (w12 ca q z.2) (z.1)) args s 0 0 A) (F0 m 91 ls [])) : ∀ n : Nat, ∀ (S : ms_T) (v1 : Int32) (v2 : Int32) (v3 : Int64) (v5 : Int32) (v6 : Int32), fX12_mean_108 k91 n S v1 v2 v3 v5 v6 = some z → ∀ (H : Heap) (locs : List Loc) (ls : Array Slot), va_P (dC, dI) classes (w12 ca q S) H → va_D A (w12 ca q S) → va_S A s.heap H locs → lv_has ls 7 [(0, .ref (q 0)), (1, .int (v1)), (2, .int (v2)), (3, .long (v3)), (5, .int (v5)), (6, .int (v6))] → W p l e rmX12_mean s m args below meth c H locs 0 0 (MQ below (tc_QI dC dI ca A (w12 ca q z.2) (z.1)) args s 0 0 A) (F0 m 108 ls []) := by
  obtain ⟨hx, hb, hr, hml, hown, hts, hlk, hK, hA, hG⟩ := id X
  intro n
  induction n with
  | zero => intro S v1 v2 v3 v5 v6 hf; exact absurd (show none = some z from hf) (fun h => by cases h)
  | succ n ih =>
    intro S v1 v2 v3 v5 v6 hf H locs ls hP hD hS hl
    rw [fX12_mean_108] at hf
    refine lv_iload hx hb dX12_mean_108 (lv_at hl 5 rfl) ?_
    refine lv_aload_n hx hb dX12_mean_110 rfl (lv_at hl 0 rfl) ?_
    refine va_get (D := (dC, dI)) (ci := 12) (v := .ref (q 5)) (C := RX12) (T := TX12) (N := 49) hx hb hts i_X12 hown hK hP 0 rfl rfl 20 (by decide) (hts _ wf_X12_35) (fun _ h9 => h9) rfl dX12_mean_111 ?_
    refine lv_iconst (v := (2 : Int32)) hx hb dX12_mean_114 (by decide) ?_
    refine va_iald hx hb hK hP 5 1 rfl rfl (inb_vp (by decide)) dX12_mean_115 ?_
    refine lv_icmp_ge (tgt := 139) hx hb dX12_mean_116 (by decide) (fun hc => ?_) (fun hc => ?_)
    · have hf := tc_pos hc hf
      refine lv_iconst (v := (0 : Int32)) hx hb dX12_mean_139 (by decide) ?_
      refine lv_istore (lv' := [(6, .int ((0 : Int32))), (0, .ref (q 0)), (1, .int (v1)), (2, .int (v2)), (3, .long (v3)), (5, .int (v5))]) hx hb dX12_mean_140 hl (by decide) rfl (fun ls hl => ?_)
      exact tX12_mean_142 X z k91 hk91 FU S v1 v2 v3 v5 (0 : Int32) hf _ _ _ hP hD hS (lv_sub hl [1, 2, 3, 4, 5, 0] rfl)
    · have hf := tc_neg hc hf
      refine lv_lload_n hx hb dX12_mean_119 rfl (lv_at hl 3 rfl) ?_
      refine lv_aload_n hx hb dX12_mean_120 rfl (lv_at hl 0 rfl) ?_
      refine va_get (D := (dC, dI)) (ci := 12) (v := .ref (q 5)) (C := RX12) (T := TX12) (N := 49) hx hb hts i_X12 hown hK hP 0 rfl rfl 20 (by decide) (hts _ wf_X12_35) (fun _ h9 => h9) rfl dX12_mean_121 ?_
      refine lv_bipush (v := (54 : Int32)) hx hb dX12_mean_124 (by decide) ?_
      refine lv_iload hx hb dX12_mean_126 (lv_at hl 5 rfl) ?_
      refine lv_iadd hx hb dX12_mean_128 ?_
      obtain ⟨hi8, hf⟩ := tc_in hf
      refine va_iald hx hb hK hP 5 1 rfl rfl hi8 dX12_mean_129 ?_
      refine lv_i2l (v := (ia S 5 ((54 : Int32) + v6)).toInt64) hx hb dX12_mean_130 rfl ?_
      refine lv_ladd hx hb dX12_mean_131 ?_
      refine lv_lstore_n (lv' := [(3, .long (v3 + ((ia S 5 ((54 : Int32) + v6)).toInt64))), (0, .ref (q 0)), (1, .int (v1)), (2, .int (v2)), (5, .int (v5)), (6, .int (v6))]) hx hb dX12_mean_132 rfl hl (by decide) rfl (fun ls hl => ?_)
      refine lv_iinc (v := v6 + (1 : Int32)) (lv' := [(6, .int (v6 + (1 : Int32))), (3, .long (v3 + ((ia S 5 ((54 : Int32) + v6)).toInt64))), (0, .ref (q 0)), (1, .int (v1)), (2, .int (v2)), (5, .int (v5))]) hx hb dX12_mean_133 hl (k := 5) rfl rfl (by decide) rfl (fun ls hl => ?_)
      refine lv_goto (tgt := 108) hx hb dX12_mean_136 (by decide) ?_
      exact ih S v1 v2 (v3 + ((ia S 5 ((54 : Int32) + v6)).toInt64)) v5 (v6 + (1 : Int32)) hf _ _ _ hP hD hS (lv_sub hl [2, 3, 4, 1, 5, 0] rfl)
set_option maxRecDepth 20000 in
theorem tX12_mean_91 {q : Nat → Nat}  (X : tc_X dC dI ca A RX12 cX12_mean 7 (some .boolean) p s m args meth c) (z : Int32 × ms_T)     : ∀ n : Nat, ∀ (S : ms_T) (v1 : Int32) (v2 : Int32) (v3 : Int64) (v5 : Int32), fX12_mean_91 n S v1 v2 v3 v5 = some z → ∀ (H : Heap) (locs : List Loc) (ls : Array Slot), va_P (dC, dI) classes (w12 ca q S) H → va_D A (w12 ca q S) → va_S A s.heap H locs → lv_has ls 7 [(0, .ref (q 0)), (1, .int (v1)), (2, .int (v2)), (3, .long (v3)), (5, .int (v5))] → W p l e rmX12_mean s m args below meth c H locs 0 0 (MQ below (tc_QI dC dI ca A (w12 ca q z.2) (z.1)) args s 0 0 A) (F0 m 91 ls []) := by
  obtain ⟨hx, hb, hr, hml, hown, hts, hlk, hK, hA, hG⟩ := id X
  intro n
  induction n with
  | zero => intro S v1 v2 v3 v5 hf; exact absurd (show none = some z from hf) (fun h => by cases h)
  | succ n ih =>
    intro S v1 v2 v3 v5 hf H locs ls hP hD hS hl
    rw [fX12_mean_91] at hf
    refine lv_iload hx hb dX12_mean_91 (lv_at hl 4 rfl) ?_
    refine lv_iload_n hx hb dX12_mean_93 rfl (lv_at hl 2 rfl) ?_
    refine lv_icmp_ge (tgt := 175) hx hb dX12_mean_94 (by decide) (fun hc => ?_) (fun hc => ?_)
    · have hf := tc_pos hc hf
      refine lv_aload_n hx hb dX12_mean_175 rfl (lv_at hl 0 rfl) ?_
      refine lv_lload_n hx hb dX12_mean_176 rfl (lv_at hl 3 rfl) ?_
      refine lv_iload_n hx hb dX12_mean_177 rfl (lv_at hl 2 rfl) ?_
      refine lv_i2l (v := v2.toInt64) hx hb dX12_mean_178 rfl ?_
      obtain ⟨z4, hg, hf⟩ := tc_bi hf
      refine tc_iVs (As := [.long (v3), .long (v2.toInt64)]) (rest := []) (b := q 0) X hP hD hS (mX12_fraction hg) okX12_fraction wl_X12_429 wi_X12_fraction ws_X12_X12_fraction_X12_fraction ⟨rfl, rfl, Nat.le_of_ble_eq_true rfl, Nat.le_of_ble_eq_true rfl⟩ 12 0 rfl rfl rfl hl.1 (Nat.le_of_ble_eq_true rfl) dX12_mean_179 (fun H locs hP hD hS => ?_)
      obtain ⟨hz1, hf⟩ := tc_ck hf
      obtain rfl := Option.some.inj hf
      exact tc_rz X hP hD hS rfl dX12_mean_182 hz1 rfl rfl
    · have hf := tc_neg hc hf
      refine lv_aload_n hx hb dX12_mean_97 rfl (lv_at hl 0 rfl) ?_
      refine lv_iload_n hx hb dX12_mean_98 rfl (lv_at hl 1 rfl) ?_
      refine lv_iload hx hb dX12_mean_99 (lv_at hl 4 rfl) ?_
      refine lv_iadd hx hb dX12_mean_101 ?_
      obtain ⟨z5, hg, hf⟩ := tc_bi hf
      refine tc_vVs (As := [.int (v1 + v5)]) (rest := []) (b := q 0) X hP hD hS (mX12_runsEvenings hg) okX12_runsEvenings wl_X12_566 wi_X12_runsEvenings ws_X12_X12_runsEvenings_X12_runsEvenings ⟨rfl, rfl, Nat.le_of_ble_eq_true rfl, Nat.le_of_ble_eq_true rfl⟩ 12 0 rfl rfl rfl hl.1 (Nat.le_of_ble_eq_true rfl) dX12_mean_102 (fun H locs hP hD hS => ?_)
      refine lv_iconst (v := (0 : Int32)) hx hb dX12_mean_105 (by decide) ?_
      refine lv_istore (lv' := [(6, .int ((0 : Int32))), (0, .ref (q 0)), (1, .int (v1)), (2, .int (v2)), (3, .long (v3)), (5, .int (v5))]) hx hb dX12_mean_106 hl (by decide) rfl (fun ls hl => ?_)
      exact tX12_mean_108 X z (fX12_mean_91 n) ih FU z5 v1 v2 v3 v5 (0 : Int32) hf _ _ _ hP hD hS (lv_sub hl [1, 2, 3, 4, 5, 0] rfl)
set_option maxRecDepth 20000 in
theorem tX12_mean_62 {q : Nat → Nat}  (X : tc_X dC dI ca A RX12 cX12_mean 7 (some .boolean) p s m args meth c) (z : Int32 × ms_T)     : ∀ n : Nat, ∀ (S : ms_T) (v1 : Int32) (v2 : Int32) (v3 : Int32), fX12_mean_62 n S v1 v2 v3 = some z → ∀ (H : Heap) (locs : List Loc) (ls : Array Slot), va_P (dC, dI) classes (w12 ca q S) H → va_D A (w12 ca q S) → va_S A s.heap H locs → lv_has ls 7 [(0, .ref (q 0)), (1, .int (v1)), (2, .int (v2)), (3, .int (v3))] → W p l e rmX12_mean s m args below meth c H locs 0 0 (MQ below (tc_QI dC dI ca A (w12 ca q z.2) (z.1)) args s 0 0 A) (F0 m 62 ls []) := by
  obtain ⟨hx, hb, hr, hml, hown, hts, hlk, hK, hA, hG⟩ := id X
  intro n
  induction n with
  | zero => intro S v1 v2 v3 hf; exact absurd (show none = some z from hf) (fun h => by cases h)
  | succ n ih =>
    intro S v1 v2 v3 hf H locs ls hP hD hS hl
    rw [fX12_mean_62] at hf
    refine lv_iload_n hx hb dX12_mean_62 rfl (lv_at hl 3 rfl) ?_
    refine lv_bipush (v := (92 : Int32)) hx hb dX12_mean_63 (by decide) ?_
    refine lv_icmp_ge (tgt := 86) hx hb dX12_mean_65 (by decide) (fun hc => ?_) (fun hc => ?_)
    · have hf := tc_pos hc hf
      refine lv_lconst (v := (0 : Int64)) hx hb dX12_mean_86 (by decide) ?_
      refine lv_lstore_n (lv' := [(3, .long ((0 : Int64))), (0, .ref (q 0)), (1, .int (v1)), (2, .int (v2))]) hx hb dX12_mean_87 rfl hl (by decide) rfl (fun ls hl => ?_)
      refine lv_iconst (v := (0 : Int32)) hx hb dX12_mean_88 (by decide) ?_
      refine lv_istore (lv' := [(5, .int ((0 : Int32))), (3, .long ((0 : Int64))), (0, .ref (q 0)), (1, .int (v1)), (2, .int (v2))]) hx hb dX12_mean_89 hl (by decide) rfl (fun ls hl => ?_)
      exact tX12_mean_91 X z FU S v1 v2 (0 : Int64) (0 : Int32) hf _ _ _ hP hD hS (lv_sub hl [2, 3, 4, 1, 0] rfl)
    · have hf := tc_neg hc hf
      refine lv_aload_n hx hb dX12_mean_68 rfl (lv_at hl 0 rfl) ?_
      refine va_get (D := (dC, dI)) (ci := 12) (v := .ref (q 6)) (C := RX12) (T := TX12) (N := 49) hx hb hts i_X12 hown hK hP 0 rfl rfl 21 (by decide) (hts _ wf_X12_38) (fun _ h9 => h9) rfl dX12_mean_69 ?_
      refine lv_iload_n hx hb dX12_mean_72 rfl (lv_at hl 3 rfl) ?_
      refine lv_aload_n hx hb dX12_mean_73 rfl (lv_at hl 0 rfl) ?_
      refine va_get (D := (dC, dI)) (ci := 12) (v := .ref (q 5)) (C := RX12) (T := TX12) (N := 49) hx hb hts i_X12 hown hK hP 0 rfl rfl 20 (by decide) (hts _ wf_X12_35) (fun _ h9 => h9) rfl dX12_mean_74 ?_
      refine lv_iload_n hx hb dX12_mean_77 rfl (lv_at hl 3 rfl) ?_
      obtain ⟨hi9, hf⟩ := tc_in hf
      refine va_iald hx hb hK hP 5 1 rfl rfl hi9 dX12_mean_78 ?_
      obtain ⟨hi10, hf⟩ := tc_in hf
      refine va_iast hx hb hK hP hD hS 6 1 rfl rfl hi10 dX12_mean_79 (fun H locs hP hD hS => ?_)
      have hP := tc_eP (aw12_0_6 ca q S v3 (ia S 5 v3)) hP
      have hD := tc_eD (aw12_0_6 ca q S v3 (ia S 5 v3)) hD
      refine lv_iinc (v := v3 + (1 : Int32)) (lv' := [(3, .int (v3 + (1 : Int32))), (0, .ref (q 0)), (1, .int (v1)), (2, .int (v2))]) hx hb dX12_mean_80 hl (k := 3) rfl rfl (by decide) rfl (fun ls hl => ?_)
      refine lv_goto (tgt := 62) hx hb dX12_mean_83 (by decide) ?_
      exact ih (sa S 6 v3 (ia S 5 v3)) v1 v2 (v3 + (1 : Int32)) hf _ _ _ hP hD hS (lv_sub hl [1, 2, 3, 0] rfl)
set_option maxRecDepth 20000 in
theorem mX12_mean {q : Nat → Nat}  {S : ms_T} {a1 : Int32} {a2 : Int32} {z : Int32 × ms_T}  (hf : fX12_mean S a1 a2 = some z) : tc_MI l dC dI ca yX12_mean cX12_mean 7 (some .boolean) rmX12_mean [.ref (q 0), .int (a1), .int (a2)] (w12 ca q S) (w12 ca q z.2) (z.1) := by
  refine tc_metI (own := RX12) (by decide) rfl ?_ (Nat.le_of_ble_eq_true rfl)
  intro p e s m below meth c A X hP hD hS ls hl
  obtain ⟨hx, hb, hr, hml, hown, hts, hlk, hK, hA, hG⟩ := id X
  unfold fX12_mean at hf
  have hl : lv_has ls 7 [(0, .ref (q 0)), (1, .int (a1)), (2, .int (a2))] := hl
  refine lv_aload_n hx hb dX12_mean_0 rfl (lv_at hl 0 rfl) ?_
  refine lv_iconst (v := (0 : Int32)) hx hb dX12_mean_1 (by decide) ?_
  refine va_put (D := (dC, dI)) (ci := 12) (v := .int ((0 : Int32))) (ty := .int) (C := RX12) (T := TX12) (N := 49) hx hb hts i_X12 tyX12 tyX12_ok nmX12 hown hK hP hD hS 0 rfl rfl 1 (by decide) (hts _ wf_X12_63) (fun _ h9 => h9) rfl (tyX12_ok 1 (by decide)) rfl rfl (Nat.le_of_ble_eq_true rfl) dX12_mean_2 (fun H locs hP hD hS => ?_)
  have hP := tc_eP (pw12_0_1 ca q S (0 : Int32)) hP
  have hD := tc_eD (pw12_0_1 ca q S (0 : Int32)) hD
  refine lv_aload_n hx hb dX12_mean_5 rfl (lv_at hl 0 rfl) ?_
  refine lv_iconst (v := (0 : Int32)) hx hb dX12_mean_6 (by decide) ?_
  refine va_put (D := (dC, dI)) (ci := 12) (v := .int ((0 : Int32))) (ty := .int) (C := RX12) (T := TX12) (N := 49) hx hb hts i_X12 tyX12 tyX12_ok nmX12 hown hK hP hD hS 0 rfl rfl 0 (by decide) (hts _ wf_X12_66) (fun _ h9 => h9) rfl (tyX12_ok 0 (by decide)) rfl rfl (Nat.le_of_ble_eq_true rfl) dX12_mean_7 (fun H locs hP hD hS => ?_)
  have hP := tc_eP (pw12_0_0 ca q (si S 1 (0 : Int32)) (0 : Int32)) hP
  have hD := tc_eD (pw12_0_0 ca q (si S 1 (0 : Int32)) (0 : Int32)) hD
  refine lv_iload_n hx hb dX12_mean_10 rfl (lv_at hl 2 rfl) ?_
  refine lv_i2l (v := a2.toInt64) hx hb dX12_mean_11 rfl ?_
  refine lv_lconst (v := (1 : Int64)) hx hb dX12_mean_12 (by decide) ?_
  refine lv_ldc2 (v := (20 : Int64)) hx hb hown (hts _ wk_X12_402) dX12_mean_13 ?_
  obtain ⟨z1, hg, hf⟩ := tc_bi hf
  refine tc_iS0 (As := [.long (a2.toInt64), .long ((1 : Int64)), .long ((20 : Int64))]) (rest := []) X hP hD hS (mX12_isIn hg) okX12_isIn wl_X12_98 wt_X12_isIn ⟨rfl, rfl, Nat.le_of_ble_eq_true rfl, Nat.le_of_ble_eq_true rfl⟩ rfl hl.1 (Nat.le_of_ble_eq_true rfl) dX12_mean_16 (fun H locs hP hD hS => ?_)
  refine lv_if_eq (tgt := 37) hx hb dX12_mean_19 (by decide) (fun hc => ?_) (fun hc => ?_)
  · have hf := tc_pos hc hf
    exact tX12_mean_37 X z (si (si S 1 (0 : Int32)) 0 (0 : Int32)) hf _ _ _ hP hD hS (lv_sub hl [0] rfl)
  · have hf := tc_neg hc hf
    refine lv_iload_n hx hb dX12_mean_22 rfl (lv_at hl 1 rfl) ?_
    refine lv_i2l (v := a1.toInt64) hx hb dX12_mean_23 rfl ?_
    refine lv_lconst (v := (0 : Int64)) hx hb dX12_mean_24 (by decide) ?_
    refine lv_sipush (v := (10000 : Int32)) hx hb dX12_mean_25 (by decide) ?_
    refine lv_iload_n hx hb dX12_mean_28 rfl (lv_at hl 2 rfl) ?_
    refine lv_isub hx hb dX12_mean_29 ?_
    refine lv_i2l (v := ((10000 : Int32) - a2).toInt64) hx hb dX12_mean_30 rfl ?_
    obtain ⟨z3, hg, hf⟩ := tc_bi hf
    refine tc_iS0 (As := [.long (a1.toInt64), .long ((0 : Int64)), .long (((10000 : Int32) - a2).toInt64)]) (rest := []) X hP hD hS (mX12_isIn hg) okX12_isIn wl_X12_98 wt_X12_isIn ⟨rfl, rfl, Nat.le_of_ble_eq_true rfl, Nat.le_of_ble_eq_true rfl⟩ rfl hl.1 (Nat.le_of_ble_eq_true rfl) dX12_mean_31 (fun H locs hP hD hS => ?_)
    refine lv_if_ne (tgt := 43) hx hb dX12_mean_34 (by decide) (fun hc => ?_) (fun hc => ?_)
    · have hf := tc_neg hc hf
      refine lv_aload_n hx hb dX12_mean_43 rfl (lv_at hl 0 rfl) ?_
      refine va_get (D := (dC, dI)) (ci := 12) (v := .ref (q 5)) (C := RX12) (T := TX12) (N := 49) hx hb hts i_X12 hown hK hP 0 rfl rfl 20 (by decide) (hts _ wf_X12_35) (fun _ h9 => h9) rfl dX12_mean_44 ?_
      refine lv_bipush (v := (92 : Int32)) hx hb dX12_mean_47 (by decide) ?_
      refine va_iald hx hb hK hP 5 1 rfl rfl (inb_vp (by decide)) dX12_mean_49 ?_
      refine lv_if_ne (tgt := 60) hx hb dX12_mean_50 (by decide) (fun hc => ?_) (fun hc => ?_)
      · have hf := tc_neg hc hf
        refine lv_iconst (v := (0 : Int32)) hx hb dX12_mean_60 (by decide) ?_
        refine lv_istore_n (lv' := [(3, .int ((0 : Int32))), (0, .ref (q 0)), (1, .int (a1)), (2, .int (a2))]) hx hb dX12_mean_61 rfl hl (by decide) rfl (fun ls hl => ?_)
        exact tX12_mean_62 X z FU (si (si S 1 (0 : Int32)) 0 (0 : Int32)) a1 a2 (0 : Int32) hf _ _ _ hP hD hS (lv_sub hl [1, 2, 3, 0] rfl)
      · have hf := tc_pos hc hf
        refine lv_aload_n hx hb dX12_mean_53 rfl (lv_at hl 0 rfl) ?_
        refine lv_bipush (v := (8 : Int32)) hx hb dX12_mean_54 (by decide) ?_
        obtain ⟨z11, hg, hf⟩ := tc_bi hf
        refine tc_iVs (As := [.int ((8 : Int32))]) (rest := []) (b := q 0) X hP hD hS (mX12_no hg) okX12_no wl_X12_78 wi_X12_no ws_X12_X12_no_X12_no ⟨rfl, rfl, Nat.le_of_ble_eq_true rfl, Nat.le_of_ble_eq_true rfl⟩ 12 0 rfl rfl rfl hl.1 (Nat.le_of_ble_eq_true rfl) dX12_mean_56 (fun H locs hP hD hS => ?_)
        obtain ⟨hz1, hf⟩ := tc_ck hf
        obtain rfl := Option.some.inj hf
        exact tc_rz X hP hD hS rfl dX12_mean_59 hz1 rfl rfl
    · have hf := tc_pos hc hf
      exact tX12_mean_37 X z (si (si S 1 (0 : Int32)) 0 (0 : Int32)) hf _ _ _ hP hD hS (lv_sub hl [0] rfl)
def fX12_mark  (S : ms_T)  : Option (Int32 × ms_T) :=
  if (gi (si (si S 1 (0 : Int32)) 0 (0 : Int32)) 23) = (3 : Int32) then
    (fX12_refuse (si (si S 1 (0 : Int32)) 0 (0 : Int32)) (7 : Int32)).bind fun z2 =>
    some (z2.1, z2.2)
  else
    (fX12_copy (si (si (si S 1 (0 : Int32)) 0 (0 : Int32)) 23 ((gi (si (si S 1 (0 : Int32)) 0 (0 : Int32)) 23) + (1 : Int32))) (0 : Int32) (gi (si (si (si S 1 (0 : Int32)) 0 (0 : Int32)) 23 ((gi (si (si S 1 (0 : Int32)) 0 (0 : Int32)) 23) + (1 : Int32))) 23)).bind fun z1 =>
    some (gi z1 23, z1)
abbrev rmX12_mark : Room := { frames := 1, cells := 0, slots := 0, locals := 23 }
theorem okX12_mark : tc_ok yX12_mark cX12_mark 1 (some .int) 0 := ⟨wc_X12_mark, wn_X12, by decide, by decide, by decide +kernel⟩
set_option maxRecDepth 20000 in
theorem mX12_mark {q : Nat → Nat}  {S : ms_T}  {z : Int32 × ms_T}  (hf : fX12_mark S = some z) : tc_MI l dC dI ca yX12_mark cX12_mark 1 (some .int) rmX12_mark [.ref (q 0)] (w12 ca q S) (w12 ca q z.2) (z.1) := by
  refine tc_metI (own := RX12) (by decide) rfl ?_ (Nat.le_of_ble_eq_true rfl)
  intro p e s m below meth c A X hP hD hS ls hl
  obtain ⟨hx, hb, hr, hml, hown, hts, hlk, hK, hA, hG⟩ := id X
  unfold fX12_mark at hf
  have hl : lv_has ls 1 [(0, .ref (q 0))] := hl
  refine lv_aload_n hx hb dX12_mark_0 rfl (lv_at hl 0 rfl) ?_
  refine lv_iconst (v := (0 : Int32)) hx hb dX12_mark_1 (by decide) ?_
  refine va_put (D := (dC, dI)) (ci := 12) (v := .int ((0 : Int32))) (ty := .int) (C := RX12) (T := TX12) (N := 49) hx hb hts i_X12 tyX12 tyX12_ok nmX12 hown hK hP hD hS 0 rfl rfl 1 (by decide) (hts _ wf_X12_63) (fun _ h9 => h9) rfl (tyX12_ok 1 (by decide)) rfl rfl (Nat.le_of_ble_eq_true rfl) dX12_mark_2 (fun H locs hP hD hS => ?_)
  have hP := tc_eP (pw12_0_1 ca q S (0 : Int32)) hP
  have hD := tc_eD (pw12_0_1 ca q S (0 : Int32)) hD
  refine lv_aload_n hx hb dX12_mark_5 rfl (lv_at hl 0 rfl) ?_
  refine lv_iconst (v := (0 : Int32)) hx hb dX12_mark_6 (by decide) ?_
  refine va_put (D := (dC, dI)) (ci := 12) (v := .int ((0 : Int32))) (ty := .int) (C := RX12) (T := TX12) (N := 49) hx hb hts i_X12 tyX12 tyX12_ok nmX12 hown hK hP hD hS 0 rfl rfl 0 (by decide) (hts _ wf_X12_66) (fun _ h9 => h9) rfl (tyX12_ok 0 (by decide)) rfl rfl (Nat.le_of_ble_eq_true rfl) dX12_mark_7 (fun H locs hP hD hS => ?_)
  have hP := tc_eP (pw12_0_0 ca q (si S 1 (0 : Int32)) (0 : Int32)) hP
  have hD := tc_eD (pw12_0_0 ca q (si S 1 (0 : Int32)) (0 : Int32)) hD
  refine lv_aload_n hx hb dX12_mark_10 rfl (lv_at hl 0 rfl) ?_
  refine va_get (D := (dC, dI)) (ci := 12) (v := .int (gi (si (si S 1 (0 : Int32)) 0 (0 : Int32)) 23)) (C := RX12) (T := TX12) (N := 49) hx hb hts i_X12 hown hK hP 0 rfl rfl 23 (by decide) (hts _ wf_X12_572) (fun _ h9 => h9) rfl dX12_mark_11 ?_
  refine lv_iconst (v := (3 : Int32)) hx hb dX12_mark_14 (by decide) ?_
  refine lv_icmp_ne (tgt := 25) hx hb dX12_mark_15 (by decide) (fun hc => ?_) (fun hc => ?_)
  · have hf := tc_neg hc hf
    refine lv_aload_n hx hb dX12_mark_25 rfl (lv_at hl 0 rfl) ?_
    refine lv_dup hx hb dX12_mark_26 rfl ?_
    refine va_get (D := (dC, dI)) (ci := 12) (v := .int (gi (si (si S 1 (0 : Int32)) 0 (0 : Int32)) 23)) (C := RX12) (T := TX12) (N := 49) hx hb hts i_X12 hown hK hP 0 rfl rfl 23 (by decide) (hts _ wf_X12_572) (fun _ h9 => h9) rfl dX12_mark_27 ?_
    refine lv_iconst (v := (1 : Int32)) hx hb dX12_mark_30 (by decide) ?_
    refine lv_iadd hx hb dX12_mark_31 ?_
    refine va_put (D := (dC, dI)) (ci := 12) (v := .int ((gi (si (si S 1 (0 : Int32)) 0 (0 : Int32)) 23) + (1 : Int32))) (ty := .int) (C := RX12) (T := TX12) (N := 49) hx hb hts i_X12 tyX12 tyX12_ok nmX12 hown hK hP hD hS 0 rfl rfl 23 (by decide) (hts _ wf_X12_572) (fun _ h9 => h9) rfl (tyX12_ok 23 (by decide)) rfl rfl (Nat.le_of_ble_eq_true rfl) dX12_mark_32 (fun H locs hP hD hS => ?_)
    have hP := tc_eP (pw12_0_23 ca q (si (si S 1 (0 : Int32)) 0 (0 : Int32)) ((gi (si (si S 1 (0 : Int32)) 0 (0 : Int32)) 23) + (1 : Int32))) hP
    have hD := tc_eD (pw12_0_23 ca q (si (si S 1 (0 : Int32)) 0 (0 : Int32)) ((gi (si (si S 1 (0 : Int32)) 0 (0 : Int32)) 23) + (1 : Int32))) hD
    refine lv_aload_n hx hb dX12_mark_35 rfl (lv_at hl 0 rfl) ?_
    refine lv_iconst (v := (0 : Int32)) hx hb dX12_mark_36 (by decide) ?_
    refine lv_aload_n hx hb dX12_mark_37 rfl (lv_at hl 0 rfl) ?_
    refine va_get (D := (dC, dI)) (ci := 12) (v := .int (gi (si (si (si S 1 (0 : Int32)) 0 (0 : Int32)) 23 ((gi (si (si S 1 (0 : Int32)) 0 (0 : Int32)) 23) + (1 : Int32))) 23)) (C := RX12) (T := TX12) (N := 49) hx hb hts i_X12 hown hK hP 0 rfl rfl 23 (by decide) (hts _ wf_X12_572) (fun _ h9 => h9) rfl dX12_mark_38 ?_
    obtain ⟨z1, hg, hf⟩ := tc_bi hf
    refine tc_vVs (As := [.int ((0 : Int32)), .int (gi (si (si (si S 1 (0 : Int32)) 0 (0 : Int32)) 23 ((gi (si (si S 1 (0 : Int32)) 0 (0 : Int32)) 23) + (1 : Int32))) 23)]) (rest := []) (b := q 0) X hP hD hS (mX12_copy hg) okX12_copy wl_X12_313 wi_X12_copy ws_X12_X12_copy_X12_copy ⟨rfl, rfl, Nat.le_of_ble_eq_true rfl, Nat.le_of_ble_eq_true rfl⟩ 12 0 rfl rfl rfl hl.1 (Nat.le_of_ble_eq_true rfl) dX12_mark_41 (fun H locs hP hD hS => ?_)
    refine lv_aload_n hx hb dX12_mark_44 rfl (lv_at hl 0 rfl) ?_
    refine va_get (D := (dC, dI)) (ci := 12) (v := .int (gi z1 23)) (C := RX12) (T := TX12) (N := 49) hx hb hts i_X12 hown hK hP 0 rfl rfl 23 (by decide) (hts _ wf_X12_572) (fun _ h9 => h9) rfl dX12_mark_45 ?_
    obtain rfl := Option.some.inj hf
    exact tc_ri X hP hD hS rfl dX12_mark_48 rfl rfl
  · have hf := tc_pos hc hf
    refine lv_aload_n hx hb dX12_mark_18 rfl (lv_at hl 0 rfl) ?_
    refine lv_bipush (v := (7 : Int32)) hx hb dX12_mark_19 (by decide) ?_
    obtain ⟨z2, hg, hf⟩ := tc_bi hf
    refine tc_iVs (As := [.int ((7 : Int32))]) (rest := []) (b := q 0) X hP hD hS (mX12_refuse hg) okX12_refuse wl_X12_333 wi_X12_refuse ws_X12_X12_refuse_X12_refuse ⟨rfl, rfl, Nat.le_of_ble_eq_true rfl, Nat.le_of_ble_eq_true rfl⟩ 12 0 rfl rfl rfl hl.1 (Nat.le_of_ble_eq_true rfl) dX12_mark_21 (fun H locs hP hD hS => ?_)
    obtain rfl := Option.some.inj hf
    exact tc_ri X hP hD hS rfl dX12_mark_24 rfl rfl
def fX12_back  (S : ms_T)  : Option (Int32 × ms_T) :=
  if (gi (si (si S 1 (0 : Int32)) 0 (0 : Int32)) 23) = 0 then
    (fX12_refuse (si (si S 1 (0 : Int32)) 0 (0 : Int32)) (8 : Int32)).bind fun z2 =>
    some (z2.1, z2.2)
  else
    (fX12_copy (si (si S 1 (0 : Int32)) 0 (0 : Int32)) (gi (si (si S 1 (0 : Int32)) 0 (0 : Int32)) 23) (0 : Int32)).bind fun z1 =>
    some (gi (si z1 23 ((gi z1 23) - (1 : Int32))) 23, si z1 23 ((gi z1 23) - (1 : Int32)))
abbrev rmX12_back : Room := { frames := 1, cells := 0, slots := 0, locals := 23 }
theorem okX12_back : tc_ok yX12_back cX12_back 1 (some .int) 0 := ⟨wc_X12_back, wn_X12, by decide, by decide, by decide +kernel⟩
set_option maxRecDepth 20000 in
theorem mX12_back {q : Nat → Nat}  {S : ms_T}  {z : Int32 × ms_T}  (hf : fX12_back S = some z) : tc_MI l dC dI ca yX12_back cX12_back 1 (some .int) rmX12_back [.ref (q 0)] (w12 ca q S) (w12 ca q z.2) (z.1) := by
  refine tc_metI (own := RX12) (by decide) rfl ?_ (Nat.le_of_ble_eq_true rfl)
  intro p e s m below meth c A X hP hD hS ls hl
  obtain ⟨hx, hb, hr, hml, hown, hts, hlk, hK, hA, hG⟩ := id X
  unfold fX12_back at hf
  have hl : lv_has ls 1 [(0, .ref (q 0))] := hl
  refine lv_aload_n hx hb dX12_back_0 rfl (lv_at hl 0 rfl) ?_
  refine lv_iconst (v := (0 : Int32)) hx hb dX12_back_1 (by decide) ?_
  refine va_put (D := (dC, dI)) (ci := 12) (v := .int ((0 : Int32))) (ty := .int) (C := RX12) (T := TX12) (N := 49) hx hb hts i_X12 tyX12 tyX12_ok nmX12 hown hK hP hD hS 0 rfl rfl 1 (by decide) (hts _ wf_X12_63) (fun _ h9 => h9) rfl (tyX12_ok 1 (by decide)) rfl rfl (Nat.le_of_ble_eq_true rfl) dX12_back_2 (fun H locs hP hD hS => ?_)
  have hP := tc_eP (pw12_0_1 ca q S (0 : Int32)) hP
  have hD := tc_eD (pw12_0_1 ca q S (0 : Int32)) hD
  refine lv_aload_n hx hb dX12_back_5 rfl (lv_at hl 0 rfl) ?_
  refine lv_iconst (v := (0 : Int32)) hx hb dX12_back_6 (by decide) ?_
  refine va_put (D := (dC, dI)) (ci := 12) (v := .int ((0 : Int32))) (ty := .int) (C := RX12) (T := TX12) (N := 49) hx hb hts i_X12 tyX12 tyX12_ok nmX12 hown hK hP hD hS 0 rfl rfl 0 (by decide) (hts _ wf_X12_66) (fun _ h9 => h9) rfl (tyX12_ok 0 (by decide)) rfl rfl (Nat.le_of_ble_eq_true rfl) dX12_back_7 (fun H locs hP hD hS => ?_)
  have hP := tc_eP (pw12_0_0 ca q (si S 1 (0 : Int32)) (0 : Int32)) hP
  have hD := tc_eD (pw12_0_0 ca q (si S 1 (0 : Int32)) (0 : Int32)) hD
  refine lv_aload_n hx hb dX12_back_10 rfl (lv_at hl 0 rfl) ?_
  refine va_get (D := (dC, dI)) (ci := 12) (v := .int (gi (si (si S 1 (0 : Int32)) 0 (0 : Int32)) 23)) (C := RX12) (T := TX12) (N := 49) hx hb hts i_X12 hown hK hP 0 rfl rfl 23 (by decide) (hts _ wf_X12_572) (fun _ h9 => h9) rfl dX12_back_11 ?_
  refine lv_if_ne (tgt := 24) hx hb dX12_back_14 (by decide) (fun hc => ?_) (fun hc => ?_)
  · have hf := tc_neg hc hf
    refine lv_aload_n hx hb dX12_back_24 rfl (lv_at hl 0 rfl) ?_
    refine lv_aload_n hx hb dX12_back_25 rfl (lv_at hl 0 rfl) ?_
    refine va_get (D := (dC, dI)) (ci := 12) (v := .int (gi (si (si S 1 (0 : Int32)) 0 (0 : Int32)) 23)) (C := RX12) (T := TX12) (N := 49) hx hb hts i_X12 hown hK hP 0 rfl rfl 23 (by decide) (hts _ wf_X12_572) (fun _ h9 => h9) rfl dX12_back_26 ?_
    refine lv_iconst (v := (0 : Int32)) hx hb dX12_back_29 (by decide) ?_
    obtain ⟨z1, hg, hf⟩ := tc_bi hf
    refine tc_vVs (As := [.int (gi (si (si S 1 (0 : Int32)) 0 (0 : Int32)) 23), .int ((0 : Int32))]) (rest := []) (b := q 0) X hP hD hS (mX12_copy hg) okX12_copy wl_X12_313 wi_X12_copy ws_X12_X12_copy_X12_copy ⟨rfl, rfl, Nat.le_of_ble_eq_true rfl, Nat.le_of_ble_eq_true rfl⟩ 12 0 rfl rfl rfl hl.1 (Nat.le_of_ble_eq_true rfl) dX12_back_30 (fun H locs hP hD hS => ?_)
    refine lv_aload_n hx hb dX12_back_33 rfl (lv_at hl 0 rfl) ?_
    refine lv_dup hx hb dX12_back_34 rfl ?_
    refine va_get (D := (dC, dI)) (ci := 12) (v := .int (gi z1 23)) (C := RX12) (T := TX12) (N := 49) hx hb hts i_X12 hown hK hP 0 rfl rfl 23 (by decide) (hts _ wf_X12_572) (fun _ h9 => h9) rfl dX12_back_35 ?_
    refine lv_iconst (v := (1 : Int32)) hx hb dX12_back_38 (by decide) ?_
    refine lv_isub hx hb dX12_back_39 ?_
    refine va_put (D := (dC, dI)) (ci := 12) (v := .int ((gi z1 23) - (1 : Int32))) (ty := .int) (C := RX12) (T := TX12) (N := 49) hx hb hts i_X12 tyX12 tyX12_ok nmX12 hown hK hP hD hS 0 rfl rfl 23 (by decide) (hts _ wf_X12_572) (fun _ h9 => h9) rfl (tyX12_ok 23 (by decide)) rfl rfl (Nat.le_of_ble_eq_true rfl) dX12_back_40 (fun H locs hP hD hS => ?_)
    have hP := tc_eP (pw12_0_23 ca q z1 ((gi z1 23) - (1 : Int32))) hP
    have hD := tc_eD (pw12_0_23 ca q z1 ((gi z1 23) - (1 : Int32))) hD
    refine lv_aload_n hx hb dX12_back_43 rfl (lv_at hl 0 rfl) ?_
    refine va_get (D := (dC, dI)) (ci := 12) (v := .int (gi (si z1 23 ((gi z1 23) - (1 : Int32))) 23)) (C := RX12) (T := TX12) (N := 49) hx hb hts i_X12 hown hK hP 0 rfl rfl 23 (by decide) (hts _ wf_X12_572) (fun _ h9 => h9) rfl dX12_back_44 ?_
    obtain rfl := Option.some.inj hf
    exact tc_ri X hP hD hS rfl dX12_back_47 rfl rfl
  · have hf := tc_pos hc hf
    refine lv_aload_n hx hb dX12_back_17 rfl (lv_at hl 0 rfl) ?_
    refine lv_bipush (v := (8 : Int32)) hx hb dX12_back_18 (by decide) ?_
    obtain ⟨z2, hg, hf⟩ := tc_bi hf
    refine tc_iVs (As := [.int ((8 : Int32))]) (rest := []) (b := q 0) X hP hD hS (mX12_refuse hg) okX12_refuse wl_X12_333 wi_X12_refuse ws_X12_X12_refuse_X12_refuse ⟨rfl, rfl, Nat.le_of_ble_eq_true rfl, Nat.le_of_ble_eq_true rfl⟩ 12 0 rfl rfl rfl hl.1 (Nat.le_of_ble_eq_true rfl) dX12_back_20 (fun H locs hP hD hS => ?_)
    obtain rfl := Option.some.inj hf
    exact tc_ri X hP hD hS rfl dX12_back_23 rfl rfl
end G
