theorem wo_X4_3 : Cond.methodLink RX4 3 objectInit ∈ lw_g := lw_m (tb_1 _ (List.mem_of_getElem? (i := 58) rfl)) rfl
theorem wo_X6_1 : Cond.methodLink RX6 1 objectInit ∈ lw_g := lw_m (tb_1 _ (List.mem_of_getElem? (i := 154) rfl)) rfl
theorem wk_cl_X6_7 : Cond.classLink RX6 7 RX7 ∈ lw_g := lw_m (tb_1 _ (List.mem_of_getElem? (i := 155) rfl)) rfl
theorem wk_in_X7 : Cond.instantiable RX7 18 ∈ lw_g := lw_m (tb_1 _ (List.mem_of_getElem? (i := 156) rfl)) rfl
theorem wk_cl_X6_16 : Cond.classLink RX6 16 RX1 ∈ lw_g := lw_m (tb_2 _ (List.mem_of_getElem? (i := 24) rfl)) rfl
theorem wk_in_X1 : Cond.instantiable RX1 8 ∈ lw_g := lw_m (tb_2 _ (List.mem_of_getElem? (i := 25) rfl)) rfl
theorem kd_X9 : ∀ j, j < 3 → defaultValue (tyX9 j) = vp_V (.null :: .int 0 :: .int 0 :: []) j := by intro j hj; match j, hj with | 0, _ => rfl | 1, _ => rfl | 2, _ => rfl | j + 3, hj => omega
theorem kd_X8 : ∀ j, j < 13 → defaultValue (tyX8 j) = vp_V (.null :: .int 0 :: .int 0 :: .int 0 :: .int 0 :: .int 0 :: .int 0 :: .int 0 :: .long 0 :: .int 0 :: .int 0 :: .null :: .int 0 :: []) j := by intro j hj; match j, hj with | 0, _ => rfl | 1, _ => rfl | 2, _ => rfl | 3, _ => rfl | 4, _ => rfl | 5, _ => rfl | 6, _ => rfl | 7, _ => rfl | 8, _ => rfl | 9, _ => rfl | 10, _ => rfl | 11, _ => rfl | 12, _ => rfl | j + 13, hj => omega
theorem kd_X2 : ∀ j, j < 15 → defaultValue (tyX2 j) = vp_V (.null :: .int 0 :: .int 0 :: .int 0 :: .int 0 :: .int 0 :: .int 0 :: .int 0 :: .long 0 :: .int 0 :: .int 0 :: .null :: .null :: .int 0 :: .null :: []) j := by intro j hj; match j, hj with | 0, _ => rfl | 1, _ => rfl | 2, _ => rfl | 3, _ => rfl | 4, _ => rfl | 5, _ => rfl | 6, _ => rfl | 7, _ => rfl | 8, _ => rfl | 9, _ => rfl | 10, _ => rfl | 11, _ => rfl | 12, _ => rfl | 13, _ => rfl | 14, _ => rfl | j + 15, hj => omega
theorem kd_X6 : ∀ j, j < 2 → defaultValue (tyX6 j) = vp_V (.null :: .null :: []) j := by intro j hj; match j, hj with | 0, _ => rfl | 1, _ => rfl | j + 2, hj => omega
theorem kd_X7 : ∀ j, j < 18 → defaultValue (tyX7 j) = vp_V (.int 0 :: .int 0 :: .null :: .null :: .int 0 :: .null :: .null :: .int 0 :: .int 0 :: .null :: .null :: .null :: .int 0 :: .int 0 :: .null :: .null :: .int 0 :: .null :: []) j := by intro j hj; match j, hj with | 0, _ => rfl | 1, _ => rfl | 2, _ => rfl | 3, _ => rfl | 4, _ => rfl | 5, _ => rfl | 6, _ => rfl | 7, _ => rfl | 8, _ => rfl | 9, _ => rfl | 10, _ => rfl | 11, _ => rfl | 12, _ => rfl | 13, _ => rfl | 14, _ => rfl | 15, _ => rfl | 16, _ => rfl | 17, _ => rfl | j + 18, hj => omega
theorem kd_X1 : ∀ j, j < 8 → defaultValue (tyX1 j) = vp_V (.int 0 :: .int 0 :: .int 0 :: .null :: .null :: .null :: .null :: .null :: []) j := by intro j hj; match j, hj with | 0, _ => rfl | 1, _ => rfl | 2, _ => rfl | 3, _ => rfl | 4, _ => rfl | 5, _ => rfl | 6, _ => rfl | 7, _ => rfl | j + 8, hj => omega
theorem kd_X0 : ∀ j, j < 10 → defaultValue (tyX0 j) = vp_V (.null :: .null :: .int 0 :: .null :: .int 0 :: .int 0 :: .int 0 :: .int 0 :: .int 0 :: .int 0 :: []) j := by intro j hj; match j, hj with | 0, _ => rfl | 1, _ => rfl | 2, _ => rfl | 3, _ => rfl | 4, _ => rfl | 5, _ => rfl | 6, _ => rfl | 7, _ => rfl | 8, _ => rfl | 9, _ => rfl | j + 10, hj => omega
theorem kd_X10 : ∀ j, j < 4 → defaultValue (tyX10 j) = vp_V (.null :: .int 0 :: .null :: .null :: []) j := by intro j hj; match j, hj with | 0, _ => rfl | 1, _ => rfl | 2, _ => rfl | 3, _ => rfl | j + 4, hj => omega
theorem kd_X3 : ∀ j, j < 6 → defaultValue (tyX3 j) = vp_V (.null :: .int 0 :: .int 0 :: .null :: .null :: .null :: []) j := by intro j hj; match j, hj with | 0, _ => rfl | 1, _ => rfl | 2, _ => rfl | 3, _ => rfl | 4, _ => rfl | 5, _ => rfl | j + 6, hj => omega
theorem kd_X5 : ∀ j, j < 4 → defaultValue (tyX5 j) = vp_V (.null :: .null :: .null :: .null :: []) j := by intro j hj; match j, hj with | 0, _ => rfl | 1, _ => rfl | 2, _ => rfl | 3, _ => rfl | j + 4, hj => omega
theorem dX4_init_0 : decode cX4_init 0 = .ok (.aload_n 0, 1) := by decide +kernel
theorem dX4_init_1 : decode cX4_init 1 = .ok (.invokespecial 3, 3) := by decide +kernel
theorem dX4_init_4 : decode cX4_init 4 = .ok (.aload_n 0, 1) := by decide +kernel
theorem dX4_init_5 : decode cX4_init 5 = .ok (.aload_n 1, 1) := by decide +kernel
theorem dX4_init_6 : decode cX4_init 6 = .ok (.putfield 9, 3) := by decide +kernel
theorem dX4_init_9 : decode cX4_init 9 = .ok (.return_, 1) := by decide +kernel
theorem dX8_init_0 : decode cX8_init 0 = .ok (.aload_n 0, 1) := by decide +kernel
theorem dX8_init_1 : decode cX8_init 1 = .ok (.aload_n 1, 1) := by decide +kernel
theorem dX8_init_2 : decode cX8_init 2 = .ok (.invokespecial 3, 3) := by decide +kernel
theorem dX8_init_5 : decode cX8_init 5 = .ok (.return_, 1) := by decide +kernel
theorem dX2_init_0 : decode cX2_init 0 = .ok (.aload_n 0, 1) := by decide +kernel
theorem dX2_init_1 : decode cX2_init 1 = .ok (.aload_n 1, 1) := by decide +kernel
theorem dX2_init_2 : decode cX2_init 2 = .ok (.invokespecial 3, 3) := by decide +kernel
theorem dX2_init_5 : decode cX2_init 5 = .ok (.aload_n 0, 1) := by decide +kernel
theorem dX2_init_6 : decode cX2_init 6 = .ok (.iconst 3, 1) := by decide +kernel
theorem dX2_init_7 : decode cX2_init 7 = .ok (.newarray .int, 2) := by decide +kernel
theorem dX2_init_9 : decode cX2_init 9 = .ok (.putfield 11, 3) := by decide +kernel
theorem dX2_init_12 : decode cX2_init 12 = .ok (.return_, 1) := by decide +kernel
theorem dX6_init_0 : decode cX6_init 0 = .ok (.aload_n 0, 1) := by decide +kernel
theorem dX6_init_1 : decode cX6_init 1 = .ok (.invokespecial 1, 3) := by decide +kernel
theorem dX6_init_4 : decode cX6_init 4 = .ok (.aload_n 0, 1) := by decide +kernel
theorem dX6_init_5 : decode cX6_init 5 = .ok (.new 7, 3) := by decide +kernel
theorem dX6_init_8 : decode cX6_init 8 = .ok (.dup, 1) := by decide +kernel
theorem dX6_init_9 : decode cX6_init 9 = .ok (.invokespecial 9, 3) := by decide +kernel
theorem dX6_init_12 : decode cX6_init 12 = .ok (.putfield 10, 3) := by decide +kernel
theorem dX6_init_15 : decode cX6_init 15 = .ok (.aload_n 0, 1) := by decide +kernel
theorem dX6_init_16 : decode cX6_init 16 = .ok (.new 16, 3) := by decide +kernel
theorem dX6_init_19 : decode cX6_init 19 = .ok (.dup, 1) := by decide +kernel
theorem dX6_init_20 : decode cX6_init 20 = .ok (.invokespecial 18, 3) := by decide +kernel
theorem dX6_init_23 : decode cX6_init 23 = .ok (.putfield 19, 3) := by decide +kernel
theorem dX6_init_26 : decode cX6_init 26 = .ok (.return_, 1) := by decide +kernel
section G
variable {p : Program} {l : Launch} {e : Env} {s : State} {m : MethodId} {args : Array Value} {below : List Frame} {meth : Method} {c : Code} {dC : Nat → ClassId} {dI : Nat → Nat → Nat} {ca : Nat → ClassId} {A : Nat → Prop}
theorem okX4_init : tc_ok yX4_init cX4_init 2 none 1 := ⟨wc_X4_init, wn_X4, by decide, by decide, by decide +kernel⟩
theorem okX8_init : tc_ok yX8_init cX8_init 2 none 1 := ⟨wc_X8_init, wn_X8, by decide, by decide, by decide +kernel⟩
theorem okX2_init : tc_ok yX2_init cX2_init 2 none 1 := ⟨wc_X2_init, wn_X2, by decide, by decide, by decide +kernel⟩
theorem okX6_init : tc_ok yX6_init cX6_init 1 none 0 := ⟨wc_X6_init, wn_X6, by decide, by decide, by decide +kernel⟩
set_option maxHeartbeats 4000000 in
set_option maxRecDepth 20000 in
theorem kX4_initT {h0 : Nat} {aB : Nat} : kc_M l dC dI ca yX4_init cX4_init 2 { frames := 1, cells := 0, slots := 0, locals := 20 } [.ref h0, .ref aB] [(h0, .inr (8, (.null :: .int 0 :: .int 0 :: .int 0 :: .int 0 :: .int 0 :: .int 0 :: .int 0 :: .long 0 :: .int 0 :: .int 0 :: .null :: .int 0 :: [])))] (fun q => ([(h0, .inr (8, (.ref aB :: .int 0 :: .int 0 :: .int 0 :: .int 0 :: .int 0 :: .int 0 :: .int 0 :: .long 0 :: .int 0 :: .int 0 :: .null :: .int 0 :: [])))])) (fun q => True) 0 0 := by
  refine kc_met (own := RX4) (by decide) rfl rfl ?_ (Nat.le_of_ble_eq_true rfl)
  intro p e s m below meth c A X hN hin hP hD hS ls hl
  obtain ⟨hx, hb, hr, hml, hown, hts, hlk, hK, hA, hG⟩ := id X
  have hl : lv_has ls 2 [(0, .ref h0), (1, .ref aB)] := hl
  refine lv_aload_n hx hb dX4_init_0 rfl (lv_at hl 0 rfl) ?_
  refine kc_obj (rest := []) X hl.1 wo_X4_3 w_oi w_oc (Nat.le_of_ble_eq_true rfl) (Nat.le_of_ble_eq_true rfl) dX4_init_1 ?_
  refine lv_aload_n hx hb dX4_init_4 rfl (lv_at hl 0 rfl) ?_
  refine lv_aload_n hx hb dX4_init_5 rfl (lv_at hl 1 rfl) ?_
  refine va_putF (D := (dC, dI)) (ci := 8) (v := .ref aB) (ty := .array .byte) (C := RX8) (T := TX8) (N := 13) hx hb hts i_X8 tyX8 tyX8_ok nmX8 hown hK hP hD hS 0 rfl rfl 0 (by decide) (hts _ wf_X4_9) (fun _ h9 => h9) rfl hin rfl (tyX8_ok 0 (by decide)) rfl rfl (Nat.le_of_ble_eq_true rfl) dX4_init_6 (fun H locs hP hD hS => ?_)
  have hP : va_P (dC, dI) classes ([(h0, .inr (8, (.ref aB :: .int 0 :: .int 0 :: .int 0 :: .int 0 :: .int 0 :: .int 0 :: .int 0 :: .long 0 :: .int 0 :: .int 0 :: .null :: .int 0 :: [])))]) H := hP
  have hD : va_D A ([(h0, .inr (8, (.ref aB :: .int 0 :: .int 0 :: .int 0 :: .int 0 :: .int 0 :: .int 0 :: .int 0 :: .long 0 :: .int 0 :: .int 0 :: .null :: .int 0 :: [])))]) := hD
  exact kc_ret X hP hD hS dX4_init_9 (fun _ _ => 0) rfl trivial
set_option maxHeartbeats 4000000 in
set_option maxRecDepth 20000 in
theorem kX4_initE {h0 : Nat} {aB : Nat} : kc_M l dC dI ca yX4_init cX4_init 2 { frames := 1, cells := 0, slots := 0, locals := 20 } [.ref h0, .ref aB] [(h0, .inr (2, (.null :: .int 0 :: .int 0 :: .int 0 :: .int 0 :: .int 0 :: .int 0 :: .int 0 :: .long 0 :: .int 0 :: .int 0 :: .null :: .null :: .int 0 :: .null :: [])))] (fun q => ([(h0, .inr (2, (.ref aB :: .int 0 :: .int 0 :: .int 0 :: .int 0 :: .int 0 :: .int 0 :: .int 0 :: .long 0 :: .int 0 :: .int 0 :: .null :: .null :: .int 0 :: .null :: [])))])) (fun q => True) 0 0 := by
  refine kc_met (own := RX4) (by decide) rfl rfl ?_ (Nat.le_of_ble_eq_true rfl)
  intro p e s m below meth c A X hN hin hP hD hS ls hl
  obtain ⟨hx, hb, hr, hml, hown, hts, hlk, hK, hA, hG⟩ := id X
  have hl : lv_has ls 2 [(0, .ref h0), (1, .ref aB)] := hl
  refine lv_aload_n hx hb dX4_init_0 rfl (lv_at hl 0 rfl) ?_
  refine kc_obj (rest := []) X hl.1 wo_X4_3 w_oi w_oc (Nat.le_of_ble_eq_true rfl) (Nat.le_of_ble_eq_true rfl) dX4_init_1 ?_
  refine lv_aload_n hx hb dX4_init_4 rfl (lv_at hl 0 rfl) ?_
  refine lv_aload_n hx hb dX4_init_5 rfl (lv_at hl 1 rfl) ?_
  refine va_putF (D := (dC, dI)) (ci := 2) (v := .ref aB) (ty := .array .byte) (C := RX2) (T := TX2) (N := 15) hx hb hts i_X2 tyX2 tyX2_ok nmX2 hown hK hP hD hS 0 rfl rfl 0 (by decide) (hts _ wf_X4_9) (fun _ h9 => h9) rfl hin rfl (tyX2_ok 0 (by decide)) rfl rfl (Nat.le_of_ble_eq_true rfl) dX4_init_6 (fun H locs hP hD hS => ?_)
  have hP : va_P (dC, dI) classes ([(h0, .inr (2, (.ref aB :: .int 0 :: .int 0 :: .int 0 :: .int 0 :: .int 0 :: .int 0 :: .int 0 :: .long 0 :: .int 0 :: .int 0 :: .null :: .null :: .int 0 :: .null :: [])))]) H := hP
  have hD : va_D A ([(h0, .inr (2, (.ref aB :: .int 0 :: .int 0 :: .int 0 :: .int 0 :: .int 0 :: .int 0 :: .int 0 :: .long 0 :: .int 0 :: .int 0 :: .null :: .null :: .int 0 :: .null :: [])))]) := hD
  exact kc_ret X hP hD hS dX4_init_9 (fun _ _ => 0) rfl trivial
set_option maxHeartbeats 4000000 in
set_option maxRecDepth 20000 in
theorem kX8_init {h0 : Nat} {aB : Nat} : kc_M l dC dI ca yX8_init cX8_init 2 { frames := 2, cells := 0, slots := 0, locals := 41 } [.ref h0, .ref aB] [(h0, .inr (8, (.null :: .int 0 :: .int 0 :: .int 0 :: .int 0 :: .int 0 :: .int 0 :: .int 0 :: .long 0 :: .int 0 :: .int 0 :: .null :: .int 0 :: [])))] (fun q => w8 ca (q 0) (.ref aB) (.null) z0) (fun q => q 0 0 = h0) 0 0 := by
  refine kc_met (own := RX8) (by decide) rfl rfl ?_ (Nat.le_of_ble_eq_true rfl)
  intro p e s m below meth c A X hN hin hP hD hS ls hl
  obtain ⟨hx, hb, hr, hml, hown, hts, hlk, hK, hA, hG⟩ := id X
  have hl : lv_has ls 2 [(0, .ref h0), (1, .ref aB)] := hl
  refine lv_aload_n hx hb dX8_init_0 rfl (lv_at hl 0 rfl) ?_
  refine lv_aload_n hx hb dX8_init_1 rfl (lv_at hl 1 rfl) ?_
  refine kc_call false (wr := []) (wc := [(h0, .inr (8, (.null :: .int 0 :: .int 0 :: .int 0 :: .int 0 :: .int 0 :: .int 0 :: .int 0 :: .long 0 :: .int 0 :: .int 0 :: .null :: .int 0 :: [])))]) (As := [.ref aB]) (rest := []) (b := h0) X hN hP hD hS (kX4_initT) okX4_init wl_X8_3 wi_X4_init rfl rfl rfl ⟨(Nat.le_of_ble_eq_true rfl), (Nat.le_of_ble_eq_true rfl)⟩ rfl hl.1 (Nat.le_of_ble_eq_true rfl) ⟨(Nat.le_of_ble_eq_true rfl), (Nat.le_of_ble_eq_true rfl)⟩ dX8_init_2 (fun qa1 H locs hq2 hP2 hD2 hS2 => ?_)
  have hP := hP2
  have hD := hD2
  have hS := hS2
  have hP : va_P (dC, dI) classes ([(h0, .inr (8, (.ref aB :: .int 0 :: .int 0 :: .int 0 :: .int 0 :: .int 0 :: .int 0 :: .int 0 :: .long 0 :: .int 0 :: .int 0 :: .null :: .int 0 :: [])))]) H := hP
  have hD : va_D A ([(h0, .inr (8, (.ref aB :: .int 0 :: .int 0 :: .int 0 :: .int 0 :: .int 0 :: .int 0 :: .int 0 :: .long 0 :: .int 0 :: .int 0 :: .null :: .int 0 :: [])))]) := hD
  exact kc_ret X hP hD hS dX8_init_5 (fun _ i => h0) rfl rfl
set_option maxHeartbeats 4000000 in
set_option maxRecDepth 20000 in
theorem kX2_init {h0 : Nat} {aB : Nat} : kc_M l dC dI ca yX2_init cX2_init 2 { frames := 2, cells := 1, slots := 3, locals := 41 } [.ref h0, .ref aB] [(h0, .inr (2, (.null :: .int 0 :: .int 0 :: .int 0 :: .int 0 :: .int 0 :: .int 0 :: .int 0 :: .long 0 :: .int 0 :: .int 0 :: .null :: .null :: .int 0 :: .null :: [])))] (fun q => w2 ca (q 0) (.ref aB) (.null) (.null) z0) (fun q => q 0 0 = h0) 1 3 := by
  refine kc_met (own := RX2) (by decide) rfl rfl ?_ (Nat.le_of_ble_eq_true rfl)
  intro p e s m below meth c A X hN hin hP hD hS ls hl
  obtain ⟨hx, hb, hr, hml, hown, hts, hlk, hK, hA, hG⟩ := id X
  have hl : lv_has ls 2 [(0, .ref h0), (1, .ref aB)] := hl
  refine lv_aload_n hx hb dX2_init_0 rfl (lv_at hl 0 rfl) ?_
  refine lv_aload_n hx hb dX2_init_1 rfl (lv_at hl 1 rfl) ?_
  refine kc_call false (wr := []) (wc := [(h0, .inr (2, (.null :: .int 0 :: .int 0 :: .int 0 :: .int 0 :: .int 0 :: .int 0 :: .int 0 :: .long 0 :: .int 0 :: .int 0 :: .null :: .null :: .int 0 :: .null :: [])))]) (As := [.ref aB]) (rest := []) (b := h0) X hN hP hD hS (kX4_initE) okX4_init wl_X2_3 wi_X4_init rfl rfl rfl ⟨(Nat.le_of_ble_eq_true rfl), (Nat.le_of_ble_eq_true rfl)⟩ rfl hl.1 (Nat.le_of_ble_eq_true rfl) ⟨(Nat.le_of_ble_eq_true rfl), (Nat.le_of_ble_eq_true rfl)⟩ dX2_init_2 (fun qa1 H locs hq2 hP2 hD2 hS2 => ?_)
  have hP := hP2
  have hD := hD2
  have hS := hS2
  have hP : va_P (dC, dI) classes ([(h0, .inr (2, (.ref aB :: .int 0 :: .int 0 :: .int 0 :: .int 0 :: .int 0 :: .int 0 :: .int 0 :: .long 0 :: .int 0 :: .int 0 :: .null :: .null :: .int 0 :: .null :: [])))]) H := hP
  have hD : va_D A ([(h0, .inr (2, (.ref aB :: .int 0 :: .int 0 :: .int 0 :: .int 0 :: .int 0 :: .int 0 :: .int 0 :: .long 0 :: .int 0 :: .int 0 :: .null :: .null :: .int 0 :: .null :: [])))]) := hD
  refine lv_aload_n hx hb dX2_init_5 rfl (lv_at hl 0 rfl) ?_
  refine lv_iconst (v := (3 : Int32)) hx hb dX2_init_6 (by decide) ?_
  refine kc_newI (rest := [.ref h0]) X hP hD hS (by decide) (by decide : ((3 : Int32)).toNatClampNeg = 3) (by decide) (Nat.le_of_ble_eq_true rfl) (Nat.le_of_ble_eq_true rfl) dX2_init_7 (fun q3 H hP hD hS => ?_)
  refine va_putF (D := (dC, dI)) (ci := 2) (v := .ref q3) (ty := .array .int) (C := RX2) (T := TX2) (N := 15) hx hb hts i_X2 tyX2 tyX2_ok nmX2 hown hK hP hD hS 0 rfl rfl 14 (by decide) (hts _ wf_X2_11) (fun _ h9 => h9) rfl hin rfl (tyX2_ok 14 (by decide)) rfl rfl (Nat.le_of_ble_eq_true rfl) dX2_init_9 (fun H locs hP hD hS => ?_)
  have hP : va_P (dC, dI) classes ([(h0, .inr (2, (.ref aB :: .int 0 :: .int 0 :: .int 0 :: .int 0 :: .int 0 :: .int 0 :: .int 0 :: .long 0 :: .int 0 :: .int 0 :: .null :: .null :: .int 0 :: .ref q3 :: [])))] ++ [(q3, .inl (ca 1, 3, .inl (fun _ => 0)))]) H := hP
  have hD : va_D A ([(h0, .inr (2, (.ref aB :: .int 0 :: .int 0 :: .int 0 :: .int 0 :: .int 0 :: .int 0 :: .int 0 :: .long 0 :: .int 0 :: .int 0 :: .null :: .null :: .int 0 :: .ref q3 :: [])))] ++ [(q3, .inl (ca 1, 3, .inl (fun _ => 0)))]) := hD
  exact kc_ret X hP hD hS dX2_init_12 (fun _ i => if i = 0 then h0 else q3) rfl rfl
set_option maxHeartbeats 4000000 in
set_option maxRecDepth 20000 in
theorem kX6_init {h0 : Nat} : kc_M l dC dI ca yX6_init cX6_init 1 { frames := 2, cells := 17, slots := 421, locals := 40 } [.ref h0] [(h0, .inr (6, (.null :: .null :: [])))] (fun q => w6 ca (q 0) (.ref (q 1 0)) (.ref (q 2 0)) z0 ++ w7 ca (q 1) (si z0 0 4) ++ w1 ca (q 2) z0) (fun q => q 0 0 = h0) 17 421 := by
  refine kc_met (own := RX6) (by decide) rfl rfl ?_ (Nat.le_of_ble_eq_true rfl)
  intro p e s m below meth c A X hN hin hP hD hS ls hl
  obtain ⟨hx, hb, hr, hml, hown, hts, hlk, hK, hA, hG⟩ := id X
  have hl : lv_has ls 1 [(0, .ref h0)] := hl
  refine lv_aload_n hx hb dX6_init_0 rfl (lv_at hl 0 rfl) ?_
  refine kc_obj (rest := []) X hl.1 wo_X6_1 w_oi w_oc (Nat.le_of_ble_eq_true rfl) (Nat.le_of_ble_eq_true rfl) dX6_init_1 ?_
  refine lv_aload_n hx hb dX6_init_4 rfl (lv_at hl 0 rfl) ?_
  refine va_new (ci := 7) (fs := (.int 0 :: .int 0 :: .null :: .null :: .int 0 :: .null :: .null :: .int 0 :: .int 0 :: .null :: .null :: .null :: .int 0 :: .int 0 :: .null :: .null :: .int 0 :: .null :: [])) (C := RX7) (T := TX7) (N := 18) hx hb hts i_X7 tyX7 tyX7_ok hown (hts _ wk_cl_X6_7) (hts _ wk_in_X7) (hts _ wn_X7) hK hP hD hS hA rfl kd_X7 (Nat.le_of_ble_eq_true rfl) (Nat.le_of_ble_eq_true rfl) dX6_init_5 (fun q1 H hP hD hS => ?_)
  refine lv_dup hx hb dX6_init_8 rfl ?_
  refine kc_call true (wr := [(h0, .inr (6, (.null :: .null :: [])))]) (wc := [(q1, .inr (7, (.int 0 :: .int 0 :: .null :: .null :: .int 0 :: .null :: .null :: .int 0 :: .int 0 :: .null :: .null :: .null :: .int 0 :: .int 0 :: .null :: .null :: .int 0 :: .null :: [])))]) (As := []) (rest := [.ref q1, .ref h0]) (b := q1) X hN hP hD hS (kX7_init) okX7_init hN.2.2.1 wi_X7_init rfl rfl rfl ⟨(Nat.le_of_ble_eq_true rfl), (Nat.le_of_ble_eq_true rfl)⟩ rfl hl.1 (Nat.le_of_ble_eq_true rfl) ⟨(Nat.le_of_ble_eq_true rfl), (Nat.le_of_ble_eq_true rfl)⟩ dX6_init_9 (fun qa2 H locs hq3 hP2 hD2 hS2 => ?_)
  subst hq3
  have hP : va_P (dC, dI) classes ([(h0, .inr (6, (.null :: .null :: [])))] ++ w7 ca (qa2 0) (si z0 0 4)) H := hP2
  have hD : va_D A ([(h0, .inr (6, (.null :: .null :: [])))] ++ w7 ca (qa2 0) (si z0 0 4)) := hD2
  have hS := hS2
  refine va_putF (D := (dC, dI)) (ci := 6) (v := .ref (qa2 0 0)) (ty := .object "TalkChutes$Table") (C := RX6) (T := TX6) (N := 2) hx hb hts i_X6 tyX6 tyX6_ok nmX6 hown hK hP hD hS 0 rfl rfl 0 (by decide) (hts _ wf_X6_10) (fun _ h9 => h9) rfl hin rfl (tyX6_ok 0 (by decide)) rfl rfl (Nat.le_of_ble_eq_true rfl) dX6_init_12 (fun H locs hP hD hS => ?_)
  have hP : va_P (dC, dI) classes ([(h0, .inr (6, (.ref (qa2 0 0) :: .null :: [])))] ++ w7 ca (qa2 0) (si z0 0 4)) H := hP
  have hD : va_D A ([(h0, .inr (6, (.ref (qa2 0 0) :: .null :: [])))] ++ w7 ca (qa2 0) (si z0 0 4)) := hD
  refine lv_aload_n hx hb dX6_init_15 rfl (lv_at hl 0 rfl) ?_
  refine va_new (ci := 1) (fs := (.int 0 :: .int 0 :: .int 0 :: .null :: .null :: .null :: .null :: .null :: [])) (C := RX1) (T := TX1) (N := 8) hx hb hts i_X1 tyX1 tyX1_ok hown (hts _ wk_cl_X6_16) (hts _ wk_in_X1) (hts _ wn_X1) hK hP hD hS hA rfl kd_X1 (Nat.le_of_ble_eq_true rfl) (Nat.le_of_ble_eq_true rfl) dX6_init_16 (fun q4 H hP hD hS => ?_)
  refine lv_dup hx hb dX6_init_19 rfl ?_
  refine kc_call true (wr := [(h0, .inr (6, (.ref (qa2 0 0) :: .null :: [])))] ++ w7 ca (qa2 0) (si z0 0 4)) (wc := [(q4, .inr (1, (.int 0 :: .int 0 :: .int 0 :: .null :: .null :: .null :: .null :: .null :: [])))]) (As := []) (rest := [.ref q4, .ref h0]) (b := q4) X hN hP hD hS (kX1_init) okX1_init hN.2.2.2.1 wi_X1_init rfl rfl rfl ⟨(Nat.le_of_ble_eq_true rfl), (Nat.le_of_ble_eq_true rfl)⟩ rfl hl.1 (Nat.le_of_ble_eq_true rfl) ⟨(Nat.le_of_ble_eq_true rfl), (Nat.le_of_ble_eq_true rfl)⟩ dX6_init_20 (fun qa5 H locs hq6 hP2 hD2 hS2 => ?_)
  subst hq6
  have hP : va_P (dC, dI) classes ([(h0, .inr (6, (.ref (qa2 0 0) :: .null :: [])))] ++ w7 ca (qa2 0) (si z0 0 4) ++ w1 ca (qa5 0) z0) H := hP2
  have hD : va_D A ([(h0, .inr (6, (.ref (qa2 0 0) :: .null :: [])))] ++ w7 ca (qa2 0) (si z0 0 4) ++ w1 ca (qa5 0) z0) := hD2
  have hS := hS2
  refine va_putF (D := (dC, dI)) (ci := 6) (v := .ref (qa5 0 0)) (ty := .object "TalkChutes$Evenings") (C := RX6) (T := TX6) (N := 2) hx hb hts i_X6 tyX6 tyX6_ok nmX6 hown hK hP hD hS 0 rfl rfl 1 (by decide) (hts _ wf_X6_19) (fun _ h9 => h9) rfl hin rfl (tyX6_ok 1 (by decide)) rfl rfl (Nat.le_of_ble_eq_true rfl) dX6_init_23 (fun H locs hP hD hS => ?_)
  have hP : va_P (dC, dI) classes ([(h0, .inr (6, (.ref (qa2 0 0) :: .ref (qa5 0 0) :: [])))] ++ w7 ca (qa2 0) (si z0 0 4) ++ w1 ca (qa5 0) z0) H := hP
  have hD : va_D A ([(h0, .inr (6, (.ref (qa2 0 0) :: .ref (qa5 0 0) :: [])))] ++ w7 ca (qa2 0) (si z0 0 4) ++ w1 ca (qa5 0) z0) := hD
  exact kc_ret X hP hD hS dX6_init_26 (fun j i => if j = 0 then h0 else if j = 1 then qa2 0 i else qa5 0 i) rfl rfl
end G
