theorem wo_X11_1 : Cond.methodLink RX11 1 objectInit ∈ lw_g := lw_m (tb_1 _ (List.mem_of_getElem? (i := 26) rfl)) rfl
theorem wk_cl_X11_9 : Cond.classLink RX11 9 RX9 ∈ lw_g := lw_m (tb_1 _ (List.mem_of_getElem? (i := 29) rfl)) rfl
theorem wk_in_X9 : Cond.instantiable RX9 3 ∈ lw_g := lw_m (tb_1 _ (List.mem_of_getElem? (i := 31) rfl)) rfl
theorem wk_cl_X11_20 : Cond.classLink RX11 20 RX8 ∈ lw_g := lw_m (tb_1 _ (List.mem_of_getElem? (i := 50) rfl)) rfl
theorem wk_in_X8 : Cond.instantiable RX8 13 ∈ lw_g := lw_m (tb_1 _ (List.mem_of_getElem? (i := 51) rfl)) rfl
theorem wk_cl_X11_29 : Cond.classLink RX11 29 RX2 ∈ lw_g := lw_m (tb_1 _ (List.mem_of_getElem? (i := 118) rfl)) rfl
theorem wk_in_X2 : Cond.instantiable RX2 15 ∈ lw_g := lw_m (tb_1 _ (List.mem_of_getElem? (i := 119) rfl)) rfl
theorem wk_cl_X11_36 : Cond.classLink RX11 36 RX6 ∈ lw_g := lw_m (tb_1 _ (List.mem_of_getElem? (i := 149) rfl)) rfl
theorem wk_in_X6 : Cond.instantiable RX6 2 ∈ lw_g := lw_m (tb_1 _ (List.mem_of_getElem? (i := 150) rfl)) rfl
theorem wk_cl_X11_50 : Cond.classLink RX11 50 RX0 ∈ lw_g := lw_m (tb_2 _ (List.mem_of_getElem? (i := 81) rfl)) rfl
theorem wk_in_X0 : Cond.instantiable RX0 10 ∈ lw_g := lw_m (tb_2 _ (List.mem_of_getElem? (i := 82) rfl)) rfl
theorem wk_cl_X11_60 : Cond.classLink RX11 60 RX10 ∈ lw_g := lw_m (tb_2 _ (List.mem_of_getElem? (i := 124) rfl)) rfl
theorem wk_in_X10 : Cond.instantiable RX10 4 ∈ lw_g := lw_m (tb_2 _ (List.mem_of_getElem? (i := 125) rfl)) rfl
theorem wk_cl_X11_67 : Cond.classLink RX11 67 RX3 ∈ lw_g := lw_m (tb_2 _ (List.mem_of_getElem? (i := 143) rfl)) rfl
theorem wk_in_X3 : Cond.instantiable RX3 6 ∈ lw_g := lw_m (tb_2 _ (List.mem_of_getElem? (i := 144) rfl)) rfl
theorem wk_cl_X11_74 : Cond.classLink RX11 74 RX5 ∈ lw_g := lw_m (tb_2 _ (List.mem_of_getElem? (i := 169) rfl)) rfl
theorem wk_in_X5 : Cond.instantiable RX5 4 ∈ lw_g := lw_m (tb_2 _ (List.mem_of_getElem? (i := 170) rfl)) rfl
section G
variable {p : Program} {l : Launch} {e : Env} {s : State} {m : MethodId} {args : Array Value} {below : List Frame} {meth : Method} {c : Code} {dC : Nat → ClassId} {dI : Nat → Nat → Nat} {ca : Nat → ClassId} {A : Nat → Prop} {Q : State → Prop}
def s11_0 : ms_T := (si (si (sl z0 2 (1 : Int64)) 8 (-1 : Int32)) 9 (-1 : Int32))
def rm11 : Room := { frames := 3, cells := 120, slots := 3556, locals := 62 }
def kj_N (p : Program) (l : Launch) (e : Env) (s : State) (m : MethodId) (args : Array Value) (below : List Frame) (meth : Method) (c : Code) (Q : State → Prop) (dC : Nat → ClassId) (dI : Nat → Nat → Nat) (ca : Nat → ClassId) (A : Nat → Prop) (cells slots h0 : Nat) (i : Int32) (pc : Nat) (ws : va_W) : Prop :=
  ∀ (H : Heap) (locs : List Loc) (ls : Array Slot), va_P (dC, dI) classes ws H → va_D A ws → va_S A s.heap H locs → lv_has ls 2 [(1, .int i), (0, .ref h0)] → W p l e rm11 s m args below meth c H locs cells slots Q (F0 m pc ls [])
theorem kj_pc {ws : va_W} {n : va_W} {x : Nat × va_E} {D : va_G} {H : Heap} (h : va_P D classes (x :: (ws ++ n)) H) : va_P D classes (x :: (n ++ ws)) H := tc_Pm (List.Perm.cons _ List.perm_append_comm) h
theorem kj_dc {ws : va_W} {n : va_W} {x : Nat × va_E} (h : va_D A (x :: (ws ++ n))) : va_D A (x :: (n ++ ws)) := tc_Dm (List.Perm.cons _ List.perm_append_comm) h
theorem kj_pd {ws : va_W} {n : va_W} {x y : Nat × va_E} {D : va_G} {H : Heap} (h : va_P D classes (x :: y :: (ws ++ n)) H) : va_P D classes (x :: y :: (n ++ ws)) H := tc_Pm (List.Perm.cons _ (List.Perm.cons _ List.perm_append_comm)) h
theorem kj_dd {ws : va_W} {n : va_W} {x y : Nat × va_E} (h : va_D A (x :: y :: (ws ++ n))) : va_D A (x :: y :: (n ++ ws)) := tc_Dm (List.Perm.cons _ (List.Perm.cons _ List.perm_append_comm)) h
theorem kj_tray0 {f0 f1 f2 f4 f5 f6 f7 f8 f9 f10 f11 f12 f13 f14 f15 f16 f17 f18 f19 : Value} {h0 q1 : Nat} {f : Nat → Option Nat} {wr : va_W} (X : tc_X dC dI ca A RX11 cX11_init 2 none p s m args meth c) (hN : kc_N s) (hin : meth.name = "<init>") (K : ∀ qa : Nat → Nat → Nat, kj_N p l e s m args below meth c Q dC dI ca A 3 67 h0 (1 : Int32) 14 ((h0, .inr (11, (f0 :: f1 :: f2 :: .ref q1 :: f4 :: f5 :: f6 :: f7 :: f8 :: f9 :: f10 :: f11 :: f12 :: f13 :: f14 :: f15 :: f16 :: f17 :: f18 :: f19 :: []))) :: (q1, .inl (ca 4, 4, .inr (.inr (.inr (.inr (va_up f 0 (some (qa 0 0)))))))) :: (w9 ca (qa 0) (si z0 2 (-1)) ++ wr))) : kj_N p l e s m args below meth c Q dC dI ca A 1 4 h0 (0 : Int32) 14 ((h0, .inr (11, (f0 :: f1 :: f2 :: .ref q1 :: f4 :: f5 :: f6 :: f7 :: f8 :: f9 :: f10 :: f11 :: f12 :: f13 :: f14 :: f15 :: f16 :: f17 :: f18 :: f19 :: []))) :: (q1, .inl (ca 4, 4, .inr (.inr (.inr (.inr f))))) :: wr) := by
  intro H locs ls hP hD hS hl
  obtain ⟨hx, hb, hr, hml, hown, hts, hlk, hK, hA, hG⟩ := id X
  refine lv_iload_n hx hb dX11_init_14 rfl (lv_at hl 0 rfl) ?_
  refine lv_iconst (v := (4 : Int32)) hx hb dX11_init_15 (by decide) ?_
  refine lv_icmp_ge (tgt := 38) hx hb dX11_init_16 (by decide) (fun h => absurd h (by decide)) (fun _ => ?_)
  refine lv_aload_n hx hb dX11_init_19 rfl (lv_at hl 1 rfl) ?_
  refine va_get (D := (dC, dI)) (ci := 11) (v := .ref q1) (C := RX11) (T := TX11) (N := 20) hx hb hts i_X11 hown hK hP 0 rfl rfl 3 (by decide) (hts _ wf_X11_11) (fun _ h9 => h9) rfl dX11_init_20 ?_
  refine lv_iload_n hx hb dX11_init_23 rfl (lv_at hl 0 rfl) ?_
  refine va_new (ci := 9) (fs := (.null :: .int 0 :: .int 0 :: [])) (C := RX9) (T := TX9) (N := 3) hx hb hts i_X9 tyX9 tyX9_ok hown (hts _ wk_cl_X11_9) (hts _ wk_in_X9) (hts _ wn_X9) hK hP hD hS hA rfl kd_X9 (Nat.le_of_ble_eq_true rfl) (Nat.le_of_ble_eq_true rfl) dX11_init_24 (fun qn H hP hD hS => ?_)
  refine lv_dup hx hb dX11_init_27 rfl ?_
  refine kc_call true (wr := ((h0, .inr (11, (f0 :: f1 :: f2 :: .ref q1 :: f4 :: f5 :: f6 :: f7 :: f8 :: f9 :: f10 :: f11 :: f12 :: f13 :: f14 :: f15 :: f16 :: f17 :: f18 :: f19 :: []))) :: (q1, .inl (ca 4, 4, .inr (.inr (.inr (.inr f))))) :: wr)) (wc := [(qn, .inr (9, (.null :: .int 0 :: .int 0 :: [])))]) (As := []) (rest := [.ref qn, .int (0 : Int32), .ref q1]) (b := qn) X hN hP hD hS (kX9_init) okX9_init hN.1 wi_X9_init rfl rfl rfl ⟨(Nat.le_of_ble_eq_true rfl), (Nat.le_of_ble_eq_true rfl)⟩ rfl hl.1 (Nat.le_of_ble_eq_true rfl) ⟨(Nat.le_of_ble_eq_true rfl), (Nat.le_of_ble_eq_true rfl)⟩ dX11_init_28 (fun qa H locs hq hP2 hD2 hS2 => ?_)
  subst hq
  have hP : va_P (dC, dI) classes ((h0, .inr (11, (f0 :: f1 :: f2 :: .ref q1 :: f4 :: f5 :: f6 :: f7 :: f8 :: f9 :: f10 :: f11 :: f12 :: f13 :: f14 :: f15 :: f16 :: f17 :: f18 :: f19 :: []))) :: (q1, .inl (ca 4, 4, .inr (.inr (.inr (.inr f))))) :: (wr ++ w9 ca (qa 0) (si z0 2 (-1)))) H := hP2
  have hD : va_D A ((h0, .inr (11, (f0 :: f1 :: f2 :: .ref q1 :: f4 :: f5 :: f6 :: f7 :: f8 :: f9 :: f10 :: f11 :: f12 :: f13 :: f14 :: f15 :: f16 :: f17 :: f18 :: f19 :: []))) :: (q1, .inl (ca 4, 4, .inr (.inr (.inr (.inr f))))) :: (wr ++ w9 ca (qa 0) (si z0 2 (-1)))) := hD2
  have hS := hS2
  have hP := kj_pd hP
  have hD := kj_dd hD
  refine va_astq hx hb hK hP hD hS 1 4 2 9 rfl rfl rfl rfl (inb_vp (by decide)) dX11_init_31 (fun H locs hP hD hS => ?_)
  have hP : va_P (dC, dI) classes ((h0, .inr (11, (f0 :: f1 :: f2 :: .ref q1 :: f4 :: f5 :: f6 :: f7 :: f8 :: f9 :: f10 :: f11 :: f12 :: f13 :: f14 :: f15 :: f16 :: f17 :: f18 :: f19 :: []))) :: (q1, .inl (ca 4, 4, .inr (.inr (.inr (.inr (va_up f ((0 : Int32)).toNatClampNeg (some (qa 0 0)))))))) :: (w9 ca (qa 0) (si z0 2 (-1)) ++ wr)) H := hP
  have hD : va_D A ((h0, .inr (11, (f0 :: f1 :: f2 :: .ref q1 :: f4 :: f5 :: f6 :: f7 :: f8 :: f9 :: f10 :: f11 :: f12 :: f13 :: f14 :: f15 :: f16 :: f17 :: f18 :: f19 :: []))) :: (q1, .inl (ca 4, 4, .inr (.inr (.inr (.inr (va_up f ((0 : Int32)).toNatClampNeg (some (qa 0 0)))))))) :: (w9 ca (qa 0) (si z0 2 (-1)) ++ wr)) := hD
  have e0 : ((0 : Int32)).toNatClampNeg = 0 := by decide
  rw [e0] at hP hD
  refine lv_iinc (v := (1 : Int32)) (lv' := [(1, .int (1 : Int32)), (0, .ref h0)]) hx hb dX11_init_32 hl (k := 0) rfl (by decide) (by decide) rfl (fun ls hl => ?_)
  refine lv_goto (tgt := 14) hx hb dX11_init_35 (by decide) ?_
  exact K qa H locs ls hP hD hS hl
theorem kj_tray1 {f0 f1 f2 f4 f5 f6 f7 f8 f9 f10 f11 f12 f13 f14 f15 f16 f17 f18 f19 : Value} {h0 q1 : Nat} {f : Nat → Option Nat} {wr : va_W} (X : tc_X dC dI ca A RX11 cX11_init 2 none p s m args meth c) (hN : kc_N s) (hin : meth.name = "<init>") (K : ∀ qa : Nat → Nat → Nat, kj_N p l e s m args below meth c Q dC dI ca A 5 130 h0 (2 : Int32) 14 ((h0, .inr (11, (f0 :: f1 :: f2 :: .ref q1 :: f4 :: f5 :: f6 :: f7 :: f8 :: f9 :: f10 :: f11 :: f12 :: f13 :: f14 :: f15 :: f16 :: f17 :: f18 :: f19 :: []))) :: (q1, .inl (ca 4, 4, .inr (.inr (.inr (.inr (va_up f 1 (some (qa 0 0)))))))) :: (w9 ca (qa 0) (si z0 2 (-1)) ++ wr))) : kj_N p l e s m args below meth c Q dC dI ca A 3 67 h0 (1 : Int32) 14 ((h0, .inr (11, (f0 :: f1 :: f2 :: .ref q1 :: f4 :: f5 :: f6 :: f7 :: f8 :: f9 :: f10 :: f11 :: f12 :: f13 :: f14 :: f15 :: f16 :: f17 :: f18 :: f19 :: []))) :: (q1, .inl (ca 4, 4, .inr (.inr (.inr (.inr f))))) :: wr) := by
  intro H locs ls hP hD hS hl
  obtain ⟨hx, hb, hr, hml, hown, hts, hlk, hK, hA, hG⟩ := id X
  refine lv_iload_n hx hb dX11_init_14 rfl (lv_at hl 0 rfl) ?_
  refine lv_iconst (v := (4 : Int32)) hx hb dX11_init_15 (by decide) ?_
  refine lv_icmp_ge (tgt := 38) hx hb dX11_init_16 (by decide) (fun h => absurd h (by decide)) (fun _ => ?_)
  refine lv_aload_n hx hb dX11_init_19 rfl (lv_at hl 1 rfl) ?_
  refine va_get (D := (dC, dI)) (ci := 11) (v := .ref q1) (C := RX11) (T := TX11) (N := 20) hx hb hts i_X11 hown hK hP 0 rfl rfl 3 (by decide) (hts _ wf_X11_11) (fun _ h9 => h9) rfl dX11_init_20 ?_
  refine lv_iload_n hx hb dX11_init_23 rfl (lv_at hl 0 rfl) ?_
  refine va_new (ci := 9) (fs := (.null :: .int 0 :: .int 0 :: [])) (C := RX9) (T := TX9) (N := 3) hx hb hts i_X9 tyX9 tyX9_ok hown (hts _ wk_cl_X11_9) (hts _ wk_in_X9) (hts _ wn_X9) hK hP hD hS hA rfl kd_X9 (Nat.le_of_ble_eq_true rfl) (Nat.le_of_ble_eq_true rfl) dX11_init_24 (fun qn H hP hD hS => ?_)
  refine lv_dup hx hb dX11_init_27 rfl ?_
  refine kc_call true (wr := ((h0, .inr (11, (f0 :: f1 :: f2 :: .ref q1 :: f4 :: f5 :: f6 :: f7 :: f8 :: f9 :: f10 :: f11 :: f12 :: f13 :: f14 :: f15 :: f16 :: f17 :: f18 :: f19 :: []))) :: (q1, .inl (ca 4, 4, .inr (.inr (.inr (.inr f))))) :: wr)) (wc := [(qn, .inr (9, (.null :: .int 0 :: .int 0 :: [])))]) (As := []) (rest := [.ref qn, .int (1 : Int32), .ref q1]) (b := qn) X hN hP hD hS (kX9_init) okX9_init hN.1 wi_X9_init rfl rfl rfl ⟨(Nat.le_of_ble_eq_true rfl), (Nat.le_of_ble_eq_true rfl)⟩ rfl hl.1 (Nat.le_of_ble_eq_true rfl) ⟨(Nat.le_of_ble_eq_true rfl), (Nat.le_of_ble_eq_true rfl)⟩ dX11_init_28 (fun qa H locs hq hP2 hD2 hS2 => ?_)
  subst hq
  have hP : va_P (dC, dI) classes ((h0, .inr (11, (f0 :: f1 :: f2 :: .ref q1 :: f4 :: f5 :: f6 :: f7 :: f8 :: f9 :: f10 :: f11 :: f12 :: f13 :: f14 :: f15 :: f16 :: f17 :: f18 :: f19 :: []))) :: (q1, .inl (ca 4, 4, .inr (.inr (.inr (.inr f))))) :: (wr ++ w9 ca (qa 0) (si z0 2 (-1)))) H := hP2
  have hD : va_D A ((h0, .inr (11, (f0 :: f1 :: f2 :: .ref q1 :: f4 :: f5 :: f6 :: f7 :: f8 :: f9 :: f10 :: f11 :: f12 :: f13 :: f14 :: f15 :: f16 :: f17 :: f18 :: f19 :: []))) :: (q1, .inl (ca 4, 4, .inr (.inr (.inr (.inr f))))) :: (wr ++ w9 ca (qa 0) (si z0 2 (-1)))) := hD2
  have hS := hS2
  have hP := kj_pd hP
  have hD := kj_dd hD
  refine va_astq hx hb hK hP hD hS 1 4 2 9 rfl rfl rfl rfl (inb_vp (by decide)) dX11_init_31 (fun H locs hP hD hS => ?_)
  have hP : va_P (dC, dI) classes ((h0, .inr (11, (f0 :: f1 :: f2 :: .ref q1 :: f4 :: f5 :: f6 :: f7 :: f8 :: f9 :: f10 :: f11 :: f12 :: f13 :: f14 :: f15 :: f16 :: f17 :: f18 :: f19 :: []))) :: (q1, .inl (ca 4, 4, .inr (.inr (.inr (.inr (va_up f ((1 : Int32)).toNatClampNeg (some (qa 0 0)))))))) :: (w9 ca (qa 0) (si z0 2 (-1)) ++ wr)) H := hP
  have hD : va_D A ((h0, .inr (11, (f0 :: f1 :: f2 :: .ref q1 :: f4 :: f5 :: f6 :: f7 :: f8 :: f9 :: f10 :: f11 :: f12 :: f13 :: f14 :: f15 :: f16 :: f17 :: f18 :: f19 :: []))) :: (q1, .inl (ca 4, 4, .inr (.inr (.inr (.inr (va_up f ((1 : Int32)).toNatClampNeg (some (qa 0 0)))))))) :: (w9 ca (qa 0) (si z0 2 (-1)) ++ wr)) := hD
  have e0 : ((1 : Int32)).toNatClampNeg = 1 := by decide
  rw [e0] at hP hD
  refine lv_iinc (v := (2 : Int32)) (lv' := [(1, .int (2 : Int32)), (0, .ref h0)]) hx hb dX11_init_32 hl (k := 0) rfl (by decide) (by decide) rfl (fun ls hl => ?_)
  refine lv_goto (tgt := 14) hx hb dX11_init_35 (by decide) ?_
  exact K qa H locs ls hP hD hS hl
theorem kj_tray2 {f0 f1 f2 f4 f5 f6 f7 f8 f9 f10 f11 f12 f13 f14 f15 f16 f17 f18 f19 : Value} {h0 q1 : Nat} {f : Nat → Option Nat} {wr : va_W} (X : tc_X dC dI ca A RX11 cX11_init 2 none p s m args meth c) (hN : kc_N s) (hin : meth.name = "<init>") (K : ∀ qa : Nat → Nat → Nat, kj_N p l e s m args below meth c Q dC dI ca A 7 193 h0 (3 : Int32) 14 ((h0, .inr (11, (f0 :: f1 :: f2 :: .ref q1 :: f4 :: f5 :: f6 :: f7 :: f8 :: f9 :: f10 :: f11 :: f12 :: f13 :: f14 :: f15 :: f16 :: f17 :: f18 :: f19 :: []))) :: (q1, .inl (ca 4, 4, .inr (.inr (.inr (.inr (va_up f 2 (some (qa 0 0)))))))) :: (w9 ca (qa 0) (si z0 2 (-1)) ++ wr))) : kj_N p l e s m args below meth c Q dC dI ca A 5 130 h0 (2 : Int32) 14 ((h0, .inr (11, (f0 :: f1 :: f2 :: .ref q1 :: f4 :: f5 :: f6 :: f7 :: f8 :: f9 :: f10 :: f11 :: f12 :: f13 :: f14 :: f15 :: f16 :: f17 :: f18 :: f19 :: []))) :: (q1, .inl (ca 4, 4, .inr (.inr (.inr (.inr f))))) :: wr) := by
  intro H locs ls hP hD hS hl
  obtain ⟨hx, hb, hr, hml, hown, hts, hlk, hK, hA, hG⟩ := id X
  refine lv_iload_n hx hb dX11_init_14 rfl (lv_at hl 0 rfl) ?_
  refine lv_iconst (v := (4 : Int32)) hx hb dX11_init_15 (by decide) ?_
  refine lv_icmp_ge (tgt := 38) hx hb dX11_init_16 (by decide) (fun h => absurd h (by decide)) (fun _ => ?_)
  refine lv_aload_n hx hb dX11_init_19 rfl (lv_at hl 1 rfl) ?_
  refine va_get (D := (dC, dI)) (ci := 11) (v := .ref q1) (C := RX11) (T := TX11) (N := 20) hx hb hts i_X11 hown hK hP 0 rfl rfl 3 (by decide) (hts _ wf_X11_11) (fun _ h9 => h9) rfl dX11_init_20 ?_
  refine lv_iload_n hx hb dX11_init_23 rfl (lv_at hl 0 rfl) ?_
  refine va_new (ci := 9) (fs := (.null :: .int 0 :: .int 0 :: [])) (C := RX9) (T := TX9) (N := 3) hx hb hts i_X9 tyX9 tyX9_ok hown (hts _ wk_cl_X11_9) (hts _ wk_in_X9) (hts _ wn_X9) hK hP hD hS hA rfl kd_X9 (Nat.le_of_ble_eq_true rfl) (Nat.le_of_ble_eq_true rfl) dX11_init_24 (fun qn H hP hD hS => ?_)
  refine lv_dup hx hb dX11_init_27 rfl ?_
  refine kc_call true (wr := ((h0, .inr (11, (f0 :: f1 :: f2 :: .ref q1 :: f4 :: f5 :: f6 :: f7 :: f8 :: f9 :: f10 :: f11 :: f12 :: f13 :: f14 :: f15 :: f16 :: f17 :: f18 :: f19 :: []))) :: (q1, .inl (ca 4, 4, .inr (.inr (.inr (.inr f))))) :: wr)) (wc := [(qn, .inr (9, (.null :: .int 0 :: .int 0 :: [])))]) (As := []) (rest := [.ref qn, .int (2 : Int32), .ref q1]) (b := qn) X hN hP hD hS (kX9_init) okX9_init hN.1 wi_X9_init rfl rfl rfl ⟨(Nat.le_of_ble_eq_true rfl), (Nat.le_of_ble_eq_true rfl)⟩ rfl hl.1 (Nat.le_of_ble_eq_true rfl) ⟨(Nat.le_of_ble_eq_true rfl), (Nat.le_of_ble_eq_true rfl)⟩ dX11_init_28 (fun qa H locs hq hP2 hD2 hS2 => ?_)
  subst hq
  have hP : va_P (dC, dI) classes ((h0, .inr (11, (f0 :: f1 :: f2 :: .ref q1 :: f4 :: f5 :: f6 :: f7 :: f8 :: f9 :: f10 :: f11 :: f12 :: f13 :: f14 :: f15 :: f16 :: f17 :: f18 :: f19 :: []))) :: (q1, .inl (ca 4, 4, .inr (.inr (.inr (.inr f))))) :: (wr ++ w9 ca (qa 0) (si z0 2 (-1)))) H := hP2
  have hD : va_D A ((h0, .inr (11, (f0 :: f1 :: f2 :: .ref q1 :: f4 :: f5 :: f6 :: f7 :: f8 :: f9 :: f10 :: f11 :: f12 :: f13 :: f14 :: f15 :: f16 :: f17 :: f18 :: f19 :: []))) :: (q1, .inl (ca 4, 4, .inr (.inr (.inr (.inr f))))) :: (wr ++ w9 ca (qa 0) (si z0 2 (-1)))) := hD2
  have hS := hS2
  have hP := kj_pd hP
  have hD := kj_dd hD
  refine va_astq hx hb hK hP hD hS 1 4 2 9 rfl rfl rfl rfl (inb_vp (by decide)) dX11_init_31 (fun H locs hP hD hS => ?_)
  have hP : va_P (dC, dI) classes ((h0, .inr (11, (f0 :: f1 :: f2 :: .ref q1 :: f4 :: f5 :: f6 :: f7 :: f8 :: f9 :: f10 :: f11 :: f12 :: f13 :: f14 :: f15 :: f16 :: f17 :: f18 :: f19 :: []))) :: (q1, .inl (ca 4, 4, .inr (.inr (.inr (.inr (va_up f ((2 : Int32)).toNatClampNeg (some (qa 0 0)))))))) :: (w9 ca (qa 0) (si z0 2 (-1)) ++ wr)) H := hP
  have hD : va_D A ((h0, .inr (11, (f0 :: f1 :: f2 :: .ref q1 :: f4 :: f5 :: f6 :: f7 :: f8 :: f9 :: f10 :: f11 :: f12 :: f13 :: f14 :: f15 :: f16 :: f17 :: f18 :: f19 :: []))) :: (q1, .inl (ca 4, 4, .inr (.inr (.inr (.inr (va_up f ((2 : Int32)).toNatClampNeg (some (qa 0 0)))))))) :: (w9 ca (qa 0) (si z0 2 (-1)) ++ wr)) := hD
  have e0 : ((2 : Int32)).toNatClampNeg = 2 := by decide
  rw [e0] at hP hD
  refine lv_iinc (v := (3 : Int32)) (lv' := [(1, .int (3 : Int32)), (0, .ref h0)]) hx hb dX11_init_32 hl (k := 0) rfl (by decide) (by decide) rfl (fun ls hl => ?_)
  refine lv_goto (tgt := 14) hx hb dX11_init_35 (by decide) ?_
  exact K qa H locs ls hP hD hS hl
theorem kj_tray3 {f0 f1 f2 f4 f5 f6 f7 f8 f9 f10 f11 f12 f13 f14 f15 f16 f17 f18 f19 : Value} {h0 q1 : Nat} {f : Nat → Option Nat} {wr : va_W} (X : tc_X dC dI ca A RX11 cX11_init 2 none p s m args meth c) (hN : kc_N s) (hin : meth.name = "<init>") (K : ∀ qa : Nat → Nat → Nat, kj_N p l e s m args below meth c Q dC dI ca A 9 256 h0 (4 : Int32) 14 ((h0, .inr (11, (f0 :: f1 :: f2 :: .ref q1 :: f4 :: f5 :: f6 :: f7 :: f8 :: f9 :: f10 :: f11 :: f12 :: f13 :: f14 :: f15 :: f16 :: f17 :: f18 :: f19 :: []))) :: (q1, .inl (ca 4, 4, .inr (.inr (.inr (.inr (va_up f 3 (some (qa 0 0)))))))) :: (w9 ca (qa 0) (si z0 2 (-1)) ++ wr))) : kj_N p l e s m args below meth c Q dC dI ca A 7 193 h0 (3 : Int32) 14 ((h0, .inr (11, (f0 :: f1 :: f2 :: .ref q1 :: f4 :: f5 :: f6 :: f7 :: f8 :: f9 :: f10 :: f11 :: f12 :: f13 :: f14 :: f15 :: f16 :: f17 :: f18 :: f19 :: []))) :: (q1, .inl (ca 4, 4, .inr (.inr (.inr (.inr f))))) :: wr) := by
  intro H locs ls hP hD hS hl
  obtain ⟨hx, hb, hr, hml, hown, hts, hlk, hK, hA, hG⟩ := id X
  refine lv_iload_n hx hb dX11_init_14 rfl (lv_at hl 0 rfl) ?_
  refine lv_iconst (v := (4 : Int32)) hx hb dX11_init_15 (by decide) ?_
  refine lv_icmp_ge (tgt := 38) hx hb dX11_init_16 (by decide) (fun h => absurd h (by decide)) (fun _ => ?_)
  refine lv_aload_n hx hb dX11_init_19 rfl (lv_at hl 1 rfl) ?_
  refine va_get (D := (dC, dI)) (ci := 11) (v := .ref q1) (C := RX11) (T := TX11) (N := 20) hx hb hts i_X11 hown hK hP 0 rfl rfl 3 (by decide) (hts _ wf_X11_11) (fun _ h9 => h9) rfl dX11_init_20 ?_
  refine lv_iload_n hx hb dX11_init_23 rfl (lv_at hl 0 rfl) ?_
  refine va_new (ci := 9) (fs := (.null :: .int 0 :: .int 0 :: [])) (C := RX9) (T := TX9) (N := 3) hx hb hts i_X9 tyX9 tyX9_ok hown (hts _ wk_cl_X11_9) (hts _ wk_in_X9) (hts _ wn_X9) hK hP hD hS hA rfl kd_X9 (Nat.le_of_ble_eq_true rfl) (Nat.le_of_ble_eq_true rfl) dX11_init_24 (fun qn H hP hD hS => ?_)
  refine lv_dup hx hb dX11_init_27 rfl ?_
  refine kc_call true (wr := ((h0, .inr (11, (f0 :: f1 :: f2 :: .ref q1 :: f4 :: f5 :: f6 :: f7 :: f8 :: f9 :: f10 :: f11 :: f12 :: f13 :: f14 :: f15 :: f16 :: f17 :: f18 :: f19 :: []))) :: (q1, .inl (ca 4, 4, .inr (.inr (.inr (.inr f))))) :: wr)) (wc := [(qn, .inr (9, (.null :: .int 0 :: .int 0 :: [])))]) (As := []) (rest := [.ref qn, .int (3 : Int32), .ref q1]) (b := qn) X hN hP hD hS (kX9_init) okX9_init hN.1 wi_X9_init rfl rfl rfl ⟨(Nat.le_of_ble_eq_true rfl), (Nat.le_of_ble_eq_true rfl)⟩ rfl hl.1 (Nat.le_of_ble_eq_true rfl) ⟨(Nat.le_of_ble_eq_true rfl), (Nat.le_of_ble_eq_true rfl)⟩ dX11_init_28 (fun qa H locs hq hP2 hD2 hS2 => ?_)
  subst hq
  have hP : va_P (dC, dI) classes ((h0, .inr (11, (f0 :: f1 :: f2 :: .ref q1 :: f4 :: f5 :: f6 :: f7 :: f8 :: f9 :: f10 :: f11 :: f12 :: f13 :: f14 :: f15 :: f16 :: f17 :: f18 :: f19 :: []))) :: (q1, .inl (ca 4, 4, .inr (.inr (.inr (.inr f))))) :: (wr ++ w9 ca (qa 0) (si z0 2 (-1)))) H := hP2
  have hD : va_D A ((h0, .inr (11, (f0 :: f1 :: f2 :: .ref q1 :: f4 :: f5 :: f6 :: f7 :: f8 :: f9 :: f10 :: f11 :: f12 :: f13 :: f14 :: f15 :: f16 :: f17 :: f18 :: f19 :: []))) :: (q1, .inl (ca 4, 4, .inr (.inr (.inr (.inr f))))) :: (wr ++ w9 ca (qa 0) (si z0 2 (-1)))) := hD2
  have hS := hS2
  have hP := kj_pd hP
  have hD := kj_dd hD
  refine va_astq hx hb hK hP hD hS 1 4 2 9 rfl rfl rfl rfl (inb_vp (by decide)) dX11_init_31 (fun H locs hP hD hS => ?_)
  have hP : va_P (dC, dI) classes ((h0, .inr (11, (f0 :: f1 :: f2 :: .ref q1 :: f4 :: f5 :: f6 :: f7 :: f8 :: f9 :: f10 :: f11 :: f12 :: f13 :: f14 :: f15 :: f16 :: f17 :: f18 :: f19 :: []))) :: (q1, .inl (ca 4, 4, .inr (.inr (.inr (.inr (va_up f ((3 : Int32)).toNatClampNeg (some (qa 0 0)))))))) :: (w9 ca (qa 0) (si z0 2 (-1)) ++ wr)) H := hP
  have hD : va_D A ((h0, .inr (11, (f0 :: f1 :: f2 :: .ref q1 :: f4 :: f5 :: f6 :: f7 :: f8 :: f9 :: f10 :: f11 :: f12 :: f13 :: f14 :: f15 :: f16 :: f17 :: f18 :: f19 :: []))) :: (q1, .inl (ca 4, 4, .inr (.inr (.inr (.inr (va_up f ((3 : Int32)).toNatClampNeg (some (qa 0 0)))))))) :: (w9 ca (qa 0) (si z0 2 (-1)) ++ wr)) := hD
  have e0 : ((3 : Int32)).toNatClampNeg = 3 := by decide
  rw [e0] at hP hD
  refine lv_iinc (v := (4 : Int32)) (lv' := [(1, .int (4 : Int32)), (0, .ref h0)]) hx hb dX11_init_32 hl (k := 0) rfl (by decide) (by decide) rfl (fun ls hl => ?_)
  refine lv_goto (tgt := 14) hx hb dX11_init_35 (by decide) ?_
  exact K qa H locs ls hP hD hS hl
theorem kj_trayX {h0 : Nat} {wr : va_W} (X : tc_X dC dI ca A RX11 cX11_init 2 none p s m args meth c) (hN : kc_N s) (hin : meth.name = "<init>") (K : kj_N p l e s m args below meth c Q dC dI ca A 9 256 h0 (4 : Int32) 38 (wr)) : kj_N p l e s m args below meth c Q dC dI ca A 9 256 h0 (4 : Int32) 14 (wr) := by
  intro H locs ls hP hD hS hl
  obtain ⟨hx, hb, hr, hml, hown, hts, hlk, hK, hA, hG⟩ := id X
  refine lv_iload_n hx hb dX11_init_14 rfl (lv_at hl 0 rfl) ?_
  refine lv_iconst (v := (4 : Int32)) hx hb dX11_init_15 (by decide) ?_
  refine lv_icmp_ge (tgt := 38) hx hb dX11_init_16 (by decide) (fun _ => ?_) (fun h => absurd (by decide) h)
  exact K H locs ls hP hD hS hl
theorem kj_tape {f0 f1 f2 f3 f4 f5 f6 f7 f8 f9 f10 f11 f12 f13 f14 f15 f16 f17 f18 f19 : Value} {h0 : Nat} {i : Int32} {wr : va_W} (X : tc_X dC dI ca A RX11 cX11_init 2 none p s m args meth c) (hN : kc_N s) (hin : meth.name = "<init>") (K : ∀ q14 : Nat, kj_N p l e s m args below meth c Q dC dI ca A 10 1156 h0 i 47 ((h0, .inr (11, (f0 :: f1 :: f2 :: f3 :: .ref q14 :: f5 :: f6 :: f7 :: f8 :: f9 :: f10 :: f11 :: f12 :: f13 :: f14 :: f15 :: f16 :: f17 :: f18 :: f19 :: []))) :: (q14, .inl (ca 0, 900, .inl (fun _ => 0))) :: wr)) : kj_N p l e s m args below meth c Q dC dI ca A 9 256 h0 i 38 ((h0, .inr (11, (f0 :: f1 :: f2 :: f3 :: f4 :: f5 :: f6 :: f7 :: f8 :: f9 :: f10 :: f11 :: f12 :: f13 :: f14 :: f15 :: f16 :: f17 :: f18 :: f19 :: []))) :: wr) := by
  intro H locs ls hP hD hS hl
  obtain ⟨hx, hb, hr, hml, hown, hts, hlk, hK, hA, hG⟩ := id X
  refine lv_aload_n hx hb dX11_init_38 rfl (lv_at hl 1 rfl) ?_
  refine lv_sipush (v := (900 : Int32)) hx hb dX11_init_39 (by decide) ?_
  refine kc_newB (rest := [.ref h0]) X hP hD hS (by decide) (by decide : ((900 : Int32)).toNatClampNeg = 900) (by decide) (Nat.le_of_ble_eq_true rfl) (Nat.le_of_ble_eq_true rfl) dX11_init_42 (fun q14 H hP hD hS => ?_)
  refine va_putF (D := (dC, dI)) (ci := 11) (v := .ref q14) (ty := .array .byte) (C := RX11) (T := TX11) (N := 20) hx hb hts i_X11 tyX11 tyX11_ok nmX11 hown hK hP hD hS 0 rfl rfl 4 (by decide) (hts _ wf_X11_16) (fun _ h9 => h9) rfl hin rfl (tyX11_ok 4 (by decide)) rfl rfl (Nat.le_of_ble_eq_true rfl) dX11_init_44 (fun H locs hP hD hS => ?_)
  have hP : va_P (dC, dI) classes ((h0, .inr (11, (f0 :: f1 :: f2 :: f3 :: .ref q14 :: f5 :: f6 :: f7 :: f8 :: f9 :: f10 :: f11 :: f12 :: f13 :: f14 :: f15 :: f16 :: f17 :: f18 :: f19 :: []))) :: (wr ++ [(q14, .inl (ca 0, 900, .inl (fun _ => 0)))])) H := hP
  have hD : va_D A ((h0, .inr (11, (f0 :: f1 :: f2 :: f3 :: .ref q14 :: f5 :: f6 :: f7 :: f8 :: f9 :: f10 :: f11 :: f12 :: f13 :: f14 :: f15 :: f16 :: f17 :: f18 :: f19 :: []))) :: (wr ++ [(q14, .inl (ca 0, 900, .inl (fun _ => 0)))])) := hD
  exact K q14 H locs ls (kj_pc hP) (kj_dc hD) hS hl
theorem kj_rd {f0 f1 f2 f3 f5 f6 f7 f8 f9 f10 f11 f12 f13 f14 f15 f16 f17 f18 f19 : Value} {h0 q14 : Nat} {i : Int32} {wr : va_W} (X : tc_X dC dI ca A RX11 cX11_init 2 none p s m args meth c) (hN : kc_N s) (hin : meth.name = "<init>") (K : ∀ qa : Nat → Nat → Nat, kj_N p l e s m args below meth c Q dC dI ca A 11 1169 h0 i 62 ((h0, .inr (11, (f0 :: f1 :: f2 :: f3 :: .ref q14 :: f5 :: .ref (qa 0 0) :: f7 :: f8 :: f9 :: f10 :: f11 :: f12 :: f13 :: f14 :: f15 :: f16 :: f17 :: f18 :: f19 :: []))) :: (w8 ca (qa 0) (.ref q14) (.null) z0 ++ wr))) : kj_N p l e s m args below meth c Q dC dI ca A 10 1156 h0 i 47 ((h0, .inr (11, (f0 :: f1 :: f2 :: f3 :: .ref q14 :: f5 :: f6 :: f7 :: f8 :: f9 :: f10 :: f11 :: f12 :: f13 :: f14 :: f15 :: f16 :: f17 :: f18 :: f19 :: []))) :: wr) := by
  intro H locs ls hP hD hS hl
  obtain ⟨hx, hb, hr, hml, hown, hts, hlk, hK, hA, hG⟩ := id X
  refine lv_aload_n hx hb dX11_init_47 rfl (lv_at hl 1 rfl) ?_
  refine va_new (ci := 8) (fs := (.null :: .int 0 :: .int 0 :: .int 0 :: .int 0 :: .int 0 :: .int 0 :: .int 0 :: .long 0 :: .int 0 :: .int 0 :: .null :: .int 0 :: [])) (C := RX8) (T := TX8) (N := 13) hx hb hts i_X8 tyX8 tyX8_ok hown (hts _ wk_cl_X11_20) (hts _ wk_in_X8) (hts _ wn_X8) hK hP hD hS hA rfl kd_X8 (Nat.le_of_ble_eq_true rfl) (Nat.le_of_ble_eq_true rfl) dX11_init_48 (fun qn H hP hD hS => ?_)
  refine lv_dup hx hb dX11_init_51 rfl ?_
  refine lv_aload_n hx hb dX11_init_52 rfl (lv_at hl 1 rfl) ?_
  refine va_get (D := (dC, dI)) (ci := 11) (v := .ref q14) (C := RX11) (T := TX11) (N := 20) hx hb hts i_X11 hown hK hP 0 rfl rfl 4 (by decide) (hts _ wf_X11_16) (fun _ h9 => h9) rfl dX11_init_53 ?_
  refine kc_call false (wr := ((h0, .inr (11, (f0 :: f1 :: f2 :: f3 :: .ref q14 :: f5 :: f6 :: f7 :: f8 :: f9 :: f10 :: f11 :: f12 :: f13 :: f14 :: f15 :: f16 :: f17 :: f18 :: f19 :: []))) :: wr)) (wc := [(qn, .inr (8, (.null :: .int 0 :: .int 0 :: .int 0 :: .int 0 :: .int 0 :: .int 0 :: .int 0 :: .long 0 :: .int 0 :: .int 0 :: .null :: .int 0 :: [])))]) (As := [.ref q14]) (rest := [.ref qn, .ref h0]) (b := qn) X hN hP hD hS (kX8_init) okX8_init wl_X11_22 wi_X8_init rfl rfl rfl ⟨(Nat.le_of_ble_eq_true rfl), (Nat.le_of_ble_eq_true rfl)⟩ rfl hl.1 (Nat.le_of_ble_eq_true rfl) ⟨(Nat.le_of_ble_eq_true rfl), (Nat.le_of_ble_eq_true rfl)⟩ dX11_init_56 (fun qa H locs hq hP2 hD2 hS2 => ?_)
  subst hq
  have hS := hS2
  have hP := hP2
  have hD := hD2
  refine va_putF (D := (dC, dI)) (ci := 11) (v := .ref (qa 0 0)) (ty := .object "TalkChutes$TableReader") (C := RX11) (T := TX11) (N := 20) hx hb hts i_X11 tyX11 tyX11_ok nmX11 hown hK hP hD hS 0 rfl rfl 6 (by decide) (hts _ wf_X11_25) (fun _ h9 => h9) rfl hin rfl (tyX11_ok 6 (by decide)) rfl rfl (Nat.le_of_ble_eq_true rfl) dX11_init_59 (fun H locs hP hD hS => ?_)
  have hP : va_P (dC, dI) classes ((h0, .inr (11, (f0 :: f1 :: f2 :: f3 :: .ref q14 :: f5 :: .ref (qa 0 0) :: f7 :: f8 :: f9 :: f10 :: f11 :: f12 :: f13 :: f14 :: f15 :: f16 :: f17 :: f18 :: f19 :: []))) :: (wr ++ w8 ca (qa 0) (.ref q14) (.null) z0)) H := hP
  have hD : va_D A ((h0, .inr (11, (f0 :: f1 :: f2 :: f3 :: .ref q14 :: f5 :: .ref (qa 0 0) :: f7 :: f8 :: f9 :: f10 :: f11 :: f12 :: f13 :: f14 :: f15 :: f16 :: f17 :: f18 :: f19 :: []))) :: (wr ++ w8 ca (qa 0) (.ref q14) (.null) z0)) := hD
  exact K qa H locs ls (kj_pc hP) (kj_dc hD) hS hl
theorem kj_ev {f0 f1 f2 f3 f5 f6 f7 f8 f9 f10 f11 f12 f13 f14 f15 f16 f17 f18 f19 : Value} {h0 q14 : Nat} {i : Int32} {wr : va_W} (X : tc_X dC dI ca A RX11 cX11_init 2 none p s m args meth c) (hN : kc_N s) (hin : meth.name = "<init>") (K : ∀ qa : Nat → Nat → Nat, kj_N p l e s m args below meth c Q dC dI ca A 13 1187 h0 i 77 ((h0, .inr (11, (f0 :: f1 :: f2 :: f3 :: .ref q14 :: f5 :: f6 :: .ref (qa 0 0) :: f8 :: f9 :: f10 :: f11 :: f12 :: f13 :: f14 :: f15 :: f16 :: f17 :: f18 :: f19 :: []))) :: (w2 ca (qa 0) (.ref q14) (.null) (.null) z0 ++ wr))) : kj_N p l e s m args below meth c Q dC dI ca A 11 1169 h0 i 62 ((h0, .inr (11, (f0 :: f1 :: f2 :: f3 :: .ref q14 :: f5 :: f6 :: f7 :: f8 :: f9 :: f10 :: f11 :: f12 :: f13 :: f14 :: f15 :: f16 :: f17 :: f18 :: f19 :: []))) :: wr) := by
  intro H locs ls hP hD hS hl
  obtain ⟨hx, hb, hr, hml, hown, hts, hlk, hK, hA, hG⟩ := id X
  refine lv_aload_n hx hb dX11_init_62 rfl (lv_at hl 1 rfl) ?_
  refine va_new (ci := 2) (fs := (.null :: .int 0 :: .int 0 :: .int 0 :: .int 0 :: .int 0 :: .int 0 :: .int 0 :: .long 0 :: .int 0 :: .int 0 :: .null :: .null :: .int 0 :: .null :: [])) (C := RX2) (T := TX2) (N := 15) hx hb hts i_X2 tyX2 tyX2_ok hown (hts _ wk_cl_X11_29) (hts _ wk_in_X2) (hts _ wn_X2) hK hP hD hS hA rfl kd_X2 (Nat.le_of_ble_eq_true rfl) (Nat.le_of_ble_eq_true rfl) dX11_init_63 (fun qn H hP hD hS => ?_)
  refine lv_dup hx hb dX11_init_66 rfl ?_
  refine lv_aload_n hx hb dX11_init_67 rfl (lv_at hl 1 rfl) ?_
  refine va_get (D := (dC, dI)) (ci := 11) (v := .ref q14) (C := RX11) (T := TX11) (N := 20) hx hb hts i_X11 hown hK hP 0 rfl rfl 4 (by decide) (hts _ wf_X11_16) (fun _ h9 => h9) rfl dX11_init_68 ?_
  refine kc_call false (wr := ((h0, .inr (11, (f0 :: f1 :: f2 :: f3 :: .ref q14 :: f5 :: f6 :: f7 :: f8 :: f9 :: f10 :: f11 :: f12 :: f13 :: f14 :: f15 :: f16 :: f17 :: f18 :: f19 :: []))) :: wr)) (wc := [(qn, .inr (2, (.null :: .int 0 :: .int 0 :: .int 0 :: .int 0 :: .int 0 :: .int 0 :: .int 0 :: .long 0 :: .int 0 :: .int 0 :: .null :: .null :: .int 0 :: .null :: [])))]) (As := [.ref q14]) (rest := [.ref qn, .ref h0]) (b := qn) X hN hP hD hS (kX2_init) okX2_init wl_X11_31 wi_X2_init rfl rfl rfl ⟨(Nat.le_of_ble_eq_true rfl), (Nat.le_of_ble_eq_true rfl)⟩ rfl hl.1 (Nat.le_of_ble_eq_true rfl) ⟨(Nat.le_of_ble_eq_true rfl), (Nat.le_of_ble_eq_true rfl)⟩ dX11_init_71 (fun qa H locs hq hP2 hD2 hS2 => ?_)
  subst hq
  have hS := hS2
  have hP := hP2
  have hD := hD2
  refine va_putF (D := (dC, dI)) (ci := 11) (v := .ref (qa 0 0)) (ty := .object "TalkChutes$EveningsReader") (C := RX11) (T := TX11) (N := 20) hx hb hts i_X11 tyX11 tyX11_ok nmX11 hown hK hP hD hS 0 rfl rfl 7 (by decide) (hts _ wf_X11_32) (fun _ h9 => h9) rfl hin rfl (tyX11_ok 7 (by decide)) rfl rfl (Nat.le_of_ble_eq_true rfl) dX11_init_74 (fun H locs hP hD hS => ?_)
  have hP : va_P (dC, dI) classes ((h0, .inr (11, (f0 :: f1 :: f2 :: f3 :: .ref q14 :: f5 :: f6 :: .ref (qa 0 0) :: f8 :: f9 :: f10 :: f11 :: f12 :: f13 :: f14 :: f15 :: f16 :: f17 :: f18 :: f19 :: []))) :: (wr ++ w2 ca (qa 0) (.ref q14) (.null) (.null) z0)) H := hP
  have hD : va_D A ((h0, .inr (11, (f0 :: f1 :: f2 :: f3 :: .ref q14 :: f5 :: f6 :: .ref (qa 0 0) :: f8 :: f9 :: f10 :: f11 :: f12 :: f13 :: f14 :: f15 :: f16 :: f17 :: f18 :: f19 :: []))) :: (wr ++ w2 ca (qa 0) (.ref q14) (.null) (.null) z0)) := hD
  exact K qa H locs ls (kj_pc hP) (kj_dc hD) hS hl
theorem kj_now {f0 f1 f2 f3 f4 f5 f6 f7 f8 f9 f10 f11 f12 f13 f14 f15 f16 f17 f18 f19 : Value} {h0 : Nat} {i : Int32} {wr : va_W} (X : tc_X dC dI ca A RX11 cX11_init 2 none p s m args meth c) (hN : kc_N s) (hin : meth.name = "<init>") (K : ∀ qa : Nat → Nat → Nat, kj_N p l e s m args below meth c Q dC dI ca A 31 1610 h0 i 88 ((h0, .inr (11, (f0 :: f1 :: f2 :: f3 :: f4 :: f5 :: f6 :: f7 :: f8 :: f9 :: .ref (qa 0 0) :: f11 :: f12 :: f13 :: f14 :: f15 :: f16 :: f17 :: f18 :: f19 :: []))) :: ((w6 ca (qa 0) (.ref (qa 1 0)) (.ref (qa 2 0)) z0 ++ w7 ca (qa 1) (si z0 0 4) ++ w1 ca (qa 2) z0) ++ wr))) : kj_N p l e s m args below meth c Q dC dI ca A 13 1187 h0 i 77 ((h0, .inr (11, (f0 :: f1 :: f2 :: f3 :: f4 :: f5 :: f6 :: f7 :: f8 :: f9 :: f10 :: f11 :: f12 :: f13 :: f14 :: f15 :: f16 :: f17 :: f18 :: f19 :: []))) :: wr) := by
  intro H locs ls hP hD hS hl
  obtain ⟨hx, hb, hr, hml, hown, hts, hlk, hK, hA, hG⟩ := id X
  refine lv_aload_n hx hb dX11_init_77 rfl (lv_at hl 1 rfl) ?_
  refine va_new (ci := 6) (fs := (.null :: .null :: [])) (C := RX6) (T := TX6) (N := 2) hx hb hts i_X6 tyX6 tyX6_ok hown (hts _ wk_cl_X11_36) (hts _ wk_in_X6) (hts _ wn_X6) hK hP hD hS hA rfl kd_X6 (Nat.le_of_ble_eq_true rfl) (Nat.le_of_ble_eq_true rfl) dX11_init_78 (fun qn H hP hD hS => ?_)
  refine lv_dup hx hb dX11_init_81 rfl ?_
  refine kc_call true (wr := ((h0, .inr (11, (f0 :: f1 :: f2 :: f3 :: f4 :: f5 :: f6 :: f7 :: f8 :: f9 :: f10 :: f11 :: f12 :: f13 :: f14 :: f15 :: f16 :: f17 :: f18 :: f19 :: []))) :: wr)) (wc := [(qn, .inr (6, (.null :: .null :: [])))]) (As := []) (rest := [.ref qn, .ref h0]) (b := qn) X hN hP hD hS (kX6_init) okX6_init hN.2.1 wi_X6_init rfl rfl rfl ⟨(Nat.le_of_ble_eq_true rfl), (Nat.le_of_ble_eq_true rfl)⟩ rfl hl.1 (Nat.le_of_ble_eq_true rfl) ⟨(Nat.le_of_ble_eq_true rfl), (Nat.le_of_ble_eq_true rfl)⟩ dX11_init_82 (fun qa H locs hq hP2 hD2 hS2 => ?_)
  subst hq
  have hS := hS2
  have hP := hP2
  have hD := hD2
  refine va_putF (D := (dC, dI)) (ci := 11) (v := .ref (qa 0 0)) (ty := .object "TalkChutes$State") (C := RX11) (T := TX11) (N := 20) hx hb hts i_X11 tyX11 tyX11_ok nmX11 hown hK hP hD hS 0 rfl rfl 10 (by decide) (hts _ wf_X11_39) (fun _ h9 => h9) rfl hin rfl (tyX11_ok 10 (by decide)) rfl rfl (Nat.le_of_ble_eq_true rfl) dX11_init_85 (fun H locs hP hD hS => ?_)
  have hP : va_P (dC, dI) classes ((h0, .inr (11, (f0 :: f1 :: f2 :: f3 :: f4 :: f5 :: f6 :: f7 :: f8 :: f9 :: .ref (qa 0 0) :: f11 :: f12 :: f13 :: f14 :: f15 :: f16 :: f17 :: f18 :: f19 :: []))) :: (wr ++ (w6 ca (qa 0) (.ref (qa 1 0)) (.ref (qa 2 0)) z0 ++ w7 ca (qa 1) (si z0 0 4) ++ w1 ca (qa 2) z0))) H := hP
  have hD : va_D A ((h0, .inr (11, (f0 :: f1 :: f2 :: f3 :: f4 :: f5 :: f6 :: f7 :: f8 :: f9 :: .ref (qa 0 0) :: f11 :: f12 :: f13 :: f14 :: f15 :: f16 :: f17 :: f18 :: f19 :: []))) :: (wr ++ (w6 ca (qa 0) (.ref (qa 1 0)) (.ref (qa 2 0)) z0 ++ w7 ca (qa 1) (si z0 0 4) ++ w1 ca (qa 2) z0))) := hD
  exact K qa H locs ls (kj_pc hP) (kj_dc hD) hS hl
theorem kj_spare {f0 f1 f2 f3 f4 f5 f6 f7 f8 f9 f10 f11 f12 f13 f14 f15 f16 f17 f18 f19 : Value} {h0 : Nat} {i : Int32} {wr : va_W} (X : tc_X dC dI ca A RX11 cX11_init 2 none p s m args meth c) (hN : kc_N s) (hin : meth.name = "<init>") (K : ∀ qa : Nat → Nat → Nat, kj_N p l e s m args below meth c Q dC dI ca A 49 2033 h0 i 99 ((h0, .inr (11, (f0 :: f1 :: f2 :: f3 :: f4 :: f5 :: f6 :: f7 :: f8 :: f9 :: f10 :: .ref (qa 0 0) :: f12 :: f13 :: f14 :: f15 :: f16 :: f17 :: f18 :: f19 :: []))) :: ((w6 ca (qa 0) (.ref (qa 1 0)) (.ref (qa 2 0)) z0 ++ w7 ca (qa 1) (si z0 0 4) ++ w1 ca (qa 2) z0) ++ wr))) : kj_N p l e s m args below meth c Q dC dI ca A 31 1610 h0 i 88 ((h0, .inr (11, (f0 :: f1 :: f2 :: f3 :: f4 :: f5 :: f6 :: f7 :: f8 :: f9 :: f10 :: f11 :: f12 :: f13 :: f14 :: f15 :: f16 :: f17 :: f18 :: f19 :: []))) :: wr) := by
  intro H locs ls hP hD hS hl
  obtain ⟨hx, hb, hr, hml, hown, hts, hlk, hK, hA, hG⟩ := id X
  refine lv_aload_n hx hb dX11_init_88 rfl (lv_at hl 1 rfl) ?_
  refine va_new (ci := 6) (fs := (.null :: .null :: [])) (C := RX6) (T := TX6) (N := 2) hx hb hts i_X6 tyX6 tyX6_ok hown (hts _ wk_cl_X11_36) (hts _ wk_in_X6) (hts _ wn_X6) hK hP hD hS hA rfl kd_X6 (Nat.le_of_ble_eq_true rfl) (Nat.le_of_ble_eq_true rfl) dX11_init_89 (fun qn H hP hD hS => ?_)
  refine lv_dup hx hb dX11_init_92 rfl ?_
  refine kc_call true (wr := ((h0, .inr (11, (f0 :: f1 :: f2 :: f3 :: f4 :: f5 :: f6 :: f7 :: f8 :: f9 :: f10 :: f11 :: f12 :: f13 :: f14 :: f15 :: f16 :: f17 :: f18 :: f19 :: []))) :: wr)) (wc := [(qn, .inr (6, (.null :: .null :: [])))]) (As := []) (rest := [.ref qn, .ref h0]) (b := qn) X hN hP hD hS (kX6_init) okX6_init hN.2.1 wi_X6_init rfl rfl rfl ⟨(Nat.le_of_ble_eq_true rfl), (Nat.le_of_ble_eq_true rfl)⟩ rfl hl.1 (Nat.le_of_ble_eq_true rfl) ⟨(Nat.le_of_ble_eq_true rfl), (Nat.le_of_ble_eq_true rfl)⟩ dX11_init_93 (fun qa H locs hq hP2 hD2 hS2 => ?_)
  subst hq
  have hS := hS2
  have hP := hP2
  have hD := hD2
  refine va_putF (D := (dC, dI)) (ci := 11) (v := .ref (qa 0 0)) (ty := .object "TalkChutes$State") (C := RX11) (T := TX11) (N := 20) hx hb hts i_X11 tyX11 tyX11_ok nmX11 hown hK hP hD hS 0 rfl rfl 11 (by decide) (hts _ wf_X11_43) (fun _ h9 => h9) rfl hin rfl (tyX11_ok 11 (by decide)) rfl rfl (Nat.le_of_ble_eq_true rfl) dX11_init_96 (fun H locs hP hD hS => ?_)
  have hP : va_P (dC, dI) classes ((h0, .inr (11, (f0 :: f1 :: f2 :: f3 :: f4 :: f5 :: f6 :: f7 :: f8 :: f9 :: f10 :: .ref (qa 0 0) :: f12 :: f13 :: f14 :: f15 :: f16 :: f17 :: f18 :: f19 :: []))) :: (wr ++ (w6 ca (qa 0) (.ref (qa 1 0)) (.ref (qa 2 0)) z0 ++ w7 ca (qa 1) (si z0 0 4) ++ w1 ca (qa 2) z0))) H := hP
  have hD : va_D A ((h0, .inr (11, (f0 :: f1 :: f2 :: f3 :: f4 :: f5 :: f6 :: f7 :: f8 :: f9 :: f10 :: .ref (qa 0 0) :: f12 :: f13 :: f14 :: f15 :: f16 :: f17 :: f18 :: f19 :: []))) :: (wr ++ (w6 ca (qa 0) (.ref (qa 1 0)) (.ref (qa 2 0)) z0 ++ w7 ca (qa 1) (si z0 0 4) ++ w1 ca (qa 2) z0))) := hD
  exact K qa H locs ls (kj_pc hP) (kj_dc hD) hS hl
theorem kj_marks {f0 f1 f2 f3 f4 f5 f6 f7 f8 f9 f10 f11 f12 f13 f14 f15 f16 f17 f18 f19 : Value} {h0 : Nat} {i : Int32} {wr : va_W} (X : tc_X dC dI ca A RX11 cX11_init 2 none p s m args meth c) (hN : kc_N s) (hin : meth.name = "<init>") (K : ∀ q27 : Nat, kj_N p l e s m args below meth c Q dC dI ca A 50 2036 h0 (0 : Int32) 109 ((h0, .inr (11, (f0 :: f1 :: f2 :: f3 :: f4 :: f5 :: f6 :: f7 :: f8 :: f9 :: f10 :: f11 :: .ref q27 :: f13 :: f14 :: f15 :: f16 :: f17 :: f18 :: f19 :: []))) :: (q27, .inl (ca 3, 3, .inr (.inr (.inr (.inr (fun _ => none)))))) :: wr)) : kj_N p l e s m args below meth c Q dC dI ca A 49 2033 h0 i 99 ((h0, .inr (11, (f0 :: f1 :: f2 :: f3 :: f4 :: f5 :: f6 :: f7 :: f8 :: f9 :: f10 :: f11 :: f12 :: f13 :: f14 :: f15 :: f16 :: f17 :: f18 :: f19 :: []))) :: wr) := by
  intro H locs ls hP hD hS hl
  obtain ⟨hx, hb, hr, hml, hown, hts, hlk, hK, hA, hG⟩ := id X
  refine lv_aload_n hx hb dX11_init_99 rfl (lv_at hl 1 rfl) ?_
  refine lv_iconst (v := (3 : Int32)) hx hb dX11_init_100 (by decide) ?_
  refine kc_newq3 (rest := [.ref h0]) X hN hP hD hS (by decide) (by decide : ((3 : Int32)).toNatClampNeg = 3) (by decide) (Nat.le_of_ble_eq_true rfl) (Nat.le_of_ble_eq_true rfl) wk_cl_X11_36 dX11_init_101 (fun q27 H hP hD hS => ?_)
  refine va_putF (D := (dC, dI)) (ci := 11) (v := .ref q27) (ty := .array (.object "TalkChutes$State")) (C := RX11) (T := TX11) (N := 20) hx hb hts i_X11 tyX11 tyX11_ok nmX11 hown hK hP hD hS 0 rfl rfl 12 (by decide) (hts _ wf_X11_46) (fun _ h9 => h9) rfl hin rfl (tyX11_ok 12 (by decide)) rfl rfl (Nat.le_of_ble_eq_true rfl) dX11_init_104 (fun H locs hP hD hS => ?_)
  have hP : va_P (dC, dI) classes ((h0, .inr (11, (f0 :: f1 :: f2 :: f3 :: f4 :: f5 :: f6 :: f7 :: f8 :: f9 :: f10 :: f11 :: .ref q27 :: f13 :: f14 :: f15 :: f16 :: f17 :: f18 :: f19 :: []))) :: (wr ++ [(q27, .inl (ca 3, 3, .inr (.inr (.inr (.inr (fun _ => none))))))])) H := hP
  have hD : va_D A ((h0, .inr (11, (f0 :: f1 :: f2 :: f3 :: f4 :: f5 :: f6 :: f7 :: f8 :: f9 :: f10 :: f11 :: .ref q27 :: f13 :: f14 :: f15 :: f16 :: f17 :: f18 :: f19 :: []))) :: (wr ++ [(q27, .inl (ca 3, 3, .inr (.inr (.inr (.inr (fun _ => none))))))])) := hD
  refine lv_iconst (v := (0 : Int32)) hx hb dX11_init_107 (by decide) ?_
  refine lv_istore_n (lv' := [(1, .int (0 : Int32)), (0, .ref h0)]) hx hb dX11_init_108 rfl hl (by decide) rfl (fun ls hl => ?_)
  exact K q27 H locs ls (kj_pc hP) (kj_dc hD) hS hl
theorem kj_mark0 {f0 f1 f2 f3 f4 f5 f6 f7 f8 f9 f10 f11 f13 f14 f15 f16 f17 f18 f19 : Value} {h0 q27 : Nat} {f : Nat → Option Nat} {wr : va_W} (X : tc_X dC dI ca A RX11 cX11_init 2 none p s m args meth c) (hN : kc_N s) (hin : meth.name = "<init>") (K : ∀ qa : Nat → Nat → Nat, kj_N p l e s m args below meth c Q dC dI ca A 68 2459 h0 (1 : Int32) 109 ((h0, .inr (11, (f0 :: f1 :: f2 :: f3 :: f4 :: f5 :: f6 :: f7 :: f8 :: f9 :: f10 :: f11 :: .ref q27 :: f13 :: f14 :: f15 :: f16 :: f17 :: f18 :: f19 :: []))) :: (q27, .inl (ca 3, 3, .inr (.inr (.inr (.inr (va_up f 0 (some (qa 0 0)))))))) :: ((w6 ca (qa 0) (.ref (qa 1 0)) (.ref (qa 2 0)) z0 ++ w7 ca (qa 1) (si z0 0 4) ++ w1 ca (qa 2) z0) ++ wr))) : kj_N p l e s m args below meth c Q dC dI ca A 50 2036 h0 (0 : Int32) 109 ((h0, .inr (11, (f0 :: f1 :: f2 :: f3 :: f4 :: f5 :: f6 :: f7 :: f8 :: f9 :: f10 :: f11 :: .ref q27 :: f13 :: f14 :: f15 :: f16 :: f17 :: f18 :: f19 :: []))) :: (q27, .inl (ca 3, 3, .inr (.inr (.inr (.inr f))))) :: wr) := by
  intro H locs ls hP hD hS hl
  obtain ⟨hx, hb, hr, hml, hown, hts, hlk, hK, hA, hG⟩ := id X
  refine lv_iload_n hx hb dX11_init_109 rfl (lv_at hl 0 rfl) ?_
  refine lv_iconst (v := (3 : Int32)) hx hb dX11_init_110 (by decide) ?_
  refine lv_icmp_ge (tgt := 133) hx hb dX11_init_111 (by decide) (fun h => absurd h (by decide)) (fun _ => ?_)
  refine lv_aload_n hx hb dX11_init_114 rfl (lv_at hl 1 rfl) ?_
  refine va_get (D := (dC, dI)) (ci := 11) (v := .ref q27) (C := RX11) (T := TX11) (N := 20) hx hb hts i_X11 hown hK hP 0 rfl rfl 12 (by decide) (hts _ wf_X11_46) (fun _ h9 => h9) rfl dX11_init_115 ?_
  refine lv_iload_n hx hb dX11_init_118 rfl (lv_at hl 0 rfl) ?_
  refine va_new (ci := 6) (fs := (.null :: .null :: [])) (C := RX6) (T := TX6) (N := 2) hx hb hts i_X6 tyX6 tyX6_ok hown (hts _ wk_cl_X11_36) (hts _ wk_in_X6) (hts _ wn_X6) hK hP hD hS hA rfl kd_X6 (Nat.le_of_ble_eq_true rfl) (Nat.le_of_ble_eq_true rfl) dX11_init_119 (fun qn H hP hD hS => ?_)
  refine lv_dup hx hb dX11_init_122 rfl ?_
  refine kc_call true (wr := ((h0, .inr (11, (f0 :: f1 :: f2 :: f3 :: f4 :: f5 :: f6 :: f7 :: f8 :: f9 :: f10 :: f11 :: .ref q27 :: f13 :: f14 :: f15 :: f16 :: f17 :: f18 :: f19 :: []))) :: (q27, .inl (ca 3, 3, .inr (.inr (.inr (.inr f))))) :: wr)) (wc := [(qn, .inr (6, (.null :: .null :: [])))]) (As := []) (rest := [.ref qn, .int (0 : Int32), .ref q27]) (b := qn) X hN hP hD hS (kX6_init) okX6_init hN.2.1 wi_X6_init rfl rfl rfl ⟨(Nat.le_of_ble_eq_true rfl), (Nat.le_of_ble_eq_true rfl)⟩ rfl hl.1 (Nat.le_of_ble_eq_true rfl) ⟨(Nat.le_of_ble_eq_true rfl), (Nat.le_of_ble_eq_true rfl)⟩ dX11_init_123 (fun qa H locs hq hP2 hD2 hS2 => ?_)
  subst hq
  have hP : va_P (dC, dI) classes ((h0, .inr (11, (f0 :: f1 :: f2 :: f3 :: f4 :: f5 :: f6 :: f7 :: f8 :: f9 :: f10 :: f11 :: .ref q27 :: f13 :: f14 :: f15 :: f16 :: f17 :: f18 :: f19 :: []))) :: (q27, .inl (ca 3, 3, .inr (.inr (.inr (.inr f))))) :: (wr ++ (w6 ca (qa 0) (.ref (qa 1 0)) (.ref (qa 2 0)) z0 ++ w7 ca (qa 1) (si z0 0 4) ++ w1 ca (qa 2) z0))) H := hP2
  have hD : va_D A ((h0, .inr (11, (f0 :: f1 :: f2 :: f3 :: f4 :: f5 :: f6 :: f7 :: f8 :: f9 :: f10 :: f11 :: .ref q27 :: f13 :: f14 :: f15 :: f16 :: f17 :: f18 :: f19 :: []))) :: (q27, .inl (ca 3, 3, .inr (.inr (.inr (.inr f))))) :: (wr ++ (w6 ca (qa 0) (.ref (qa 1 0)) (.ref (qa 2 0)) z0 ++ w7 ca (qa 1) (si z0 0 4) ++ w1 ca (qa 2) z0))) := hD2
  have hS := hS2
  have hP := kj_pd hP
  have hD := kj_dd hD
  refine va_astq hx hb hK hP hD hS 1 3 2 6 rfl rfl rfl rfl (inb_vp (by decide)) dX11_init_126 (fun H locs hP hD hS => ?_)
  have hP : va_P (dC, dI) classes ((h0, .inr (11, (f0 :: f1 :: f2 :: f3 :: f4 :: f5 :: f6 :: f7 :: f8 :: f9 :: f10 :: f11 :: .ref q27 :: f13 :: f14 :: f15 :: f16 :: f17 :: f18 :: f19 :: []))) :: (q27, .inl (ca 3, 3, .inr (.inr (.inr (.inr (va_up f ((0 : Int32)).toNatClampNeg (some (qa 0 0)))))))) :: ((w6 ca (qa 0) (.ref (qa 1 0)) (.ref (qa 2 0)) z0 ++ w7 ca (qa 1) (si z0 0 4) ++ w1 ca (qa 2) z0) ++ wr)) H := hP
  have hD : va_D A ((h0, .inr (11, (f0 :: f1 :: f2 :: f3 :: f4 :: f5 :: f6 :: f7 :: f8 :: f9 :: f10 :: f11 :: .ref q27 :: f13 :: f14 :: f15 :: f16 :: f17 :: f18 :: f19 :: []))) :: (q27, .inl (ca 3, 3, .inr (.inr (.inr (.inr (va_up f ((0 : Int32)).toNatClampNeg (some (qa 0 0)))))))) :: ((w6 ca (qa 0) (.ref (qa 1 0)) (.ref (qa 2 0)) z0 ++ w7 ca (qa 1) (si z0 0 4) ++ w1 ca (qa 2) z0) ++ wr)) := hD
  have e0 : ((0 : Int32)).toNatClampNeg = 0 := by decide
  rw [e0] at hP hD
  refine lv_iinc (v := (1 : Int32)) (lv' := [(1, .int (1 : Int32)), (0, .ref h0)]) hx hb dX11_init_127 hl (k := 0) rfl (by decide) (by decide) rfl (fun ls hl => ?_)
  refine lv_goto (tgt := 109) hx hb dX11_init_130 (by decide) ?_
  exact K qa H locs ls hP hD hS hl
theorem kj_mark1 {f0 f1 f2 f3 f4 f5 f6 f7 f8 f9 f10 f11 f13 f14 f15 f16 f17 f18 f19 : Value} {h0 q27 : Nat} {f : Nat → Option Nat} {wr : va_W} (X : tc_X dC dI ca A RX11 cX11_init 2 none p s m args meth c) (hN : kc_N s) (hin : meth.name = "<init>") (K : ∀ qa : Nat → Nat → Nat, kj_N p l e s m args below meth c Q dC dI ca A 86 2882 h0 (2 : Int32) 109 ((h0, .inr (11, (f0 :: f1 :: f2 :: f3 :: f4 :: f5 :: f6 :: f7 :: f8 :: f9 :: f10 :: f11 :: .ref q27 :: f13 :: f14 :: f15 :: f16 :: f17 :: f18 :: f19 :: []))) :: (q27, .inl (ca 3, 3, .inr (.inr (.inr (.inr (va_up f 1 (some (qa 0 0)))))))) :: ((w6 ca (qa 0) (.ref (qa 1 0)) (.ref (qa 2 0)) z0 ++ w7 ca (qa 1) (si z0 0 4) ++ w1 ca (qa 2) z0) ++ wr))) : kj_N p l e s m args below meth c Q dC dI ca A 68 2459 h0 (1 : Int32) 109 ((h0, .inr (11, (f0 :: f1 :: f2 :: f3 :: f4 :: f5 :: f6 :: f7 :: f8 :: f9 :: f10 :: f11 :: .ref q27 :: f13 :: f14 :: f15 :: f16 :: f17 :: f18 :: f19 :: []))) :: (q27, .inl (ca 3, 3, .inr (.inr (.inr (.inr f))))) :: wr) := by
  intro H locs ls hP hD hS hl
  obtain ⟨hx, hb, hr, hml, hown, hts, hlk, hK, hA, hG⟩ := id X
  refine lv_iload_n hx hb dX11_init_109 rfl (lv_at hl 0 rfl) ?_
  refine lv_iconst (v := (3 : Int32)) hx hb dX11_init_110 (by decide) ?_
  refine lv_icmp_ge (tgt := 133) hx hb dX11_init_111 (by decide) (fun h => absurd h (by decide)) (fun _ => ?_)
  refine lv_aload_n hx hb dX11_init_114 rfl (lv_at hl 1 rfl) ?_
  refine va_get (D := (dC, dI)) (ci := 11) (v := .ref q27) (C := RX11) (T := TX11) (N := 20) hx hb hts i_X11 hown hK hP 0 rfl rfl 12 (by decide) (hts _ wf_X11_46) (fun _ h9 => h9) rfl dX11_init_115 ?_
  refine lv_iload_n hx hb dX11_init_118 rfl (lv_at hl 0 rfl) ?_
  refine va_new (ci := 6) (fs := (.null :: .null :: [])) (C := RX6) (T := TX6) (N := 2) hx hb hts i_X6 tyX6 tyX6_ok hown (hts _ wk_cl_X11_36) (hts _ wk_in_X6) (hts _ wn_X6) hK hP hD hS hA rfl kd_X6 (Nat.le_of_ble_eq_true rfl) (Nat.le_of_ble_eq_true rfl) dX11_init_119 (fun qn H hP hD hS => ?_)
  refine lv_dup hx hb dX11_init_122 rfl ?_
  refine kc_call true (wr := ((h0, .inr (11, (f0 :: f1 :: f2 :: f3 :: f4 :: f5 :: f6 :: f7 :: f8 :: f9 :: f10 :: f11 :: .ref q27 :: f13 :: f14 :: f15 :: f16 :: f17 :: f18 :: f19 :: []))) :: (q27, .inl (ca 3, 3, .inr (.inr (.inr (.inr f))))) :: wr)) (wc := [(qn, .inr (6, (.null :: .null :: [])))]) (As := []) (rest := [.ref qn, .int (1 : Int32), .ref q27]) (b := qn) X hN hP hD hS (kX6_init) okX6_init hN.2.1 wi_X6_init rfl rfl rfl ⟨(Nat.le_of_ble_eq_true rfl), (Nat.le_of_ble_eq_true rfl)⟩ rfl hl.1 (Nat.le_of_ble_eq_true rfl) ⟨(Nat.le_of_ble_eq_true rfl), (Nat.le_of_ble_eq_true rfl)⟩ dX11_init_123 (fun qa H locs hq hP2 hD2 hS2 => ?_)
  subst hq
  have hP : va_P (dC, dI) classes ((h0, .inr (11, (f0 :: f1 :: f2 :: f3 :: f4 :: f5 :: f6 :: f7 :: f8 :: f9 :: f10 :: f11 :: .ref q27 :: f13 :: f14 :: f15 :: f16 :: f17 :: f18 :: f19 :: []))) :: (q27, .inl (ca 3, 3, .inr (.inr (.inr (.inr f))))) :: (wr ++ (w6 ca (qa 0) (.ref (qa 1 0)) (.ref (qa 2 0)) z0 ++ w7 ca (qa 1) (si z0 0 4) ++ w1 ca (qa 2) z0))) H := hP2
  have hD : va_D A ((h0, .inr (11, (f0 :: f1 :: f2 :: f3 :: f4 :: f5 :: f6 :: f7 :: f8 :: f9 :: f10 :: f11 :: .ref q27 :: f13 :: f14 :: f15 :: f16 :: f17 :: f18 :: f19 :: []))) :: (q27, .inl (ca 3, 3, .inr (.inr (.inr (.inr f))))) :: (wr ++ (w6 ca (qa 0) (.ref (qa 1 0)) (.ref (qa 2 0)) z0 ++ w7 ca (qa 1) (si z0 0 4) ++ w1 ca (qa 2) z0))) := hD2
  have hS := hS2
  have hP := kj_pd hP
  have hD := kj_dd hD
  refine va_astq hx hb hK hP hD hS 1 3 2 6 rfl rfl rfl rfl (inb_vp (by decide)) dX11_init_126 (fun H locs hP hD hS => ?_)
  have hP : va_P (dC, dI) classes ((h0, .inr (11, (f0 :: f1 :: f2 :: f3 :: f4 :: f5 :: f6 :: f7 :: f8 :: f9 :: f10 :: f11 :: .ref q27 :: f13 :: f14 :: f15 :: f16 :: f17 :: f18 :: f19 :: []))) :: (q27, .inl (ca 3, 3, .inr (.inr (.inr (.inr (va_up f ((1 : Int32)).toNatClampNeg (some (qa 0 0)))))))) :: ((w6 ca (qa 0) (.ref (qa 1 0)) (.ref (qa 2 0)) z0 ++ w7 ca (qa 1) (si z0 0 4) ++ w1 ca (qa 2) z0) ++ wr)) H := hP
  have hD : va_D A ((h0, .inr (11, (f0 :: f1 :: f2 :: f3 :: f4 :: f5 :: f6 :: f7 :: f8 :: f9 :: f10 :: f11 :: .ref q27 :: f13 :: f14 :: f15 :: f16 :: f17 :: f18 :: f19 :: []))) :: (q27, .inl (ca 3, 3, .inr (.inr (.inr (.inr (va_up f ((1 : Int32)).toNatClampNeg (some (qa 0 0)))))))) :: ((w6 ca (qa 0) (.ref (qa 1 0)) (.ref (qa 2 0)) z0 ++ w7 ca (qa 1) (si z0 0 4) ++ w1 ca (qa 2) z0) ++ wr)) := hD
  have e0 : ((1 : Int32)).toNatClampNeg = 1 := by decide
  rw [e0] at hP hD
  refine lv_iinc (v := (2 : Int32)) (lv' := [(1, .int (2 : Int32)), (0, .ref h0)]) hx hb dX11_init_127 hl (k := 0) rfl (by decide) (by decide) rfl (fun ls hl => ?_)
  refine lv_goto (tgt := 109) hx hb dX11_init_130 (by decide) ?_
  exact K qa H locs ls hP hD hS hl
theorem kj_mark2 {f0 f1 f2 f3 f4 f5 f6 f7 f8 f9 f10 f11 f13 f14 f15 f16 f17 f18 f19 : Value} {h0 q27 : Nat} {f : Nat → Option Nat} {wr : va_W} (X : tc_X dC dI ca A RX11 cX11_init 2 none p s m args meth c) (hN : kc_N s) (hin : meth.name = "<init>") (K : ∀ qa : Nat → Nat → Nat, kj_N p l e s m args below meth c Q dC dI ca A 104 3305 h0 (3 : Int32) 109 ((h0, .inr (11, (f0 :: f1 :: f2 :: f3 :: f4 :: f5 :: f6 :: f7 :: f8 :: f9 :: f10 :: f11 :: .ref q27 :: f13 :: f14 :: f15 :: f16 :: f17 :: f18 :: f19 :: []))) :: (q27, .inl (ca 3, 3, .inr (.inr (.inr (.inr (va_up f 2 (some (qa 0 0)))))))) :: ((w6 ca (qa 0) (.ref (qa 1 0)) (.ref (qa 2 0)) z0 ++ w7 ca (qa 1) (si z0 0 4) ++ w1 ca (qa 2) z0) ++ wr))) : kj_N p l e s m args below meth c Q dC dI ca A 86 2882 h0 (2 : Int32) 109 ((h0, .inr (11, (f0 :: f1 :: f2 :: f3 :: f4 :: f5 :: f6 :: f7 :: f8 :: f9 :: f10 :: f11 :: .ref q27 :: f13 :: f14 :: f15 :: f16 :: f17 :: f18 :: f19 :: []))) :: (q27, .inl (ca 3, 3, .inr (.inr (.inr (.inr f))))) :: wr) := by
  intro H locs ls hP hD hS hl
  obtain ⟨hx, hb, hr, hml, hown, hts, hlk, hK, hA, hG⟩ := id X
  refine lv_iload_n hx hb dX11_init_109 rfl (lv_at hl 0 rfl) ?_
  refine lv_iconst (v := (3 : Int32)) hx hb dX11_init_110 (by decide) ?_
  refine lv_icmp_ge (tgt := 133) hx hb dX11_init_111 (by decide) (fun h => absurd h (by decide)) (fun _ => ?_)
  refine lv_aload_n hx hb dX11_init_114 rfl (lv_at hl 1 rfl) ?_
  refine va_get (D := (dC, dI)) (ci := 11) (v := .ref q27) (C := RX11) (T := TX11) (N := 20) hx hb hts i_X11 hown hK hP 0 rfl rfl 12 (by decide) (hts _ wf_X11_46) (fun _ h9 => h9) rfl dX11_init_115 ?_
  refine lv_iload_n hx hb dX11_init_118 rfl (lv_at hl 0 rfl) ?_
  refine va_new (ci := 6) (fs := (.null :: .null :: [])) (C := RX6) (T := TX6) (N := 2) hx hb hts i_X6 tyX6 tyX6_ok hown (hts _ wk_cl_X11_36) (hts _ wk_in_X6) (hts _ wn_X6) hK hP hD hS hA rfl kd_X6 (Nat.le_of_ble_eq_true rfl) (Nat.le_of_ble_eq_true rfl) dX11_init_119 (fun qn H hP hD hS => ?_)
  refine lv_dup hx hb dX11_init_122 rfl ?_
  refine kc_call true (wr := ((h0, .inr (11, (f0 :: f1 :: f2 :: f3 :: f4 :: f5 :: f6 :: f7 :: f8 :: f9 :: f10 :: f11 :: .ref q27 :: f13 :: f14 :: f15 :: f16 :: f17 :: f18 :: f19 :: []))) :: (q27, .inl (ca 3, 3, .inr (.inr (.inr (.inr f))))) :: wr)) (wc := [(qn, .inr (6, (.null :: .null :: [])))]) (As := []) (rest := [.ref qn, .int (2 : Int32), .ref q27]) (b := qn) X hN hP hD hS (kX6_init) okX6_init hN.2.1 wi_X6_init rfl rfl rfl ⟨(Nat.le_of_ble_eq_true rfl), (Nat.le_of_ble_eq_true rfl)⟩ rfl hl.1 (Nat.le_of_ble_eq_true rfl) ⟨(Nat.le_of_ble_eq_true rfl), (Nat.le_of_ble_eq_true rfl)⟩ dX11_init_123 (fun qa H locs hq hP2 hD2 hS2 => ?_)
  subst hq
  have hP : va_P (dC, dI) classes ((h0, .inr (11, (f0 :: f1 :: f2 :: f3 :: f4 :: f5 :: f6 :: f7 :: f8 :: f9 :: f10 :: f11 :: .ref q27 :: f13 :: f14 :: f15 :: f16 :: f17 :: f18 :: f19 :: []))) :: (q27, .inl (ca 3, 3, .inr (.inr (.inr (.inr f))))) :: (wr ++ (w6 ca (qa 0) (.ref (qa 1 0)) (.ref (qa 2 0)) z0 ++ w7 ca (qa 1) (si z0 0 4) ++ w1 ca (qa 2) z0))) H := hP2
  have hD : va_D A ((h0, .inr (11, (f0 :: f1 :: f2 :: f3 :: f4 :: f5 :: f6 :: f7 :: f8 :: f9 :: f10 :: f11 :: .ref q27 :: f13 :: f14 :: f15 :: f16 :: f17 :: f18 :: f19 :: []))) :: (q27, .inl (ca 3, 3, .inr (.inr (.inr (.inr f))))) :: (wr ++ (w6 ca (qa 0) (.ref (qa 1 0)) (.ref (qa 2 0)) z0 ++ w7 ca (qa 1) (si z0 0 4) ++ w1 ca (qa 2) z0))) := hD2
  have hS := hS2
  have hP := kj_pd hP
  have hD := kj_dd hD
  refine va_astq hx hb hK hP hD hS 1 3 2 6 rfl rfl rfl rfl (inb_vp (by decide)) dX11_init_126 (fun H locs hP hD hS => ?_)
  have hP : va_P (dC, dI) classes ((h0, .inr (11, (f0 :: f1 :: f2 :: f3 :: f4 :: f5 :: f6 :: f7 :: f8 :: f9 :: f10 :: f11 :: .ref q27 :: f13 :: f14 :: f15 :: f16 :: f17 :: f18 :: f19 :: []))) :: (q27, .inl (ca 3, 3, .inr (.inr (.inr (.inr (va_up f ((2 : Int32)).toNatClampNeg (some (qa 0 0)))))))) :: ((w6 ca (qa 0) (.ref (qa 1 0)) (.ref (qa 2 0)) z0 ++ w7 ca (qa 1) (si z0 0 4) ++ w1 ca (qa 2) z0) ++ wr)) H := hP
  have hD : va_D A ((h0, .inr (11, (f0 :: f1 :: f2 :: f3 :: f4 :: f5 :: f6 :: f7 :: f8 :: f9 :: f10 :: f11 :: .ref q27 :: f13 :: f14 :: f15 :: f16 :: f17 :: f18 :: f19 :: []))) :: (q27, .inl (ca 3, 3, .inr (.inr (.inr (.inr (va_up f ((2 : Int32)).toNatClampNeg (some (qa 0 0)))))))) :: ((w6 ca (qa 0) (.ref (qa 1 0)) (.ref (qa 2 0)) z0 ++ w7 ca (qa 1) (si z0 0 4) ++ w1 ca (qa 2) z0) ++ wr)) := hD
  have e0 : ((2 : Int32)).toNatClampNeg = 2 := by decide
  rw [e0] at hP hD
  refine lv_iinc (v := (3 : Int32)) (lv' := [(1, .int (3 : Int32)), (0, .ref h0)]) hx hb dX11_init_127 hl (k := 0) rfl (by decide) (by decide) rfl (fun ls hl => ?_)
  refine lv_goto (tgt := 109) hx hb dX11_init_130 (by decide) ?_
  exact K qa H locs ls hP hD hS hl
theorem kj_markX {h0 : Nat} {wr : va_W} (X : tc_X dC dI ca A RX11 cX11_init 2 none p s m args meth c) (hN : kc_N s) (hin : meth.name = "<init>") (K : kj_N p l e s m args below meth c Q dC dI ca A 104 3305 h0 (3 : Int32) 133 (wr)) : kj_N p l e s m args below meth c Q dC dI ca A 104 3305 h0 (3 : Int32) 109 (wr) := by
  intro H locs ls hP hD hS hl
  obtain ⟨hx, hb, hr, hml, hown, hts, hlk, hK, hA, hG⟩ := id X
  refine lv_iload_n hx hb dX11_init_109 rfl (lv_at hl 0 rfl) ?_
  refine lv_iconst (v := (3 : Int32)) hx hb dX11_init_110 (by decide) ?_
  refine lv_icmp_ge (tgt := 133) hx hb dX11_init_111 (by decide) (fun _ => ?_) (fun h => absurd (by decide) h)
  exact K H locs ls hP hD hS hl
theorem kj_lat {f0 f1 f2 f3 f4 f5 f6 f7 f8 f9 f10 f11 f12 f13 f14 f15 f16 f17 f18 f19 : Value} {h0 : Nat} {i : Int32} {wr : va_W} (X : tc_X dC dI ca A RX11 cX11_init 2 none p s m args meth c) (hN : kc_N s) (hin : meth.name = "<init>") (K : ∀ qa : Nat → Nat → Nat, kj_N p l e s m args below meth c Q dC dI ca A 106 3375 h0 i 144 ((h0, .inr (11, (f0 :: f1 :: f2 :: f3 :: f4 :: f5 :: f6 :: f7 :: f8 :: f9 :: f10 :: f11 :: f12 :: f13 :: .ref (qa 0 0) :: f15 :: f16 :: f17 :: f18 :: f19 :: []))) :: (w0 ca (qa 0) (.null) (.null) z0 ++ wr))) : kj_N p l e s m args below meth c Q dC dI ca A 104 3305 h0 i 133 ((h0, .inr (11, (f0 :: f1 :: f2 :: f3 :: f4 :: f5 :: f6 :: f7 :: f8 :: f9 :: f10 :: f11 :: f12 :: f13 :: f14 :: f15 :: f16 :: f17 :: f18 :: f19 :: []))) :: wr) := by
  intro H locs ls hP hD hS hl
  obtain ⟨hx, hb, hr, hml, hown, hts, hlk, hK, hA, hG⟩ := id X
  refine lv_aload_n hx hb dX11_init_133 rfl (lv_at hl 1 rfl) ?_
  refine va_new (ci := 0) (fs := (.null :: .null :: .int 0 :: .null :: .int 0 :: .int 0 :: .int 0 :: .int 0 :: .int 0 :: .int 0 :: [])) (C := RX0) (T := TX0) (N := 10) hx hb hts i_X0 tyX0 tyX0_ok hown (hts _ wk_cl_X11_50) (hts _ wk_in_X0) (hts _ wn_X0) hK hP hD hS hA rfl kd_X0 (Nat.le_of_ble_eq_true rfl) (Nat.le_of_ble_eq_true rfl) dX11_init_134 (fun qn H hP hD hS => ?_)
  refine lv_dup hx hb dX11_init_137 rfl ?_
  refine kc_call true (wr := ((h0, .inr (11, (f0 :: f1 :: f2 :: f3 :: f4 :: f5 :: f6 :: f7 :: f8 :: f9 :: f10 :: f11 :: f12 :: f13 :: f14 :: f15 :: f16 :: f17 :: f18 :: f19 :: []))) :: wr)) (wc := [(qn, .inr (0, (.null :: .null :: .int 0 :: .null :: .int 0 :: .int 0 :: .int 0 :: .int 0 :: .int 0 :: .int 0 :: [])))]) (As := []) (rest := [.ref qn, .ref h0]) (b := qn) X hN hP hD hS (kX0_init) okX0_init hN.2.2.2.2.1 wi_X0_init rfl rfl rfl ⟨(Nat.le_of_ble_eq_true rfl), (Nat.le_of_ble_eq_true rfl)⟩ rfl hl.1 (Nat.le_of_ble_eq_true rfl) ⟨(Nat.le_of_ble_eq_true rfl), (Nat.le_of_ble_eq_true rfl)⟩ dX11_init_138 (fun qa H locs hq hP2 hD2 hS2 => ?_)
  subst hq
  have hS := hS2
  have hP := hP2
  have hD := hD2
  refine va_putF (D := (dC, dI)) (ci := 11) (v := .ref (qa 0 0)) (ty := .object "TalkChutes$Evening") (C := RX11) (T := TX11) (N := 20) hx hb hts i_X11 tyX11 tyX11_ok nmX11 hown hK hP hD hS 0 rfl rfl 14 (by decide) (hts _ wf_X11_53) (fun _ h9 => h9) rfl hin rfl (tyX11_ok 14 (by decide)) rfl rfl (Nat.le_of_ble_eq_true rfl) dX11_init_141 (fun H locs hP hD hS => ?_)
  have hP : va_P (dC, dI) classes ((h0, .inr (11, (f0 :: f1 :: f2 :: f3 :: f4 :: f5 :: f6 :: f7 :: f8 :: f9 :: f10 :: f11 :: f12 :: f13 :: .ref (qa 0 0) :: f15 :: f16 :: f17 :: f18 :: f19 :: []))) :: (wr ++ w0 ca (qa 0) (.null) (.null) z0)) H := hP
  have hD : va_D A ((h0, .inr (11, (f0 :: f1 :: f2 :: f3 :: f4 :: f5 :: f6 :: f7 :: f8 :: f9 :: f10 :: f11 :: f12 :: f13 :: .ref (qa 0 0) :: f15 :: f16 :: f17 :: f18 :: f19 :: []))) :: (wr ++ w0 ca (qa 0) (.null) (.null) z0)) := hD
  exact K qa H locs ls (kj_pc hP) (kj_dc hD) hS hl
theorem kj_tri {f0 f1 f2 f3 f4 f5 f6 f7 f8 f9 f10 f11 f12 f13 f14 f15 f16 f17 f18 f19 : Value} {h0 : Nat} {i : Int32} {wr : va_W} (X : tc_X dC dI ca A RX11 cX11_init 2 none p s m args meth c) (hN : kc_N s) (hin : meth.name = "<init>") (K : ∀ qa : Nat → Nat → Nat, kj_N p l e s m args below meth c Q dC dI ca A 108 3445 h0 i 155 ((h0, .inr (11, (f0 :: f1 :: f2 :: f3 :: f4 :: f5 :: f6 :: f7 :: f8 :: f9 :: f10 :: f11 :: f12 :: f13 :: f14 :: .ref (qa 0 0) :: f16 :: f17 :: f18 :: f19 :: []))) :: (w0 ca (qa 0) (.null) (.null) z0 ++ wr))) : kj_N p l e s m args below meth c Q dC dI ca A 106 3375 h0 i 144 ((h0, .inr (11, (f0 :: f1 :: f2 :: f3 :: f4 :: f5 :: f6 :: f7 :: f8 :: f9 :: f10 :: f11 :: f12 :: f13 :: f14 :: f15 :: f16 :: f17 :: f18 :: f19 :: []))) :: wr) := by
  intro H locs ls hP hD hS hl
  obtain ⟨hx, hb, hr, hml, hown, hts, hlk, hK, hA, hG⟩ := id X
  refine lv_aload_n hx hb dX11_init_144 rfl (lv_at hl 1 rfl) ?_
  refine va_new (ci := 0) (fs := (.null :: .null :: .int 0 :: .null :: .int 0 :: .int 0 :: .int 0 :: .int 0 :: .int 0 :: .int 0 :: [])) (C := RX0) (T := TX0) (N := 10) hx hb hts i_X0 tyX0 tyX0_ok hown (hts _ wk_cl_X11_50) (hts _ wk_in_X0) (hts _ wn_X0) hK hP hD hS hA rfl kd_X0 (Nat.le_of_ble_eq_true rfl) (Nat.le_of_ble_eq_true rfl) dX11_init_145 (fun qn H hP hD hS => ?_)
  refine lv_dup hx hb dX11_init_148 rfl ?_
  refine kc_call true (wr := ((h0, .inr (11, (f0 :: f1 :: f2 :: f3 :: f4 :: f5 :: f6 :: f7 :: f8 :: f9 :: f10 :: f11 :: f12 :: f13 :: f14 :: f15 :: f16 :: f17 :: f18 :: f19 :: []))) :: wr)) (wc := [(qn, .inr (0, (.null :: .null :: .int 0 :: .null :: .int 0 :: .int 0 :: .int 0 :: .int 0 :: .int 0 :: .int 0 :: [])))]) (As := []) (rest := [.ref qn, .ref h0]) (b := qn) X hN hP hD hS (kX0_init) okX0_init hN.2.2.2.2.1 wi_X0_init rfl rfl rfl ⟨(Nat.le_of_ble_eq_true rfl), (Nat.le_of_ble_eq_true rfl)⟩ rfl hl.1 (Nat.le_of_ble_eq_true rfl) ⟨(Nat.le_of_ble_eq_true rfl), (Nat.le_of_ble_eq_true rfl)⟩ dX11_init_149 (fun qa H locs hq hP2 hD2 hS2 => ?_)
  subst hq
  have hS := hS2
  have hP := hP2
  have hD := hD2
  refine va_putF (D := (dC, dI)) (ci := 11) (v := .ref (qa 0 0)) (ty := .object "TalkChutes$Evening") (C := RX11) (T := TX11) (N := 20) hx hb hts i_X11 tyX11 tyX11_ok nmX11 hown hK hP hD hS 0 rfl rfl 15 (by decide) (hts _ wf_X11_57) (fun _ h9 => h9) rfl hin rfl (tyX11_ok 15 (by decide)) rfl rfl (Nat.le_of_ble_eq_true rfl) dX11_init_152 (fun H locs hP hD hS => ?_)
  have hP : va_P (dC, dI) classes ((h0, .inr (11, (f0 :: f1 :: f2 :: f3 :: f4 :: f5 :: f6 :: f7 :: f8 :: f9 :: f10 :: f11 :: f12 :: f13 :: f14 :: .ref (qa 0 0) :: f16 :: f17 :: f18 :: f19 :: []))) :: (wr ++ w0 ca (qa 0) (.null) (.null) z0)) H := hP
  have hD : va_D A ((h0, .inr (11, (f0 :: f1 :: f2 :: f3 :: f4 :: f5 :: f6 :: f7 :: f8 :: f9 :: f10 :: f11 :: f12 :: f13 :: f14 :: .ref (qa 0 0) :: f16 :: f17 :: f18 :: f19 :: []))) :: (wr ++ w0 ca (qa 0) (.null) (.null) z0)) := hD
  exact K qa H locs ls (kj_pc hP) (kj_dc hD) hS hl
theorem kj_ways {f0 f1 f2 f3 f4 f5 f6 f7 f8 f9 f10 f11 f12 f13 f14 f15 f16 f17 f18 f19 : Value} {h0 : Nat} {i : Int32} {wr : va_W} (X : tc_X dC dI ca A RX11 cX11_init 2 none p s m args meth c) (hN : kc_N s) (hin : meth.name = "<init>") (K : ∀ qa : Nat → Nat → Nat, kj_N p l e s m args below meth c Q dC dI ca A 111 3491 h0 i 166 ((h0, .inr (11, (f0 :: f1 :: f2 :: f3 :: f4 :: f5 :: f6 :: f7 :: f8 :: f9 :: f10 :: f11 :: f12 :: f13 :: f14 :: f15 :: f16 :: .ref (qa 0 0) :: f18 :: f19 :: []))) :: (w10 ca (qa 0) (.null) z0 ++ wr))) : kj_N p l e s m args below meth c Q dC dI ca A 108 3445 h0 i 155 ((h0, .inr (11, (f0 :: f1 :: f2 :: f3 :: f4 :: f5 :: f6 :: f7 :: f8 :: f9 :: f10 :: f11 :: f12 :: f13 :: f14 :: f15 :: f16 :: f17 :: f18 :: f19 :: []))) :: wr) := by
  intro H locs ls hP hD hS hl
  obtain ⟨hx, hb, hr, hml, hown, hts, hlk, hK, hA, hG⟩ := id X
  refine lv_aload_n hx hb dX11_init_155 rfl (lv_at hl 1 rfl) ?_
  refine va_new (ci := 10) (fs := (.null :: .int 0 :: .null :: .null :: [])) (C := RX10) (T := TX10) (N := 4) hx hb hts i_X10 tyX10 tyX10_ok hown (hts _ wk_cl_X11_60) (hts _ wk_in_X10) (hts _ wn_X10) hK hP hD hS hA rfl kd_X10 (Nat.le_of_ble_eq_true rfl) (Nat.le_of_ble_eq_true rfl) dX11_init_156 (fun qn H hP hD hS => ?_)
  refine lv_dup hx hb dX11_init_159 rfl ?_
  refine kc_call true (wr := ((h0, .inr (11, (f0 :: f1 :: f2 :: f3 :: f4 :: f5 :: f6 :: f7 :: f8 :: f9 :: f10 :: f11 :: f12 :: f13 :: f14 :: f15 :: f16 :: f17 :: f18 :: f19 :: []))) :: wr)) (wc := [(qn, .inr (10, (.null :: .int 0 :: .null :: .null :: [])))]) (As := []) (rest := [.ref qn, .ref h0]) (b := qn) X hN hP hD hS (kX10_init) okX10_init hN.2.2.2.2.2.1 wi_X10_init rfl rfl rfl ⟨(Nat.le_of_ble_eq_true rfl), (Nat.le_of_ble_eq_true rfl)⟩ rfl hl.1 (Nat.le_of_ble_eq_true rfl) ⟨(Nat.le_of_ble_eq_true rfl), (Nat.le_of_ble_eq_true rfl)⟩ dX11_init_160 (fun qa H locs hq hP2 hD2 hS2 => ?_)
  subst hq
  have hS := hS2
  have hP := hP2
  have hD := hD2
  refine va_putF (D := (dC, dI)) (ci := 11) (v := .ref (qa 0 0)) (ty := .object "TalkChutes$Ways") (C := RX11) (T := TX11) (N := 20) hx hb hts i_X11 tyX11 tyX11_ok nmX11 hown hK hP hD hS 0 rfl rfl 17 (by decide) (hts _ wf_X11_63) (fun _ h9 => h9) rfl hin rfl (tyX11_ok 17 (by decide)) rfl rfl (Nat.le_of_ble_eq_true rfl) dX11_init_163 (fun H locs hP hD hS => ?_)
  have hP : va_P (dC, dI) classes ((h0, .inr (11, (f0 :: f1 :: f2 :: f3 :: f4 :: f5 :: f6 :: f7 :: f8 :: f9 :: f10 :: f11 :: f12 :: f13 :: f14 :: f15 :: f16 :: .ref (qa 0 0) :: f18 :: f19 :: []))) :: (wr ++ w10 ca (qa 0) (.null) z0)) H := hP
  have hD : va_D A ((h0, .inr (11, (f0 :: f1 :: f2 :: f3 :: f4 :: f5 :: f6 :: f7 :: f8 :: f9 :: f10 :: f11 :: f12 :: f13 :: f14 :: f15 :: f16 :: .ref (qa 0 0) :: f18 :: f19 :: []))) :: (wr ++ w10 ca (qa 0) (.null) z0)) := hD
  exact K qa H locs ls (kj_pc hP) (kj_dc hD) hS hl
theorem kj_feud {f0 f1 f2 f3 f4 f5 f6 f7 f8 f9 f10 f11 f12 f13 f14 f15 f16 f17 f18 f19 : Value} {h0 : Nat} {i : Int32} {wr : va_W} (X : tc_X dC dI ca A RX11 cX11_init 2 none p s m args meth c) (hN : kc_N s) (hin : meth.name = "<init>") (K : ∀ qa : Nat → Nat → Nat, kj_N p l e s m args below meth c Q dC dI ca A 115 3515 h0 i 177 ((h0, .inr (11, (f0 :: f1 :: f2 :: f3 :: f4 :: f5 :: f6 :: f7 :: f8 :: f9 :: f10 :: f11 :: f12 :: f13 :: f14 :: f15 :: f16 :: f17 :: .ref (qa 0 0) :: f19 :: []))) :: (w3 ca (qa 0) (.null) z0 ++ wr))) : kj_N p l e s m args below meth c Q dC dI ca A 111 3491 h0 i 166 ((h0, .inr (11, (f0 :: f1 :: f2 :: f3 :: f4 :: f5 :: f6 :: f7 :: f8 :: f9 :: f10 :: f11 :: f12 :: f13 :: f14 :: f15 :: f16 :: f17 :: f18 :: f19 :: []))) :: wr) := by
  intro H locs ls hP hD hS hl
  obtain ⟨hx, hb, hr, hml, hown, hts, hlk, hK, hA, hG⟩ := id X
  refine lv_aload_n hx hb dX11_init_166 rfl (lv_at hl 1 rfl) ?_
  refine va_new (ci := 3) (fs := (.null :: .int 0 :: .int 0 :: .null :: .null :: .null :: [])) (C := RX3) (T := TX3) (N := 6) hx hb hts i_X3 tyX3 tyX3_ok hown (hts _ wk_cl_X11_67) (hts _ wk_in_X3) (hts _ wn_X3) hK hP hD hS hA rfl kd_X3 (Nat.le_of_ble_eq_true rfl) (Nat.le_of_ble_eq_true rfl) dX11_init_167 (fun qn H hP hD hS => ?_)
  refine lv_dup hx hb dX11_init_170 rfl ?_
  refine kc_call true (wr := ((h0, .inr (11, (f0 :: f1 :: f2 :: f3 :: f4 :: f5 :: f6 :: f7 :: f8 :: f9 :: f10 :: f11 :: f12 :: f13 :: f14 :: f15 :: f16 :: f17 :: f18 :: f19 :: []))) :: wr)) (wc := [(qn, .inr (3, (.null :: .int 0 :: .int 0 :: .null :: .null :: .null :: [])))]) (As := []) (rest := [.ref qn, .ref h0]) (b := qn) X hN hP hD hS (kX3_init) okX3_init hN.2.2.2.2.2.2.1 wi_X3_init rfl rfl rfl ⟨(Nat.le_of_ble_eq_true rfl), (Nat.le_of_ble_eq_true rfl)⟩ rfl hl.1 (Nat.le_of_ble_eq_true rfl) ⟨(Nat.le_of_ble_eq_true rfl), (Nat.le_of_ble_eq_true rfl)⟩ dX11_init_171 (fun qa H locs hq hP2 hD2 hS2 => ?_)
  subst hq
  have hS := hS2
  have hP := hP2
  have hD := hD2
  refine va_putF (D := (dC, dI)) (ci := 11) (v := .ref (qa 0 0)) (ty := .object "TalkChutes$Feuds") (C := RX11) (T := TX11) (N := 20) hx hb hts i_X11 tyX11 tyX11_ok nmX11 hown hK hP hD hS 0 rfl rfl 18 (by decide) (hts _ wf_X11_70) (fun _ h9 => h9) rfl hin rfl (tyX11_ok 18 (by decide)) rfl rfl (Nat.le_of_ble_eq_true rfl) dX11_init_174 (fun H locs hP hD hS => ?_)
  have hP : va_P (dC, dI) classes ((h0, .inr (11, (f0 :: f1 :: f2 :: f3 :: f4 :: f5 :: f6 :: f7 :: f8 :: f9 :: f10 :: f11 :: f12 :: f13 :: f14 :: f15 :: f16 :: f17 :: .ref (qa 0 0) :: f19 :: []))) :: (wr ++ w3 ca (qa 0) (.null) z0)) H := hP
  have hD : va_D A ((h0, .inr (11, (f0 :: f1 :: f2 :: f3 :: f4 :: f5 :: f6 :: f7 :: f8 :: f9 :: f10 :: f11 :: f12 :: f13 :: f14 :: f15 :: f16 :: f17 :: .ref (qa 0 0) :: f19 :: []))) :: (wr ++ w3 ca (qa 0) (.null) z0)) := hD
  exact K qa H locs ls (kj_pc hP) (kj_dc hD) hS hl
theorem kj_reck {f0 f1 f2 f3 f4 f5 f6 f7 f8 f9 f10 f11 f12 f13 f14 f15 f16 f17 f18 f19 : Value} {h0 : Nat} {i : Int32} {wr : va_W} (X : tc_X dC dI ca A RX11 cX11_init 2 none p s m args meth c) (hN : kc_N s) (hin : meth.name = "<init>") (K : ∀ qa : Nat → Nat → Nat, kj_N p l e s m args below meth c Q dC dI ca A 120 3556 h0 i 188 ((h0, .inr (11, (f0 :: f1 :: f2 :: f3 :: f4 :: f5 :: f6 :: f7 :: f8 :: f9 :: f10 :: f11 :: f12 :: f13 :: f14 :: f15 :: f16 :: f17 :: f18 :: .ref (qa 0 0) :: []))) :: (w5 ca (qa 0) z0 ++ wr))) : kj_N p l e s m args below meth c Q dC dI ca A 115 3515 h0 i 177 ((h0, .inr (11, (f0 :: f1 :: f2 :: f3 :: f4 :: f5 :: f6 :: f7 :: f8 :: f9 :: f10 :: f11 :: f12 :: f13 :: f14 :: f15 :: f16 :: f17 :: f18 :: f19 :: []))) :: wr) := by
  intro H locs ls hP hD hS hl
  obtain ⟨hx, hb, hr, hml, hown, hts, hlk, hK, hA, hG⟩ := id X
  refine lv_aload_n hx hb dX11_init_177 rfl (lv_at hl 1 rfl) ?_
  refine va_new (ci := 5) (fs := (.null :: .null :: .null :: .null :: [])) (C := RX5) (T := TX5) (N := 4) hx hb hts i_X5 tyX5 tyX5_ok hown (hts _ wk_cl_X11_74) (hts _ wk_in_X5) (hts _ wn_X5) hK hP hD hS hA rfl kd_X5 (Nat.le_of_ble_eq_true rfl) (Nat.le_of_ble_eq_true rfl) dX11_init_178 (fun qn H hP hD hS => ?_)
  refine lv_dup hx hb dX11_init_181 rfl ?_
  refine kc_call true (wr := ((h0, .inr (11, (f0 :: f1 :: f2 :: f3 :: f4 :: f5 :: f6 :: f7 :: f8 :: f9 :: f10 :: f11 :: f12 :: f13 :: f14 :: f15 :: f16 :: f17 :: f18 :: f19 :: []))) :: wr)) (wc := [(qn, .inr (5, (.null :: .null :: .null :: .null :: [])))]) (As := []) (rest := [.ref qn, .ref h0]) (b := qn) X hN hP hD hS (kX5_init) okX5_init hN.2.2.2.2.2.2.2.1 wi_X5_init rfl rfl rfl ⟨(Nat.le_of_ble_eq_true rfl), (Nat.le_of_ble_eq_true rfl)⟩ rfl hl.1 (Nat.le_of_ble_eq_true rfl) ⟨(Nat.le_of_ble_eq_true rfl), (Nat.le_of_ble_eq_true rfl)⟩ dX11_init_182 (fun qa H locs hq hP2 hD2 hS2 => ?_)
  subst hq
  have hS := hS2
  have hP := hP2
  have hD := hD2
  refine va_putF (D := (dC, dI)) (ci := 11) (v := .ref (qa 0 0)) (ty := .object "TalkChutes$Reckoner") (C := RX11) (T := TX11) (N := 20) hx hb hts i_X11 tyX11 tyX11_ok nmX11 hown hK hP hD hS 0 rfl rfl 19 (by decide) (hts _ wf_X11_77) (fun _ h9 => h9) rfl hin rfl (tyX11_ok 19 (by decide)) rfl rfl (Nat.le_of_ble_eq_true rfl) dX11_init_185 (fun H locs hP hD hS => ?_)
  have hP : va_P (dC, dI) classes ((h0, .inr (11, (f0 :: f1 :: f2 :: f3 :: f4 :: f5 :: f6 :: f7 :: f8 :: f9 :: f10 :: f11 :: f12 :: f13 :: f14 :: f15 :: f16 :: f17 :: f18 :: .ref (qa 0 0) :: []))) :: (wr ++ w5 ca (qa 0) z0)) H := hP
  have hD : va_D A ((h0, .inr (11, (f0 :: f1 :: f2 :: f3 :: f4 :: f5 :: f6 :: f7 :: f8 :: f9 :: f10 :: f11 :: f12 :: f13 :: f14 :: f15 :: f16 :: f17 :: f18 :: .ref (qa 0 0) :: []))) :: (wr ++ w5 ca (qa 0) z0)) := hD
  exact K qa H locs ls (kj_pc hP) (kj_dc hD) hS hl
theorem kj_end {f0 f1 f2 f3 f4 f5 f6 f7 f8 f9 f10 f11 f12 f13 f14 f15 f16 f17 f18 f19 : Value} {h0 : Nat} {i : Int32} {wr : va_W} {w1 : (Nat → Nat → Nat) → va_W} {P1 : (Nat → Nat → Nat) → Prop} (X : tc_X dC dI ca A RX11 cX11_init 2 none p s m args meth c) (hN : kc_N s) (hin : meth.name = "<init>") (q : Nat → Nat → Nat) (hw : (h0, .inr (11, (f0 :: f1 :: .long (1 : Int64) :: f3 :: f4 :: f5 :: f6 :: f7 :: .int (-1 : Int32) :: .int (-1 : Int32) :: f10 :: f11 :: f12 :: f13 :: f14 :: f15 :: f16 :: f17 :: f18 :: f19 :: []))) :: wr = w1 q) (hq : P1 q) : kj_N p l e s m args below meth c (MQ below (kc_Q dC dI ca A w1 P1) args s 120 3556 A) dC dI ca A 120 3556 h0 i 188 ((h0, .inr (11, (f0 :: f1 :: f2 :: f3 :: f4 :: f5 :: f6 :: f7 :: f8 :: f9 :: f10 :: f11 :: f12 :: f13 :: f14 :: f15 :: f16 :: f17 :: f18 :: f19 :: []))) :: wr) := by
  intro H locs ls hP hD hS hl
  obtain ⟨hx, hb, hr, hml, hown, hts, hlk, hK, hA, hG⟩ := id X
  refine lv_aload_n hx hb dX11_init_188 rfl (lv_at hl 1 rfl) ?_
  refine lv_lconst (v := (1 : Int64)) hx hb dX11_init_189 (by decide) ?_
  refine va_put (D := (dC, dI)) (ci := 11) (v := .long (1 : Int64)) (ty := .long) (C := RX11) (T := TX11) (N := 20) hx hb hts i_X11 tyX11 tyX11_ok nmX11 hown hK hP hD hS 0 rfl rfl 2 (by decide) (hts _ wf_X11_81) (fun _ h9 => h9) rfl (tyX11_ok 2 (by decide)) rfl rfl (Nat.le_of_ble_eq_true rfl) dX11_init_190 (fun H locs hP hD hS => ?_)
  refine lv_aload_n hx hb dX11_init_193 rfl (lv_at hl 1 rfl) ?_
  refine lv_iconst (v := (-1 : Int32)) hx hb dX11_init_194 (by decide) ?_
  refine va_put (D := (dC, dI)) (ci := 11) (v := .int (-1 : Int32)) (ty := .int) (C := RX11) (T := TX11) (N := 20) hx hb hts i_X11 tyX11 tyX11_ok nmX11 hown hK hP hD hS 0 rfl rfl 8 (by decide) (hts _ wf_X11_85) (fun _ h9 => h9) rfl (tyX11_ok 8 (by decide)) rfl rfl (Nat.le_of_ble_eq_true rfl) dX11_init_195 (fun H locs hP hD hS => ?_)
  refine lv_aload_n hx hb dX11_init_198 rfl (lv_at hl 1 rfl) ?_
  refine lv_iconst (v := (-1 : Int32)) hx hb dX11_init_199 (by decide) ?_
  refine va_put (D := (dC, dI)) (ci := 11) (v := .int (-1 : Int32)) (ty := .int) (C := RX11) (T := TX11) (N := 20) hx hb hts i_X11 tyX11 tyX11_ok nmX11 hown hK hP hD hS 0 rfl rfl 9 (by decide) (hts _ wf_X11_89) (fun _ h9 => h9) rfl (tyX11_ok 9 (by decide)) rfl rfl (Nat.le_of_ble_eq_true rfl) dX11_init_200 (fun H locs hP hD hS => ?_)
  have hP : va_P (dC, dI) classes ((h0, .inr (11, (f0 :: f1 :: .long (1 : Int64) :: f3 :: f4 :: f5 :: f6 :: f7 :: .int (-1 : Int32) :: .int (-1 : Int32) :: f10 :: f11 :: f12 :: f13 :: f14 :: f15 :: f16 :: f17 :: f18 :: f19 :: []))) :: wr) H := hP
  have hD : va_D A ((h0, .inr (11, (f0 :: f1 :: .long (1 : Int64) :: f3 :: f4 :: f5 :: f6 :: f7 :: .int (-1 : Int32) :: .int (-1 : Int32) :: f10 :: f11 :: f12 :: f13 :: f14 :: f15 :: f16 :: f17 :: f18 :: f19 :: []))) :: wr) := hD
  exact kc_ret X hP hD hS dX11_init_203 q hw hq
def kj_W (ca : Nat → ClassId) (q : Nat → Nat → Nat) : va_W := ((q 0 0, .inr (11, (.int 0 :: .long 0 :: .long (1 : Int64) :: .ref (q 1 0) :: .ref (q 6 0) :: .int 0 :: .ref (q 7 0) :: .ref (q 8 0) :: .int (-1 : Int32) :: .int (-1 : Int32) :: .ref (q 9 0) :: .ref (q 12 0) :: .ref (q 15 0) :: .int 0 :: .ref (q 25 0) :: .ref (q 26 0) :: .int 0 :: .ref (q 27 0) :: .ref (q 28 0) :: .ref (q 29 0) :: []))) :: (w5 ca (q 29) z0 ++ (w3 ca (q 28) (.null) z0 ++ (w10 ca (q 27) (.null) z0 ++ (w0 ca (q 26) (.null) (.null) z0 ++ (w0 ca (q 25) (.null) (.null) z0 ++ ((q 15 0, .inl (ca 3, 3, .inr (.inr (.inr (.inr (rf3 (q 16 0) (q 19 0) (q 22 0))))))) :: ((w6 ca (q 22) (.ref (q 23 0)) (.ref (q 24 0)) z0 ++ w7 ca (q 23) (si z0 0 4) ++ w1 ca (q 24) z0) ++ ((w6 ca (q 19) (.ref (q 20 0)) (.ref (q 21 0)) z0 ++ w7 ca (q 20) (si z0 0 4) ++ w1 ca (q 21) z0) ++ ((w6 ca (q 16) (.ref (q 17 0)) (.ref (q 18 0)) z0 ++ w7 ca (q 17) (si z0 0 4) ++ w1 ca (q 18) z0) ++ ((w6 ca (q 12) (.ref (q 13 0)) (.ref (q 14 0)) z0 ++ w7 ca (q 13) (si z0 0 4) ++ w1 ca (q 14) z0) ++ ((w6 ca (q 9) (.ref (q 10 0)) (.ref (q 11 0)) z0 ++ w7 ca (q 10) (si z0 0 4) ++ w1 ca (q 11) z0) ++ (w2 ca (q 8) (.ref (q 6 0)) (.null) (.null) z0 ++ (w8 ca (q 7) (.ref (q 6 0)) (.null) z0 ++ ((q 6 0, .inl (ca 0, 900, .inl (fun _ => 0))) :: ((q 1 0, .inl (ca 4, 4, .inr (.inr (.inr (.inr (rf4 (q 2 0) (q 3 0) (q 4 0) (q 5 0))))))) :: (w9 ca (q 5) (si z0 2 (-1)) ++ (w9 ca (q 4) (si z0 2 (-1)) ++ (w9 ca (q 3) (si z0 2 (-1)) ++ (w9 ca (q 2) (si z0 2 (-1)) ++ []))))))))))))))))))))
def kj_q (L : List (Nat → Nat)) : Nat → Nat → Nat := fun j => L.getD j (fun _ => 0)
set_option maxHeartbeats 4000000 in
set_option maxRecDepth 20000 in
theorem kX11_init {h0 : Nat} : kc_M l dC dI ca yX11_init cX11_init 2 rm11 [.ref h0] [(h0, .inr (11, (.int 0 :: .long 0 :: .long 0 :: .null :: .null :: .int 0 :: .null :: .null :: .int 0 :: .int 0 :: .null :: .null :: .null :: .int 0 :: .null :: .null :: .int 0 :: .null :: .null :: .null :: [])))] (fun q => kj_W ca q) (fun q => q 0 0 = h0) 120 3556 := by
  refine kc_met (own := RX11) (by decide) rfl rfl ?_ (Nat.le_of_ble_eq_true rfl)
  intro p e s m below meth c A X hN hin hP hD hS ls hl
  obtain ⟨hx, hb, hr, hml, hown, hts, hlk, hK, hA, hG⟩ := id X
  have hl : lv_has ls 2 [(0, .ref h0)] := hl
  refine lv_aload_n hx hb dX11_init_0 rfl (lv_at hl 0 rfl) ?_
  refine kc_obj (rest := []) X hl.1 wo_X11_1 w_oi w_oc (Nat.le_of_ble_eq_true rfl) (Nat.le_of_ble_eq_true rfl) dX11_init_1 ?_
  refine lv_aload_n hx hb dX11_init_4 rfl (lv_at hl 0 rfl) ?_
  refine lv_iconst (v := (4 : Int32)) hx hb dX11_init_5 (by decide) ?_
  refine kc_newq4 (rest := [.ref h0]) X hN hP hD hS (by decide) (by decide : ((4 : Int32)).toNatClampNeg = 4) (by decide) (Nat.le_of_ble_eq_true rfl) (Nat.le_of_ble_eq_true rfl) wk_cl_X11_9 dX11_init_6 (fun q1 H hP hD hS => ?_)
  refine va_putF (D := (dC, dI)) (ci := 11) (v := .ref q1) (ty := .array (.object "TalkChutes$Tray")) (C := RX11) (T := TX11) (N := 20) hx hb hts i_X11 tyX11 tyX11_ok nmX11 hown hK hP hD hS 0 rfl rfl 3 (by decide) (hts _ wf_X11_11) (fun _ h9 => h9) rfl hin rfl (tyX11_ok 3 (by decide)) rfl rfl (Nat.le_of_ble_eq_true rfl) dX11_init_9 (fun H locs hP hD hS => ?_)
  have hP : va_P (dC, dI) classes ((h0, .inr (11, (.int 0 :: .long 0 :: .long 0 :: .ref q1 :: .null :: .int 0 :: .null :: .null :: .int 0 :: .int 0 :: .null :: .null :: .null :: .int 0 :: .null :: .null :: .int 0 :: .null :: .null :: .null :: []))) :: (q1, .inl (ca 4, 4, .inr (.inr (.inr (.inr (fun _ => none)))))) :: []) H := hP
  have hD : va_D A ((h0, .inr (11, (.int 0 :: .long 0 :: .long 0 :: .ref q1 :: .null :: .int 0 :: .null :: .null :: .int 0 :: .int 0 :: .null :: .null :: .null :: .int 0 :: .null :: .null :: .int 0 :: .null :: .null :: .null :: []))) :: (q1, .inl (ca 4, 4, .inr (.inr (.inr (.inr (fun _ => none)))))) :: []) := hD
  refine lv_iconst (v := (0 : Int32)) hx hb dX11_init_12 (by decide) ?_
  refine lv_istore_n (lv' := [(1, .int (0 : Int32)), (0, .ref h0)]) hx hb dX11_init_13 rfl hl (by decide) rfl (fun ls hl => ?_)
  refine kj_tray0 X hN hin (fun y0 => ?_) _ _ _ hP hD hS hl
  refine kj_tray1 X hN hin (fun y1 => ?_)
  refine kj_tray2 X hN hin (fun y2 => ?_)
  refine kj_tray3 X hN hin (fun y3 => ?_)
  refine kj_trayX X hN hin ?_
  refine kj_tape X hN hin (fun b => ?_)
  refine kj_rd X hN hin (fun r => ?_)
  refine kj_ev X hN hin (fun g => ?_)
  refine kj_now X hN hin (fun p0 => ?_)
  refine kj_spare X hN hin (fun p1 => ?_)
  refine kj_marks X hN hin (fun z => ?_)
  refine kj_mark0 X hN hin (fun p2 => ?_)
  refine kj_mark1 X hN hin (fun p3 => ?_)
  refine kj_mark2 X hN hin (fun p4 => ?_)
  refine kj_markX X hN hin ?_
  refine kj_lat X hN hin (fun v0 => ?_)
  refine kj_tri X hN hin (fun v1 => ?_)
  refine kj_ways X hN hin (fun ww => ?_)
  refine kj_feud X hN hin (fun u => ?_)
  refine kj_reck X hN hin (fun k => ?_)
  rw [kc_rf4, kc_rf3]
  exact kj_end X hN hin (kj_q [fun _ => h0, fun _ => q1, y0 0, y1 0, y2 0, y3 0, fun _ => b, r 0, g 0, p0 0, p0 1, p0 2, p1 0, p1 1, p1 2, fun _ => z, p2 0, p2 1, p2 2, p3 0, p3 1, p3 2, p4 0, p4 1, p4 2, v0 0, v1 0, ww 0, u 0, k 0]) rfl rfl
end G
