section LB
variable {p : Program} {l : Launch} {e : Env} {s : State} {m : MethodId} {below : List Frame} {meth : Method} {c : Code} {Q : State → Prop}
variable {dC : Nat → ClassId} {dI : Nat → Nat → Nat} {ca : Nat → ClassId} {A : Nat → Prop} {b L : Nat} {xs : Nat → Int32} {Rel : lw_RT}
set_option maxRecDepth 20000 in
theorem lw_begin {z : ms_T} (hz : fX12_empties s12_0 0 = some z) (hRel : Rel s11_0 (si z0 2 (-1)) (si z0 2 (-1)) (si z0 2 (-1)) (si z0 2 (-1)) z0 (si z0 0 4) z0 (si z0 0 4) z0 (si z0 0 4) z0 (si z0 0 4) z0 z0 z) (X : tc_X dC dI ca A RL code 4 ret p s m #[Value.ref b] meth c) (hN : kc_N s) (K : ∀ q : Nat → Nat → Nat, lw_N p l e s m #[Value.ref b] below meth c 134 6833 Q dC dI ca A q b (nI 0) Rel 18) : W p l e room_1 s m #[Value.ref b] below meth c s.heap [] 0 0 Q (entryFrame m ([Value.ref b] : List Value).toArray 4) := by
  obtain ⟨hx, hb, hr, hml, hown, hts, hlk, hK, hA, hG⟩ := id X
  have hl := lv_entry [Value.ref b] (n := 4) (Nat.le_of_ble_eq_true rfl)
  rw [lg_entry_eq]
  have hP : va_P (dC, dI) classes [] s.heap := fun k q h => by simp at h
  have hD : va_D A [] := ⟨fun i j p q h => by simp at h, fun k q h => by simp at h⟩
  have hS : va_S A s.heap s.heap [] := va_S.rf
  refine va_new (ci := 11) (fs := (.int 0 :: .long 0 :: .long 0 :: .null :: .null :: .int 0 :: .null :: .null :: .int 0 :: .int 0 :: .null :: .null :: .null :: .int 0 :: .null :: .null :: .int 0 :: .null :: .null :: .null :: [])) (C := RX11) (T := TX11) (N := 20) hx hb hts i_X11 tyX11 tyX11_ok hown (hts _ wk_cl_L_7) (hts _ wk_in_X11) (hts _ wn_X11) hK hP hD hS hA rfl kd_X11 (Nat.le_of_ble_eq_true rfl) (Nat.le_of_ble_eq_true rfl) dL_0 (fun h0 H hP hD hS => ?_)
  refine lv_dup hx hb dL_3 rfl ?_
  refine kc_call false (wr := []) (wc := [(h0, .inr (11, (.int 0 :: .long 0 :: .long 0 :: .null :: .null :: .int 0 :: .null :: .null :: .int 0 :: .int 0 :: .null :: .null :: .null :: .int 0 :: .null :: .null :: .int 0 :: .null :: .null :: .null :: [])))]) (As := []) (rest := [.ref h0]) (b := h0) X hN hP hD hS (kX11_init) okX11_init wl_L_9 wi_X11_init rfl rfl rfl ⟨(Nat.le_of_ble_eq_true rfl), (Nat.le_of_ble_eq_true rfl)⟩ rfl hl.1 (Nat.le_of_ble_eq_true rfl) ⟨(Nat.le_of_ble_eq_true rfl), (Nat.le_of_ble_eq_true rfl)⟩ dL_4 (fun qa H locs hq hP2 hD2 hS2 => ?_)
  subst hq
  have hP : va_P (dC, dI) classes (kj_W ca qa) H := hP2
  have hD : va_D A (kj_W ca qa) := hD2
  have hS := hS2
  refine lv_astore_n (lv' := [(1, .ref (qa 0 0)), (0, .ref b)]) hx hb dL_7 rfl hl (by decide) rfl (fun ls hl => ?_)
  refine va_new (ci := 12) (fs := (.int 0 :: .int 0 :: .long 0 :: .long 0 :: .null :: .null :: .null :: .null :: .int 0 :: .int 0 :: .int 0 :: .int 0 :: .int 0 :: .int 0 :: .int 0 :: .int 0 :: .int 0 :: .int 0 :: .int 0 :: .long 0 :: .null :: .null :: .null :: .int 0 :: .int 0 :: .int 0 :: .null :: .int 0 :: .int 0 :: .long 0 :: .long 0 :: .int 0 :: .null :: .int 0 :: .int 0 :: .null :: .null :: .int 0 :: .int 0 :: .null :: .int 0 :: .int 0 :: .int 0 :: .int 0 :: .int 0 :: .int 0 :: .int 0 :: .int 0 :: .int 0 :: [])) (C := RX12) (T := TX12) (N := 49) hx hb hts i_X12 tyX12 tyX12_ok hown (hts _ wk_cl_L_10) (hts _ wk_in_X12) (hts _ wn_X12) hK hP hD hS hA rfl kd_X12 (Nat.le_of_ble_eq_true rfl) (Nat.le_of_ble_eq_true rfl) dL_8 (fun h1 H hP hD hS => ?_)
  refine lv_dup hx hb dL_11 rfl ?_
  refine kc_call false (wr := kj_W ca qa) (wc := [(h1, .inr (12, (.int 0 :: .int 0 :: .long 0 :: .long 0 :: .null :: .null :: .null :: .null :: .int 0 :: .int 0 :: .int 0 :: .int 0 :: .int 0 :: .int 0 :: .int 0 :: .int 0 :: .int 0 :: .int 0 :: .int 0 :: .long 0 :: .null :: .null :: .null :: .int 0 :: .int 0 :: .int 0 :: .null :: .int 0 :: .int 0 :: .long 0 :: .long 0 :: .int 0 :: .null :: .int 0 :: .int 0 :: .null :: .null :: .int 0 :: .int 0 :: .null :: .int 0 :: .int 0 :: .int 0 :: .int 0 :: .int 0 :: .int 0 :: .int 0 :: .int 0 :: .int 0 :: [])))]) (As := []) (rest := [.ref h1]) (b := h1) X hN hP hD hS (kX12_init hz) okX12_init wl_L_12 wi_X12_init rfl rfl rfl ⟨(Nat.le_of_ble_eq_true rfl), (Nat.le_of_ble_eq_true rfl)⟩ rfl hl.1 (Nat.le_of_ble_eq_true rfl) ⟨(Nat.le_of_ble_eq_true rfl), (Nat.le_of_ble_eq_true rfl)⟩ dL_12 (fun qm H locs hq hP2 hD2 hS2 => ?_)
  subst hq
  refine lv_astore_n (lv' := [(2, .ref (qm 0 0)), (1, .ref (qa 0 0)), (0, .ref b)]) hx hb dL_15 rfl hl (by decide) rfl (fun ls hl => ?_)
  refine lv_iconst (v := (0 : Int32)) hx hb dL_16 (by decide) ?_
  refine lv_istore_n (lv' := [(3, .int (0 : Int32)), (2, .ref (qm 0 0)), (1, .ref (qa 0 0)), (0, .ref b)]) hx hb dL_17 rfl hl (by decide) rfl (fun ls hl => ?_)
  have hP : va_P (dC, dI) classes (kj_W ca (fun j => if j = 30 then qm 0 else qa j) ++ w12 ca ((fun j => if j = 30 then qm 0 else qa j) 30) z) H := hP2
  have hD : va_D A (kj_W ca (fun j => if j = 30 then qm 0 else qa j) ++ w12 ca ((fun j => if j = 30 then qm 0 else qa j) 30) z) := hD2
  have hS := hS2
  refine K (fun j => if j = 30 then qm 0 else qa j) _ _ _ _ _ _ _ _ _ _ _ _ _ _ _ _ _ _ _ _ _ _ _ _ _ _ _ _ _ _ _ _ _ _ _ _ _ _ hRel H locs ls (tc_Pm (ls_W ca _ z) hP) (tc_Dm (ls_W ca _ z) hD) hS ⟨hl.1, hl.2.1, fun v hv => hl.2.2 v ?_⟩
  simp only [List.mem_cons] at hv ⊢
  rcases hv with h | h | h | h | h
  · exact Or.inr (Or.inr (Or.inr (Or.inl h)))
  · exact Or.inr (Or.inr (Or.inl h))
  · exact Or.inr (Or.inl h)
  · exact Or.inl h
  · exact absurd h (by simp)
end LB
