section Q52
variable {T W : ms_T} {t : Nat → Nat}
theorem W_firstMove (w : tb_W t) (h : tb_C T t) (hw : gi W 1 = nI (stn t)) {p r i : Nat} (hp : p < t 2) (hr : r ≤ 2) (hi : am (gg t p r) (gp t p) (t 1 + 1) = some i) : fX10_firstMove W T (nI p) (nI (r + 1)) = some (if i = t 1 then nM else nI i, W, T) := by
  obtain ⟨w0, w1, w2, w3, w4, w5, w6, w7, w8, w9⟩ := id w
  have h2 := h.2.2.1
  have bst := stn_lt w
  have sb := bs_31 (fun _ k => sayb t p k) (n := t 1) (by omega)
  have sb' : says t p < 2147483648 := sb
  have hcan : says t p &&& stn t < 2147483648 := Nat.lt_of_le_of_lt Nat.and_le_left sb'
  have em := gg_max w hp hi
  obtain ⟨i1, i2, i3, i4⟩ := am_some _ _ hi
  have gle := gA_le w (p := p) (r := r + 1) hp
  have eb : ∀ k, k < t 1 → (says t p &&& stn t).testBit k = gp t p k := fun k hk1 => by
    rw [Nat.testBit_and]
    have : (says t p).testBit k = sayb t p k := by unfold says; rw [bs_bit]; simp [hk1]
    rw [this]
    unfold gp
    have : k ≠ t 1 := by omega
    simp [this, Bool.and_comm]
  have ek : ∀ k, k < t 1 → gp t p k = true → gg t p r k = mw t r (t (24 + k) + 1) := fun k hk hg => by
    have d1 : t (60 + p) ≠ 1 := by
      unfold gp sayb at hg
      have : k ≠ t 1 := by omega
      simp [this] at hg
      omega
    unfold gg
    rw [if_neg (by omega)]
    exact gA_tu w hp (by have := (w6 k hk).1; omega) (by omega) d1
  unfold fX10_firstMove
  rw [W_mostWorth w h hw hp (by omega), Option.bind_some]
  show ((fX7_sayable T (nI p)).bind fun z2 => fX10_firstMove_25 FU W T (nI (r + 1)) (nI (gA t p (r + 1))) (z2 &&& gi W 1) (nI 0)) = _
  rw [T_sayable w h hp, Option.bind_some, hw, q_and]
  obtain ⟨x, e, hx⟩ := lp_up (σ := Unit) (fun f k _ => fX10_firstMove_25 f W T (nI (r + 1)) (nI (gA t p (r + 1))) (nI (says t p &&& stn t)) k) (t 1) (fun k _ => k ≤ i) (fun x => x = (if i = t 1 then nM else nI i, W, T))
    (fun f _ hk => ⟨(nM, W, T), by simp (disch := omega) only [fX10_firstMove_25, h2, l_0, l_1, l_2, l_3, l_4, l_5, l_6, l_7, l_8, l_9, l_10, l_11, l_12, l_13, l_14, l_15, l_16, l_17, l_18, l_19, l_20, l_21, l_22, l_23, l_24, l_25, l_30, l_31, l_32, l_40, l_48, l_54, l_57, l_59, l_60, l_61, l_62, l_63, l_65, l_66, l_72, l_82, l_92, l_93, l_94, l_97, l_99, l_100, l_101, l_102, l_103, l_104, l_105, l_107, l_108, l_109, l_110, l_111, l_112, l_114, l_115, l_116, l_117, l_119, l_121, l_122, l_136, l_200, l_255, l_300, l_364, l_900, l_1000, l_1456, l_1458, l_1459, l_1460, l_1462, l_1471, l_1504, l_1510, l_1522, l_1550, l_2971, l_9999, l_10000, l_10979, l_65536, l_m1, nI_add, pk_mul, q_sub, q_ltT, q_ltF, q_leT, q_leF, q_eqT, q_eqF, q_inT, q_inF, nI_clamp, q_mlt, q_mle, q_mne, q_mne2, q_mnlt, q_mnle, Option.bind_some, if_true, if_false, reduceIte, ite_not, not_true_eq_false, not_false_eq_true, q_z1, Nat.reduceEqDiff], by rw [if_pos (by omega)]⟩)
    (fun f k _ hk hki => by
      have b6 := w6 k hk
      have eh := T_heightOf w h hk
      have ebk := q_bit (a := says t p &&& stn t) (k := k) hcan (by omega)
      rw [eb k hk] at ebk
      have emw := W_mw w h hw r 4 (t (24 + k) + 1) (by omega) (by omega) (by omega)
      have l1 := mw_le w r (t (24 + k) + 1) (by omega)
      cases hg : gp t p k
      · rw [hg] at ebk
        left
        refine ⟨(), ?_, ?_⟩
        · by_cases c : k = i
          · subst c; rw [hg] at i2; cases i2
          · omega
        · simp (disch := omega) only [fX10_firstMove_25, fX10_firstMove_52, h2, ebk, b2_0, l_0, l_1, l_2, l_3, l_4, l_5, l_6, l_7, l_8, l_9, l_10, l_11, l_12, l_13, l_14, l_15, l_16, l_17, l_18, l_19, l_20, l_21, l_22, l_23, l_24, l_25, l_30, l_31, l_32, l_40, l_48, l_54, l_57, l_59, l_60, l_61, l_62, l_63, l_65, l_66, l_72, l_82, l_92, l_93, l_94, l_97, l_99, l_100, l_101, l_102, l_103, l_104, l_105, l_107, l_108, l_109, l_110, l_111, l_112, l_114, l_115, l_116, l_117, l_119, l_121, l_122, l_136, l_200, l_255, l_300, l_364, l_900, l_1000, l_1456, l_1458, l_1459, l_1460, l_1462, l_1471, l_1504, l_1510, l_1522, l_1550, l_2971, l_9999, l_10000, l_10979, l_65536, l_m1, nI_add, pk_mul, q_sub, q_ltT, q_ltF, q_leT, q_leF, q_eqT, q_eqF, q_inT, q_inF, nI_clamp, q_mlt, q_mle, q_mne, q_mne2, q_mnlt, q_mnle, Option.bind_some, if_true, if_false, reduceIte, ite_not, not_true_eq_false, not_false_eq_true, q_z1, Nat.reduceEqDiff]
      · rw [hg] at ebk
        have e9 := ek k hk hg
        by_cases c : k = i
        · subst c
          right
          rw [em] at e9
          refine ⟨(nI k, W, T), ?_, by rw [if_neg (by omega)]⟩
          simp (disch := omega) only [fX10_firstMove_25, fX10_firstMove_52, h2, ebk, eh, Nat.add_sub_cancel, emw, ← e9, b2_1, l_0, l_1, l_2, l_3, l_4, l_5, l_6, l_7, l_8, l_9, l_10, l_11, l_12, l_13, l_14, l_15, l_16, l_17, l_18, l_19, l_20, l_21, l_22, l_23, l_24, l_25, l_30, l_31, l_32, l_40, l_48, l_54, l_57, l_59, l_60, l_61, l_62, l_63, l_65, l_66, l_72, l_82, l_92, l_93, l_94, l_97, l_99, l_100, l_101, l_102, l_103, l_104, l_105, l_107, l_108, l_109, l_110, l_111, l_112, l_114, l_115, l_116, l_117, l_119, l_121, l_122, l_136, l_200, l_255, l_300, l_364, l_900, l_1000, l_1456, l_1458, l_1459, l_1460, l_1462, l_1471, l_1504, l_1510, l_1522, l_1550, l_2971, l_9999, l_10000, l_10979, l_65536, l_m1, nI_add, pk_mul, q_sub, q_ltT, q_ltF, q_leT, q_leF, q_eqT, q_eqF, q_inT, q_inF, nI_clamp, q_mlt, q_mle, q_mne, q_mne2, q_mnlt, q_mnle, Option.bind_some, if_true, if_false, reduceIte, ite_not, not_true_eq_false, not_false_eq_true, q_z1, Nat.reduceEqDiff]
        · left
          have := i4 k (by omega) hg
          rw [em, e9] at this
          refine ⟨(), by omega, ?_⟩
          simp (disch := omega) only [fX10_firstMove_25, fX10_firstMove_52, h2, ebk, eh, Nat.add_sub_cancel, emw, b2_1, l_0, l_1, l_2, l_3, l_4, l_5, l_6, l_7, l_8, l_9, l_10, l_11, l_12, l_13, l_14, l_15, l_16, l_17, l_18, l_19, l_20, l_21, l_22, l_23, l_24, l_25, l_30, l_31, l_32, l_40, l_48, l_54, l_57, l_59, l_60, l_61, l_62, l_63, l_65, l_66, l_72, l_82, l_92, l_93, l_94, l_97, l_99, l_100, l_101, l_102, l_103, l_104, l_105, l_107, l_108, l_109, l_110, l_111, l_112, l_114, l_115, l_116, l_117, l_119, l_121, l_122, l_136, l_200, l_255, l_300, l_364, l_900, l_1000, l_1456, l_1458, l_1459, l_1460, l_1462, l_1471, l_1504, l_1510, l_1522, l_1550, l_2971, l_9999, l_10000, l_10979, l_65536, l_m1, nI_add, pk_mul, q_sub, q_ltT, q_ltF, q_leT, q_leF, q_eqT, q_eqF, q_inT, q_inF, nI_clamp, q_mlt, q_mle, q_mne, q_mne2, q_mnlt, q_mnle, Option.bind_some, if_true, if_false, reduceIte, ite_not, not_true_eq_false, not_false_eq_true, q_z1, Nat.reduceEqDiff]) 0 () FU (by omega) (Nat.zero_le _) (by unfold FU; omega)
  rw [hx] at e; exact e
end Q52
theorem o_moveOf : op_moveOf Rl := by
  intro SC SY0 SY1 SY2 SY3 SB ST0 SE0 ST2 SE2 ST3 SE3 ST4 SE4 SV0 SM SP0 SW hR a1 a2 a3
  obtain ⟨hs, hF, hU, hT, ⟨hY0, hY1, hY2, hY3⟩, ⟨t, w, hC, hN0, n1, n2, n3, hE⟩, hK, hV⟩ := id hR
  have hN := tb_N0 hN0
  have hN2 : tb_N (si (si SM 1 (nI 0)) 0 (nI 0)) t := hN
  have hNu : ∀ i, i < 92 → ra SM 5 i = nI (t i) := hN
  obtain ⟨w0, w1, w2, w3, w4, w5, w6, w7, w8, w9⟩ := id w
  obtain ⟨h0, h1, h2, h3, h4, h5, h6, h7, h8, h9, h10, h11, h12, h13, h14, h15, h16⟩ := id hC
  have e1 := T_whyg (SC := SC) (SP0 := SP0) w hC a1 a2 a3
  have hN1 : tb_N (si SM 1 (nI 0)) t := hN
  have e2 := N_whyg w hN1 a1 a2 a3 (l := 1) (by omega)
  have bad : ∀ v : Nat, 0 < v → v < 10 → fX11_gameStatus SC SP0 ST0 a1 a2 a3 = some (nI v) → fX12_whyNoGame (si SM 1 (nI 0)) a1 a2 a3 (nI 1) = some (nI v) → ∃ (z : Int32 × ms_T × ms_T × ms_T) (w : Int32 × ms_T), fX11_moveOf SC SP0 ST0 SW a1 a2 a3 = some z ∧ fX12_moveOf SM a1 a2 a3 = some w ∧ z.1 = w.1 ∧ Rl z.2.1 SY0 SY1 SY2 SY3 SB z.2.2.1 SE0 ST2 SE2 ST3 SE3 ST4 SE4 SV0 w.2 := by
    intro v hv hv2 g1 g2
    simp (disch := omega) only [fX11_moveOf, fX12_moveOf, fX11_answer, fX11_refuse, fX11_deny, fX11_grant, fX12_refuse, fX12_no, g1, g2, l_0, l_1, l_2, l_3, l_4, l_5, l_6, l_7, l_8, l_9, l_10, l_11, l_12, l_13, l_14, l_15, l_16, l_17, l_18, l_19, l_20, l_21, l_22, l_23, l_24, l_25, l_30, l_31, l_32, l_40, l_48, l_54, l_57, l_59, l_60, l_61, l_62, l_63, l_65, l_66, l_72, l_82, l_92, l_93, l_94, l_97, l_99, l_100, l_101, l_102, l_103, l_104, l_105, l_107, l_108, l_109, l_110, l_111, l_112, l_114, l_115, l_116, l_117, l_119, l_121, l_122, l_136, l_200, l_255, l_300, l_364, l_900, l_1000, l_1456, l_1458, l_1459, l_1460, l_1462, l_1471, l_1504, l_1510, l_1522, l_1550, l_2971, l_9999, l_10000, l_10979, l_65536, l_m1, nI_add, pk_mul, q_sub, q_ltT, q_ltF, q_leT, q_leF, q_eqT, q_eqF, q_inT, q_inF, nI_clamp, q_mlt, q_mle, q_mne, q_mne2, q_mnlt, q_mnle, q_gi, q_gil, q_gir, q_giR, q_gl, q_gli, q_glr, q_glR, q_ra, q_rai, q_ral, q_raR, q_rl, q_rli, q_rll, q_rlr, sa, sA, ia, la, q_srsr, q_sRsR, Option.bind_some, if_true, if_false, reduceIte, ite_not, not_true_eq_false, not_false_eq_true, q_z1, Nat.reduceEqDiff]
    exact ⟨_, _, rfl, rfl, rfl, rl_st hR _⟩
  rcases q_ix a1 (t 2) (by omega) with ⟨h, e⟩ | ⟨h, h2', e⟩ | ⟨p, hp, rfl⟩
  · rw [e] at e1 e2; exact bad 2 (by omega) (by omega) e1 e2
  · rw [e] at e1 e2; exact bad 2 (by omega) (by omega) e1 e2
  · rw [q_inT hp (by omega)] at e1 e2
    rcases q_ix a2 (t 2) (by omega) with ⟨h, e⟩ | ⟨h, h2', e⟩ | ⟨q, hq, rfl⟩
    · rw [e] at e1 e2; exact bad 2 (by omega) (by omega) e1 e2
    · rw [e] at e1 e2; exact bad 2 (by omega) (by omega) e1 e2
    · rw [q_inT hq (by omega)] at e1 e2
      by_cases c : p = q
      · subst c
        simp only [Bool.and_self, if_true] at e1 e2
        exact bad 5 (by omega) (by omega) e1 e2
      · have c' : ¬ nI p = nI q := fun g => c ((nI_eq (by omega) (by omega)).mp g)
        simp only [Bool.and_self, if_true, c', if_false] at e1 e2
        rcases q_ix a3 5 (by omega) with ⟨h, e⟩ | ⟨h, h2', e⟩ | ⟨n, hn, rfl⟩
        · rw [e] at e1 e2; exact bad 5 (by omega) (by omega) e1 e2
        · rw [e] at e1 e2; exact bad 5 (by omega) (by omega) e1 e2
        · rw [q_inT hn (by omega)] at e1 e2
          simp only [if_true, Bool.true_and] at e1 e2
          by_cases cn : n = 0
          · subst cn
            have e2' : fX12_whyNoGame (si SM 1 (nI 0)) (nI p) (nI q) (nI 0) (nI 1) = some (nI 5) := by rw [e2]; rfl
            simp (disch := omega) only [fX11_moveOf, fX12_moveOf, fX11_answer, fX11_refuse, fX11_deny, fX11_grant, fX12_refuse, fX12_no, e1, e2', l_0, l_1, l_2, l_3, l_4, l_5, l_6, l_7, l_8, l_9, l_10, l_11, l_12, l_13, l_14, l_15, l_16, l_17, l_18, l_19, l_20, l_21, l_22, l_23, l_24, l_25, l_30, l_31, l_32, l_40, l_48, l_54, l_57, l_59, l_60, l_61, l_62, l_63, l_65, l_66, l_72, l_82, l_92, l_93, l_94, l_97, l_99, l_100, l_101, l_102, l_103, l_104, l_105, l_107, l_108, l_109, l_110, l_111, l_112, l_114, l_115, l_116, l_117, l_119, l_121, l_122, l_136, l_200, l_255, l_300, l_364, l_900, l_1000, l_1456, l_1458, l_1459, l_1460, l_1462, l_1471, l_1504, l_1510, l_1522, l_1550, l_2971, l_9999, l_10000, l_10979, l_65536, l_m1, nI_add, pk_mul, q_sub, q_ltT, q_ltF, q_leT, q_leF, q_eqT, q_eqF, q_inT, q_inF, nI_clamp, q_mlt, q_mle, q_mne, q_mne2, q_mnlt, q_mnle, q_gi, q_gil, q_gir, q_giR, q_gl, q_gli, q_glr, q_glR, q_ra, q_rai, q_ral, q_raR, q_rl, q_rli, q_rll, q_rlr, sa, sA, ia, la, q_srsr, q_sRsR, Option.bind_some, if_true, if_false, reduceIte, ite_not, not_true_eq_false, not_false_eq_true, q_z1, Nat.reduceEqDiff]
            exact ⟨_, _, rfl, rfl, rfl, rl_st hR _⟩
          · have cn' : nI n ≠ nI 0 := fun g => cn ((nI_eq (by omega) (by omega)).mp g)
            have e2' : fX12_whyNoGame (si SM 1 (nI 0)) (nI p) (nI q) (nI n) (nI 1) = some (nI 0) := by rw [e2]; simp [cn']
            have d1 : nI (n + 1) / nI 2 = nI ((n - 1) / 2 + 1) := by rw [pk_div (by omega) (by omega) (by omega)]; congr 1; omega
            obtain ⟨i, hi, pz⟩ := plays_0 (n := n) w hN2 hp hq c (by omega) (by omega)
            obtain ⟨i1, -, -, -⟩ := am_some _ _ hi
            have fm1 := W_firstMove (W := si SW 1 (nI (stn t))) w hC rfl hp (by omega) hi
            by_cases ci : i = t 1
            · rw [if_pos ci] at fm1
              simp (disch := omega) only [fX11_moveOf, fX12_moveOf, fX11_answer, fX11_refuse, fX11_deny, fX11_grant, fX12_refuse, fX12_no, e1, e2', W_begin w hC, d1, fm1, pz, hNu, ci, l_0, l_1, l_2, l_3, l_4, l_5, l_6, l_7, l_8, l_9, l_10, l_11, l_12, l_13, l_14, l_15, l_16, l_17, l_18, l_19, l_20, l_21, l_22, l_23, l_24, l_25, l_30, l_31, l_32, l_40, l_48, l_54, l_57, l_59, l_60, l_61, l_62, l_63, l_65, l_66, l_72, l_82, l_92, l_93, l_94, l_97, l_99, l_100, l_101, l_102, l_103, l_104, l_105, l_107, l_108, l_109, l_110, l_111, l_112, l_114, l_115, l_116, l_117, l_119, l_121, l_122, l_136, l_200, l_255, l_300, l_364, l_900, l_1000, l_1456, l_1458, l_1459, l_1460, l_1462, l_1471, l_1504, l_1510, l_1522, l_1550, l_2971, l_9999, l_10000, l_10979, l_65536, l_m1, nI_add, q_eqT, q_eqF, q_leT, nI_clamp, q_gi, q_gil, q_gir, q_giR, q_gl, q_gli, q_glr, q_glR, q_ra, q_rai, q_ral, q_raR, q_rl, q_rli, q_rll, q_rlr, sa, sA, ia, la, q_srsr, q_sRsR, Option.bind_some, if_true, if_false, reduceIte, ite_not, not_true_eq_false, not_false_eq_true, q_z1, Nat.reduceEqDiff]
              exact ⟨_, _, rfl, rfl, rfl, rl_scr38b hR _ _ _⟩
            · rw [if_neg ci] at fm1
              simp (disch := omega) only [fX11_moveOf, fX12_moveOf, fX11_answer, fX11_refuse, fX11_deny, fX11_grant, fX12_refuse, fX12_no, e1, e2', W_begin w hC, d1, fm1, pz, hNu, ci, q_mne2, l_0, l_1, l_2, l_3, l_4, l_5, l_6, l_7, l_8, l_9, l_10, l_11, l_12, l_13, l_14, l_15, l_16, l_17, l_18, l_19, l_20, l_21, l_22, l_23, l_24, l_25, l_30, l_31, l_32, l_40, l_48, l_54, l_57, l_59, l_60, l_61, l_62, l_63, l_65, l_66, l_72, l_82, l_92, l_93, l_94, l_97, l_99, l_100, l_101, l_102, l_103, l_104, l_105, l_107, l_108, l_109, l_110, l_111, l_112, l_114, l_115, l_116, l_117, l_119, l_121, l_122, l_136, l_200, l_255, l_300, l_364, l_900, l_1000, l_1456, l_1458, l_1459, l_1460, l_1462, l_1471, l_1504, l_1510, l_1522, l_1550, l_2971, l_9999, l_10000, l_10979, l_65536, l_m1, nI_add, q_eqT, q_eqF, q_leT, nI_clamp, q_gi, q_gil, q_gir, q_giR, q_gl, q_gli, q_glr, q_glR, q_ra, q_rai, q_ral, q_raR, q_rl, q_rli, q_rll, q_rlr, sa, sA, ia, la, q_srsr, q_sRsR, Option.bind_some, if_true, if_false, reduceIte, ite_not, not_true_eq_false, not_false_eq_true, q_z1, Nat.reduceEqDiff]
              exact ⟨_, _, rfl, rfl, rfl, rl_scr38 hR _ _⟩
