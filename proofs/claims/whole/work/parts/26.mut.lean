/-! calls that change cells of the table at hand -/
theorem q_cnt1 : ∀ z, z < 256 → fJ6_bitCount_0f7a4 (nI z) = fX12_sizeOf (nI z) := by decide +kernel
theorem q_cnt2 : ∀ z, z < 256 → (fX12_sizeOf (nI z)).isSome = true := by decide +kernel
theorem q_cnt {z : Nat} (h : z < 256) : ∃ r, fJ6_bitCount_0f7a4 (nI z) = some r ∧ fX12_sizeOf (nI z) = some r := by
  have h1 := q_cnt1 z h
  have h2 := q_cnt2 z h
  obtain ⟨r, hr⟩ := Option.isSome_iff_exists.mp h2
  exact ⟨r, by rw [h1, hr], hr⟩
theorem o_rule : op_rule Rl := by
  intro SC SY0 SY1 SY2 SY3 SB ST0 SE0 ST2 SE2 ST3 SE3 ST4 SE4 SV0 SM SP0 hR a1
  obtain ⟨hs, hF, hU, hT, ⟨hY0, hY1, hY2, hY3⟩, ⟨t, w, hC, hN0, n1, n2, n3, hE⟩, hK, hV⟩ := id hR
  have hN := tb_N0 hN0
  have hN2 : tb_N (si (si SM 1 (nI 0)) 0 (nI 0)) t := hN
  have hNu : ∀ i, i < 92 → ra SM 5 i = nI (t i) := hN
  obtain ⟨w0, w1, w2, w3, w4, w5, w6, w7, w8, w9⟩ := id w
  obtain ⟨h0, h1, h2, h3, h4, h5, h6, h7, h8, h9, h10, h11, h12, h13, h14, h15, h16⟩ := id hC
  have hI := q_isInL a1 (b := 16) 17 (by omega) (by decide)
  have ex : fX11_rule_10 SP0 SC ST0 = some (nI 0, si SC 0 (nI 5), ST0) := by simp only [fX11_rule_10, fX11_answer, fX11_refuse, fX11_deny, fX11_grant, fX12_refuse, fX12_no, l_0, l_1, l_2, l_3, l_4, l_5, l_6, l_7, l_8, l_9, l_10, l_11, l_12, l_13, l_14, l_15, l_16, l_17, l_18, l_19, l_20, l_21, l_22, l_23, l_24, l_25, l_30, l_31, l_32, l_40, l_48, l_54, l_57, l_59, l_60, l_61, l_62, l_63, l_65, l_66, l_72, l_82, l_92, l_93, l_94, l_97, l_99, l_100, l_101, l_102, l_103, l_104, l_105, l_107, l_108, l_109, l_110, l_111, l_112, l_114, l_115, l_116, l_117, l_119, l_121, l_122, l_136, l_200, l_255, l_300, l_364, l_900, l_1000, l_1456, l_1458, l_1459, l_1460, l_1462, l_1471, l_1504, l_1510, l_1522, l_1550, l_2971, l_9999, l_10000, l_10979, l_65536, l_m1, Option.bind_some, if_true, if_false, reduceIte, ite_not, not_true_eq_false, not_false_eq_true, q_z1, Nat.reduceEqDiff, q_z0]
  rcases q_ix a1 17 (by omega) with ⟨h, e⟩ | ⟨h, h2', e⟩ | ⟨j, hj, rfl⟩
  · simp (disch := omega) only [fX11_rule, fX12_rule, fX11_answer, fX11_refuse, fX11_deny, fX11_grant, fX12_refuse, fX12_no, ex, hI, e, bi, b2_0, h, l_0, l_1, l_2, l_3, l_4, l_5, l_6, l_7, l_8, l_9, l_10, l_11, l_12, l_13, l_14, l_15, l_16, l_17, l_18, l_19, l_20, l_21, l_22, l_23, l_24, l_25, l_30, l_31, l_32, l_40, l_48, l_54, l_57, l_59, l_60, l_61, l_62, l_63, l_65, l_66, l_72, l_82, l_92, l_93, l_94, l_97, l_99, l_100, l_101, l_102, l_103, l_104, l_105, l_107, l_108, l_109, l_110, l_111, l_112, l_114, l_115, l_116, l_117, l_119, l_121, l_122, l_136, l_200, l_255, l_300, l_364, l_900, l_1000, l_1456, l_1458, l_1459, l_1460, l_1462, l_1471, l_1504, l_1510, l_1522, l_1550, l_2971, l_9999, l_10000, l_10979, l_65536, l_m1, nI_add, pk_mul, q_sub, q_ltT, q_ltF, q_leT, q_leF, q_eqT, q_eqF, q_inT, q_inF, nI_clamp, q_mlt, q_mle, q_mne, q_mne2, q_mnlt, q_mnle, Option.bind_some, if_true, if_false, reduceIte, ite_not, not_true_eq_false, not_false_eq_true, q_z1, Nat.reduceEqDiff, q_z0]
    exact ⟨_, _, rfl, rfl, rfl, rl_st2 hR _ _⟩
  · simp (disch := omega) only [fX11_rule, fX12_rule, fX11_answer, fX11_refuse, fX11_deny, fX11_grant, fX12_refuse, fX12_no, ex, hI, e, bi, b2_0, h2', q_bgle h, l_0, l_1, l_2, l_3, l_4, l_5, l_6, l_7, l_8, l_9, l_10, l_11, l_12, l_13, l_14, l_15, l_16, l_17, l_18, l_19, l_20, l_21, l_22, l_23, l_24, l_25, l_30, l_31, l_32, l_40, l_48, l_54, l_57, l_59, l_60, l_61, l_62, l_63, l_65, l_66, l_72, l_82, l_92, l_93, l_94, l_97, l_99, l_100, l_101, l_102, l_103, l_104, l_105, l_107, l_108, l_109, l_110, l_111, l_112, l_114, l_115, l_116, l_117, l_119, l_121, l_122, l_136, l_200, l_255, l_300, l_364, l_900, l_1000, l_1456, l_1458, l_1459, l_1460, l_1462, l_1471, l_1504, l_1510, l_1522, l_1550, l_2971, l_9999, l_10000, l_10979, l_65536, l_m1, nI_add, pk_mul, q_sub, q_ltT, q_ltF, q_leT, q_leF, q_eqT, q_eqF, q_inT, q_inF, nI_clamp, q_mlt, q_mle, q_mne, q_mne2, q_mnlt, q_mnle, Option.bind_some, if_true, if_false, reduceIte, ite_not, not_true_eq_false, not_false_eq_true, q_z1, Nat.reduceEqDiff, q_z0]
    exact ⟨_, _, rfl, rfl, rfl, rl_st2 hR _ _⟩
  · have e : inb (nI j) 17 = true := q_inT hj (by omega)
    simp (disch := omega) only [fX11_rule, fX12_rule, fX11_answer, fX11_refuse, fX11_deny, fX11_grant, fX12_refuse, fX12_no, ex, hI, e, bi, b2_1, l_0, l_1, l_2, l_3, l_4, l_5, l_6, l_7, l_8, l_9, l_10, l_11, l_12, l_13, l_14, l_15, l_16, l_17, l_18, l_19, l_20, l_21, l_22, l_23, l_24, l_25, l_30, l_31, l_32, l_40, l_48, l_54, l_57, l_59, l_60, l_61, l_62, l_63, l_65, l_66, l_72, l_82, l_92, l_93, l_94, l_97, l_99, l_100, l_101, l_102, l_103, l_104, l_105, l_107, l_108, l_109, l_110, l_111, l_112, l_114, l_115, l_116, l_117, l_119, l_121, l_122, l_136, l_200, l_255, l_300, l_364, l_900, l_1000, l_1456, l_1458, l_1459, l_1460, l_1462, l_1471, l_1504, l_1510, l_1522, l_1550, l_2971, l_9999, l_10000, l_10979, l_65536, l_m1, nI_add, pk_mul, q_sub, q_ltT, q_ltF, q_leT, q_leF, q_eqT, q_eqF, q_inT, q_inF, nI_clamp, q_mlt, q_mle, q_mne, q_mne2, q_mnlt, q_mnle, q_gi, q_gil, q_gir, q_giR, q_gl, q_gli, q_glr, q_glR, q_ra, q_rai, q_ral, q_raR, q_rl, q_rli, q_rll, q_rlr, sa, sA, ia, la, q_srsr, q_sRsR, Option.bind_some, if_true, if_false, reduceIte, ite_not, not_true_eq_false, not_false_eq_true, q_z1, Nat.reduceEqDiff]
    refine ⟨_, _, rfl, rfl, rfl, rl_mut1 hR w n1 n2 n3 hE (t' := tu t 4 j) ⟨⟨rfl, rfl⟩, rfl, rfl, rfl, rfl, rfl, rfl, rfl, rfl, rfl, rfl⟩ rfl (fun i hi => up_n _ _ _ (by omega)) rfl rfl rfl rfl rfl ?_ (C_odds w hC) (N_upd hN rfl)⟩
    exact W_upd w (by omega) (by omega) (by omega) (by omega) (by omega) (by omega) (by omega) (by omega) (by omega) (by omega) (by omega) (by omega)
theorem o_prop : op_prop Rl := by
  intro SC SY0 SY1 SY2 SY3 SB ST0 SE0 ST2 SE2 ST3 SE3 ST4 SE4 SV0 SM SP0 hR a1
  obtain ⟨hs, hF, hU, hT, ⟨hY0, hY1, hY2, hY3⟩, ⟨t, w, hC, hN0, n1, n2, n3, hE⟩, hK, hV⟩ := id hR
  have hN := tb_N0 hN0
  have hN2 : tb_N (si (si SM 1 (nI 0)) 0 (nI 0)) t := hN
  have hNu : ∀ i, i < 92 → ra SM 5 i = nI (t i) := hN
  obtain ⟨w0, w1, w2, w3, w4, w5, w6, w7, w8, w9⟩ := id w
  obtain ⟨h0, h1, h2, h3, h4, h5, h6, h7, h8, h9, h10, h11, h12, h13, h14, h15, h16⟩ := id hC
  have e1 := T_isClaim w hC a1
  have e2 := N_isClaimAt w hN2 a1
  rcases q_ix a1 (t 1) (by omega) with ⟨h, e⟩ | ⟨h, h2', e⟩ | ⟨k, hk, rfl⟩
  · simp (disch := omega) only [fX11_prop, fX12_prop, fX11_answer, fX11_refuse, fX11_deny, fX11_grant, fX12_refuse, fX12_no, e1, e2, e, bi, b2_0, l_0, l_1, l_2, l_3, l_4, l_5, l_6, l_7, l_8, l_9, l_10, l_11, l_12, l_13, l_14, l_15, l_16, l_17, l_18, l_19, l_20, l_21, l_22, l_23, l_24, l_25, l_30, l_31, l_32, l_40, l_48, l_54, l_57, l_59, l_60, l_61, l_62, l_63, l_65, l_66, l_72, l_82, l_92, l_93, l_94, l_97, l_99, l_100, l_101, l_102, l_103, l_104, l_105, l_107, l_108, l_109, l_110, l_111, l_112, l_114, l_115, l_116, l_117, l_119, l_121, l_122, l_136, l_200, l_255, l_300, l_364, l_900, l_1000, l_1456, l_1458, l_1459, l_1460, l_1462, l_1471, l_1504, l_1510, l_1522, l_1550, l_2971, l_9999, l_10000, l_10979, l_65536, l_m1, nI_add, pk_mul, q_sub, q_ltT, q_ltF, q_leT, q_leF, q_eqT, q_eqF, q_inT, q_inF, nI_clamp, q_mlt, q_mle, q_mne, q_mne2, q_mnlt, q_mnle, Option.bind_some, if_true, if_false, reduceIte, ite_not, not_true_eq_false, not_false_eq_true, q_z1, Nat.reduceEqDiff]
    exact ⟨_, _, rfl, rfl, rfl, rl_st2 hR _ _⟩
  · simp (disch := omega) only [fX11_prop, fX12_prop, fX11_answer, fX11_refuse, fX11_deny, fX11_grant, fX12_refuse, fX12_no, e1, e2, e, bi, b2_0, l_0, l_1, l_2, l_3, l_4, l_5, l_6, l_7, l_8, l_9, l_10, l_11, l_12, l_13, l_14, l_15, l_16, l_17, l_18, l_19, l_20, l_21, l_22, l_23, l_24, l_25, l_30, l_31, l_32, l_40, l_48, l_54, l_57, l_59, l_60, l_61, l_62, l_63, l_65, l_66, l_72, l_82, l_92, l_93, l_94, l_97, l_99, l_100, l_101, l_102, l_103, l_104, l_105, l_107, l_108, l_109, l_110, l_111, l_112, l_114, l_115, l_116, l_117, l_119, l_121, l_122, l_136, l_200, l_255, l_300, l_364, l_900, l_1000, l_1456, l_1458, l_1459, l_1460, l_1462, l_1471, l_1504, l_1510, l_1522, l_1550, l_2971, l_9999, l_10000, l_10979, l_65536, l_m1, nI_add, pk_mul, q_sub, q_ltT, q_ltF, q_leT, q_leF, q_eqT, q_eqF, q_inT, q_inF, nI_clamp, q_mlt, q_mle, q_mne, q_mne2, q_mnlt, q_mnle, Option.bind_some, if_true, if_false, reduceIte, ite_not, not_true_eq_false, not_false_eq_true, q_z1, Nat.reduceEqDiff]
    exact ⟨_, _, rfl, rfl, rfl, rl_st2 hR _ _⟩
  · have ek : inb (nI k) (t 1) = true := q_inT hk (by omega)
    have b6 := w6 k hk
    have e3 := T_isPropped w hC hk
    rcases (by omega : t (40 + k) = 1 ∨ t (40 + k) = 0) with c | c
    · simp (disch := omega) only [fX11_prop, fX12_prop, fX12_becomes, fX11_answer, fX11_refuse, fX11_deny, fX11_grant, fX12_refuse, fX12_no, e1, e2, ek, e3, c, bi, b2_1, b2_0, decide_true, hNu, l_0, l_1, l_2, l_3, l_4, l_5, l_6, l_7, l_8, l_9, l_10, l_11, l_12, l_13, l_14, l_15, l_16, l_17, l_18, l_19, l_20, l_21, l_22, l_23, l_24, l_25, l_30, l_31, l_32, l_40, l_48, l_54, l_57, l_59, l_60, l_61, l_62, l_63, l_65, l_66, l_72, l_82, l_92, l_93, l_94, l_97, l_99, l_100, l_101, l_102, l_103, l_104, l_105, l_107, l_108, l_109, l_110, l_111, l_112, l_114, l_115, l_116, l_117, l_119, l_121, l_122, l_136, l_200, l_255, l_300, l_364, l_900, l_1000, l_1456, l_1458, l_1459, l_1460, l_1462, l_1471, l_1504, l_1510, l_1522, l_1550, l_2971, l_9999, l_10000, l_10979, l_65536, l_m1, nI_add, pk_mul, q_sub, q_ltT, q_ltF, q_leT, q_leF, q_eqT, q_eqF, q_inT, q_inF, nI_clamp, q_mlt, q_mle, q_mne, q_mne2, q_mnlt, q_mnle, q_gi, q_gil, q_gir, q_giR, q_gl, q_gli, q_glr, q_glR, q_ra, q_rai, q_ral, q_raR, q_rl, q_rli, q_rll, q_rlr, sa, sA, ia, la, q_srsr, q_sRsR, Option.bind_some, if_true, if_false, reduceIte, ite_not, not_true_eq_false, not_false_eq_true, q_z1, Nat.reduceEqDiff]
      exact ⟨_, _, rfl, rfl, rfl, rl_st2 hR _ _⟩
    · have w' : tb_W (tu t (40 + k) 1) := W_upd w (by omega) (by omega) (by omega) (by omega) (by omega) (by omega) (by omega) (by omega) (by omega) (by omega) (by omega) (by omega)
      have hC' : tb_C (si ST0 7 (nI (bs (tb_pp (tu t (40 + k) 1)) (t 1)))) (tu t (40 + k) 1) := C_prop w hC hk
      have hN' : tb_N (sr (si (si SM 1 (nI 0)) 0 (nI 0)) 5 (upd (ra SM 5) (40 + k) (nI 1))) (tu t (40 + k) 1) := N_upd hN rfl
      obtain ⟨r, r1, r2⟩ := q_cnt (stn_lt w')
      have cf : ¬ (0 : Nat) = 1 := by omega
      simp (disch := omega) only [fX11_prop, fX12_prop, fX12_becomes, fX11_answer, fX11_refuse, fX11_deny, fX11_grant, fX12_refuse, fX12_no, e1, e2, ek, e3, c, bi, b2_1, b2_0, cf, decide_false, hNu, h3, q_one, q_or, ← pp_on hk, T_standing w' hC', N_stand0' w' hN', r1, r2, l_0, l_1, l_2, l_3, l_4, l_5, l_6, l_7, l_8, l_9, l_10, l_11, l_12, l_13, l_14, l_15, l_16, l_17, l_18, l_19, l_20, l_21, l_22, l_23, l_24, l_25, l_30, l_31, l_32, l_40, l_48, l_54, l_57, l_59, l_60, l_61, l_62, l_63, l_65, l_66, l_72, l_82, l_92, l_93, l_94, l_97, l_99, l_100, l_101, l_102, l_103, l_104, l_105, l_107, l_108, l_109, l_110, l_111, l_112, l_114, l_115, l_116, l_117, l_119, l_121, l_122, l_136, l_200, l_255, l_300, l_364, l_900, l_1000, l_1456, l_1458, l_1459, l_1460, l_1462, l_1471, l_1504, l_1510, l_1522, l_1550, l_2971, l_9999, l_10000, l_10979, l_65536, l_m1, nI_add, pk_mul, q_sub, q_ltT, q_ltF, q_leT, q_leF, q_eqT, q_eqF, q_inT, q_inF, nI_clamp, q_mlt, q_mle, q_mne, q_mne2, q_mnlt, q_mnle, q_gi, q_gil, q_gir, q_giR, q_gl, q_gli, q_glr, q_glR, q_ra, q_rai, q_ral, q_raR, q_rl, q_rli, q_rll, q_rlr, sa, sA, ia, la, q_srsr, q_sRsR, Option.bind_some, if_true, if_false, reduceIte, ite_not, not_true_eq_false, not_false_eq_true, q_z1, Nat.reduceEqDiff]
      exact ⟨_, _, rfl, rfl, rfl, rl_mut1 hR w n1 n2 n3 hE (t' := tu t (40 + k) 1) ⟨⟨rfl, rfl⟩, rfl, rfl, rfl, rfl, rfl, rfl, rfl, rfl, rfl, rfl⟩ rfl (fun i hi => up_n _ _ _ (by omega)) rfl rfl (tu_n _ _ _ (by omega)) (tu_n _ _ _ (by omega)) (tu_n _ _ _ (by omega)) w' hC' hN'⟩
theorem o_cut : op_cut Rl := by
  intro SC SY0 SY1 SY2 SY3 SB ST0 SE0 ST2 SE2 ST3 SE3 ST4 SE4 SV0 SM SP0 hR a1
  obtain ⟨hs, hF, hU, hT, ⟨hY0, hY1, hY2, hY3⟩, ⟨t, w, hC, hN0, n1, n2, n3, hE⟩, hK, hV⟩ := id hR
  have hN := tb_N0 hN0
  have hN2 : tb_N (si (si SM 1 (nI 0)) 0 (nI 0)) t := hN
  have hNu : ∀ i, i < 92 → ra SM 5 i = nI (t i) := hN
  obtain ⟨w0, w1, w2, w3, w4, w5, w6, w7, w8, w9⟩ := id w
  obtain ⟨h0, h1, h2, h3, h4, h5, h6, h7, h8, h9, h10, h11, h12, h13, h14, h15, h16⟩ := id hC
  have e1 := T_isClaim w hC a1
  have e2 := N_isClaimAt w hN2 a1
  rcases q_ix a1 (t 1) (by omega) with ⟨h, e⟩ | ⟨h, h2', e⟩ | ⟨k, hk, rfl⟩
  · simp (disch := omega) only [fX11_cut, fX12_cut, fX11_answer, fX11_refuse, fX11_deny, fX11_grant, fX12_refuse, fX12_no, e1, e2, e, bi, b2_0, l_0, l_1, l_2, l_3, l_4, l_5, l_6, l_7, l_8, l_9, l_10, l_11, l_12, l_13, l_14, l_15, l_16, l_17, l_18, l_19, l_20, l_21, l_22, l_23, l_24, l_25, l_30, l_31, l_32, l_40, l_48, l_54, l_57, l_59, l_60, l_61, l_62, l_63, l_65, l_66, l_72, l_82, l_92, l_93, l_94, l_97, l_99, l_100, l_101, l_102, l_103, l_104, l_105, l_107, l_108, l_109, l_110, l_111, l_112, l_114, l_115, l_116, l_117, l_119, l_121, l_122, l_136, l_200, l_255, l_300, l_364, l_900, l_1000, l_1456, l_1458, l_1459, l_1460, l_1462, l_1471, l_1504, l_1510, l_1522, l_1550, l_2971, l_9999, l_10000, l_10979, l_65536, l_m1, nI_add, pk_mul, q_sub, q_ltT, q_ltF, q_leT, q_leF, q_eqT, q_eqF, q_inT, q_inF, nI_clamp, q_mlt, q_mle, q_mne, q_mne2, q_mnlt, q_mnle, Option.bind_some, if_true, if_false, reduceIte, ite_not, not_true_eq_false, not_false_eq_true, q_z1, Nat.reduceEqDiff]
    exact ⟨_, _, rfl, rfl, rfl, rl_st2 hR _ _⟩
  · simp (disch := omega) only [fX11_cut, fX12_cut, fX11_answer, fX11_refuse, fX11_deny, fX11_grant, fX12_refuse, fX12_no, e1, e2, e, bi, b2_0, l_0, l_1, l_2, l_3, l_4, l_5, l_6, l_7, l_8, l_9, l_10, l_11, l_12, l_13, l_14, l_15, l_16, l_17, l_18, l_19, l_20, l_21, l_22, l_23, l_24, l_25, l_30, l_31, l_32, l_40, l_48, l_54, l_57, l_59, l_60, l_61, l_62, l_63, l_65, l_66, l_72, l_82, l_92, l_93, l_94, l_97, l_99, l_100, l_101, l_102, l_103, l_104, l_105, l_107, l_108, l_109, l_110, l_111, l_112, l_114, l_115, l_116, l_117, l_119, l_121, l_122, l_136, l_200, l_255, l_300, l_364, l_900, l_1000, l_1456, l_1458, l_1459, l_1460, l_1462, l_1471, l_1504, l_1510, l_1522, l_1550, l_2971, l_9999, l_10000, l_10979, l_65536, l_m1, nI_add, pk_mul, q_sub, q_ltT, q_ltF, q_leT, q_leF, q_eqT, q_eqF, q_inT, q_inF, nI_clamp, q_mlt, q_mle, q_mne, q_mne2, q_mnlt, q_mnle, Option.bind_some, if_true, if_false, reduceIte, ite_not, not_true_eq_false, not_false_eq_true, q_z1, Nat.reduceEqDiff]
    exact ⟨_, _, rfl, rfl, rfl, rl_st2 hR _ _⟩
  · have ek : inb (nI k) (t 1) = true := q_inT hk (by omega)
    have b6 := w6 k hk
    have e3 := T_isPropped w hC hk
    have cf : ¬ (0 : Nat) = 1 := by omega
    rcases (by omega : t (40 + k) = 0 ∨ t (40 + k) = 1) with c | c
    · simp (disch := omega) only [fX11_cut, fX12_cut, fX12_becomes, fX11_answer, fX11_refuse, fX11_deny, fX11_grant, fX12_refuse, fX12_no, e1, e2, ek, e3, c, bi, b2_1, b2_0, cf, decide_false, hNu, l_0, l_1, l_2, l_3, l_4, l_5, l_6, l_7, l_8, l_9, l_10, l_11, l_12, l_13, l_14, l_15, l_16, l_17, l_18, l_19, l_20, l_21, l_22, l_23, l_24, l_25, l_30, l_31, l_32, l_40, l_48, l_54, l_57, l_59, l_60, l_61, l_62, l_63, l_65, l_66, l_72, l_82, l_92, l_93, l_94, l_97, l_99, l_100, l_101, l_102, l_103, l_104, l_105, l_107, l_108, l_109, l_110, l_111, l_112, l_114, l_115, l_116, l_117, l_119, l_121, l_122, l_136, l_200, l_255, l_300, l_364, l_900, l_1000, l_1456, l_1458, l_1459, l_1460, l_1462, l_1471, l_1504, l_1510, l_1522, l_1550, l_2971, l_9999, l_10000, l_10979, l_65536, l_m1, nI_add, pk_mul, q_sub, q_ltT, q_ltF, q_leT, q_leF, q_eqT, q_eqF, q_inT, q_inF, nI_clamp, q_mlt, q_mle, q_mne, q_mne2, q_mnlt, q_mnle, q_gi, q_gil, q_gir, q_giR, q_gl, q_gli, q_glr, q_glR, q_ra, q_rai, q_ral, q_raR, q_rl, q_rli, q_rll, q_rlr, sa, sA, ia, la, q_srsr, q_sRsR, Option.bind_some, if_true, if_false, reduceIte, ite_not, not_true_eq_false, not_false_eq_true, q_z1, Nat.reduceEqDiff]
      exact ⟨_, _, rfl, rfl, rfl, rl_st2 hR _ _⟩
    · have w' : tb_W (tu t (40 + k) 0) := W_upd w (by omega) (by omega) (by omega) (by omega) (by omega) (by omega) (by omega) (by omega) (by omega) (by omega) (by omega) (by omega)
      have hC' : tb_C (si ST0 7 (nI (bs (tb_pp (tu t (40 + k) 0)) (t 1)))) (tu t (40 + k) 0) := C_prop w hC hk
      have hN' : tb_N (sr (si (si SM 1 (nI 0)) 0 (nI 0)) 5 (upd (ra SM 5) (40 + k) (nI 0))) (tu t (40 + k) 0) := N_upd hN rfl
      obtain ⟨r, r1, r2⟩ := q_cnt (stn_lt w')
      simp (disch := omega) only [fX11_cut, fX12_cut, fX12_becomes, fX11_answer, fX11_refuse, fX11_deny, fX11_grant, fX12_refuse, fX12_no, e1, e2, ek, e3, c, bi, b2_1, b2_0, decide_true, hNu, h3, q_one, q_andn, ← pp_off, T_standing w' hC', N_stand0' w' hN', r1, r2, l_0, l_1, l_2, l_3, l_4, l_5, l_6, l_7, l_8, l_9, l_10, l_11, l_12, l_13, l_14, l_15, l_16, l_17, l_18, l_19, l_20, l_21, l_22, l_23, l_24, l_25, l_30, l_31, l_32, l_40, l_48, l_54, l_57, l_59, l_60, l_61, l_62, l_63, l_65, l_66, l_72, l_82, l_92, l_93, l_94, l_97, l_99, l_100, l_101, l_102, l_103, l_104, l_105, l_107, l_108, l_109, l_110, l_111, l_112, l_114, l_115, l_116, l_117, l_119, l_121, l_122, l_136, l_200, l_255, l_300, l_364, l_900, l_1000, l_1456, l_1458, l_1459, l_1460, l_1462, l_1471, l_1504, l_1510, l_1522, l_1550, l_2971, l_9999, l_10000, l_10979, l_65536, l_m1, nI_add, pk_mul, q_sub, q_ltT, q_ltF, q_leT, q_leF, q_eqT, q_eqF, q_inT, q_inF, nI_clamp, q_mlt, q_mle, q_mne, q_mne2, q_mnlt, q_mnle, q_gi, q_gil, q_gir, q_giR, q_gl, q_gli, q_glr, q_glR, q_ra, q_rai, q_ral, q_raR, q_rl, q_rli, q_rll, q_rlr, sa, sA, ia, la, q_srsr, q_sRsR, Option.bind_some, if_true, if_false, reduceIte, ite_not, not_true_eq_false, not_false_eq_true, q_z1, Nat.reduceEqDiff]
      exact ⟨_, _, rfl, rfl, rfl, rl_mut1 hR w n1 n2 n3 hE (t' := tu t (40 + k) 0) ⟨⟨rfl, rfl⟩, rfl, rfl, rfl, rfl, rfl, rfl, rfl, rfl, rfl, rfl⟩ rfl (fun i hi => up_n _ _ _ (by omega)) rfl rfl (tu_n _ _ _ (by omega)) (tu_n _ _ _ (by omega)) (tu_n _ _ _ (by omega)) w' hC' hN'⟩
/-! one who comes to a height: he falls, or no more -/
section Q26
variable {T M : ms_T} {t : Nat → Nat}
theorem q_maxn {a : Nat} (ha : a < 2147483648) : jmax (nI 0) (nI a) = nI a := by
  unfold jmax
  by_cases c : a = 0
  · subst c; rfl
  · rw [if_pos (nI_lt (by omega) ha)]
/-- the height of p is v, and whether he falls f -/
def tm (t : Nat → Nat) (p v f : Nat) : Nat → Nat := tu (tu t (54 + p) v) (60 + p) f
theorem tm_0 {p v f : Nat} {j : Nat} (h1 : j ≠ 54 + p) (h2 : j ≠ 60 + p) : tm t p v f j = t j := by unfold tm; rw [tu_n _ _ _ h2, tu_n _ _ _ h1]
theorem W_tm (w : tb_W t) {p v f : Nat} (hp : p < t 2) (hv : v ≤ t 0) (hf : f ≤ 1) : tb_W (tm t p v f) := by
  have b2 := w.2.2.1
  have b1 := w.2.1
  have b0 := w.1
  have w1 : tb_W (tu t (54 + p) v) := W_upd w (by omega) (by omega) (by omega) (by omega) (by omega) (by omega) (by omega) (by omega) (by omega) (by omega) (by omega) (by omega)
  have e0 : tu t (54 + p) v 0 = t 0 := tu_n _ _ _ (by omega)
  have e1 : tu t (54 + p) v 1 = t 1 := tu_n _ _ _ (by omega)
  have e2 : tu t (54 + p) v 2 = t 2 := tu_n _ _ _ (by omega)
  exact W_upd w1 (by omega) (by omega) (by omega) (by omega) (by omega) (by omega) (by omega) (by omega) (by omega) (by omega) (by omega) (by omega)
theorem C_tm (w : tb_W t) (h : tb_C T t) {p v f : Nat} (hp : p < t 2) (hv : v ≤ t 0) {x : Nat} (hx : x = bs (tb_ff (tm t p v f)) (t 2)) : tb_C (si (sr T 6 (upd (ra T 6) p (nI v))) 12 (nI x)) (tm t p v f) := by
  have b2 := w.2.2.1
  have b1 := w.2.1
  have b0 := w.1
  have w1 : tb_W (tu t (54 + p) v) := W_upd w (by omega) (by omega) (by omega) (by omega) (by omega) (by omega) (by omega) (by omega) (by omega) (by omega) (by omega) (by omega)
  have e2 : tu t (54 + p) v 2 = t 2 := tu_n _ _ _ (by omega)
  have g := C_fall w1 (C_height w h (v := v) hp) (v := f) (p := p) (by omega)
  rw [e2] at g
  rw [hx]
  exact g
theorem N_tm (h : tb_N M t) {p v f : Nat} {M' : ms_T} (e : ra M' 5 = upd (upd (ra M 5) (54 + p) (nI v)) (60 + p) (nI f)) : tb_N M' (tm t p v f) := by
  have h1 : tb_N (sr M 5 (upd (ra M 5) (54 + p) (nI v))) (tu t (54 + p) v) := N_upd h rfl
  exact N_upd h1 e
theorem ff_tm0 {p v n : Nat} (hn : n ≤ 6) (hp : p < 6) : bs (tb_ff (tm t p v 0)) n = bs (tb_ff t) n ^^^ (bs (tb_ff t) n &&& 2 ^ p) := by
  unfold tm; rw [ff_off, ff_keep hn (by omega)]
theorem ff_tm1 {p v n : Nat} (hn : n ≤ 6) (hp : p < n) : bs (tb_ff (tm t p v 1)) n = bs (tb_ff t) n ||| 2 ^ p := by
  unfold tm; rw [ff_on hp, ff_keep hn (by omega)]
theorem tm_same {p v f : Nat} (h : t (60 + p) = f) : tm t p v f = tu t (54 + p) v := by
  funext j
  unfold tm tu
  by_cases c : j = 60 + p
  · subst c
    rw [if_pos rfl, if_neg (by omega), h]
  · rw [if_neg c]
theorem W_said (w : tb_W t) {v : Nat} : tb_W (tu t 5 v) := by
  have b2 := w.2.2.1
  have b1 := w.2.1
  have b0 := w.1
  exact W_upd w (by omega) (by omega) (by omega) (by omega) (by omega) (by omega) (by omega) (by omega) (by omega) (by omega) (by omega) (by omega)
/-- what stands doesn't hang on where one is -/
theorem stn_keep {t t2 : Nat → Nat} (h1 : t2 1 = t 1) (h : ∀ j, 32 ≤ j → j < 48 → t2 j = t j) (hw : t 1 ≤ 8) : stn t2 = stn t := by
  unfold stn
  rw [h1]
  refine bs_eq (fun k hk => ?_)
  unfold stf ppb
  rw [h (40 + k) (by omega) (by omega), h (32 + k) (by omega) (by omega)]
/-- what both do when one says what he can: where he is then, and whether he falls -/
def tsay (t : Nat → Nat) (p k : Nat) : Nat → Nat := tu (tm t p (t (24 + k) + 1) (b2 (!(stn t).testBit k))) 5 (t 5 + 1)
theorem W_say (w : tb_W t) {p k : Nat} (hp : p < t 2) (hk : k < t 1) : tb_W (tsay t p k) := W_said (W_tm w hp (w.2.2.2.2.2.2.1 k hk).1 (b2_le _))
theorem T_letSay (w : tb_W t) (h : tb_C T t) {p k : Nat} (hp : p < t 2) (hk : k < t 1) (hf : t (60 + p) = 0) : ∃ T', fX7_letSay T (nI p) (nI k) = some T' ∧ tb_C T' (tsay t p k) ∧ rl T' 10 = rl T 10 := by
  have hw := w
  obtain ⟨w0, w1, w2, w3, w4, w5, w6, w7, w8, w9⟩ := id w
  obtain ⟨h0, h1, h2, h3, h4, h5, h6, h7, h8, h9, h10, h11, h12, h13, h14, h15, h16⟩ := id h
  have b6 := w6 k hk
  have bst := stn_lt w
  have wt : tb_W (tu t (54 + p) (t (24 + k) + 1)) := by
    have := W_tm w hp (v := t (24 + k) + 1) (f := 0) (by omega) (by omega)
    rwa [tm_same hf] at this
  have hC1 : tb_C (sr T 6 (upd (ra T 6) p (nI (t (24 + k) + 1)))) (tu t (54 + p) (t (24 + k) + 1)) := C_height w h hp
  have e5 : tu t (54 + p) (t (24 + k) + 1) 5 = t 5 := tu_n _ _ _ (by omega)
  have hC2 : tb_C (si (sr T 6 (upd (ra T 6) p (nI (t (24 + k) + 1)))) 16 (nI (t 5 + 1))) (tu (tu t (54 + p) (t (24 + k) + 1)) 5 (t 5 + 1)) := C_said wt hC1
  have es : stn (tu (tu t (54 + p) (t (24 + k) + 1)) 5 (t 5 + 1)) = stn t := stn_keep (by rw [tu_n _ _ _ (by omega), tu_n _ _ _ (by omega)]) (fun j a b => by rw [tu_n _ _ _ (by omega), tu_n _ _ _ (by omega)]) w1
  have hst := T_standing (W_said wt) hC2
  rw [es] at hst
  have eh := T_heightOf w h hk
  unfold tsay
  cases hb : (stn t).testBit k
  · have hC3 := C_fall (W_said wt) hC2 (v := 1) (p := p) (by rw [tu_n _ _ _ (by omega), tu_n _ _ _ (by omega)]; exact hp)
    have ee : tu (tu (tu t (54 + p) (t (24 + k) + 1)) 5 (t 5 + 1)) (60 + p) 1 = tu (tm t p (t (24 + k) + 1) (b2 (!false))) 5 (t 5 + 1) := by
      funext j
      show tu (tu (tu t (54 + p) (t (24 + k) + 1)) 5 (t 5 + 1)) (60 + p) 1 j = tu (tu (tu t (54 + p) (t (24 + k) + 1)) (60 + p) 1) 5 (t 5 + 1) j
      unfold tu
      by_cases c1 : j = 60 + p
      · rw [if_pos c1, if_neg (by omega), if_pos c1]
      · rw [if_neg c1, if_neg c1]
    have ebs : bs (tb_ff (tu (tu (tu t (54 + p) (t (24 + k) + 1)) 5 (t 5 + 1)) (60 + p) 1)) (t 2) = bs (tb_ff t) (t 2) ||| 2 ^ p := by
      rw [ff_on hp, ff_keep w2 (by omega), ff_keep w2 (by omega)]
    have e2' : tu (tu t (54 + p) (t (24 + k) + 1)) 5 (t 5 + 1) 2 = t 2 := by rw [tu_n _ _ _ (by omega), tu_n _ _ _ (by omega)]
    rw [e2', ebs, ee] at hC3
    refine ⟨_, ?_, hC3, rfl⟩
    simp (disch := omega) only [fX7_letSay, eh, h7, hst, hb, b2_0, q_bit, h5, q_one, q_or, l_0, l_1, l_2, l_3, l_4, l_5, l_6, l_7, l_8, l_9, l_10, l_11, l_12, l_13, l_14, l_15, l_16, l_17, l_18, l_19, l_20, l_21, l_22, l_23, l_24, l_25, l_30, l_31, l_32, l_40, l_48, l_54, l_57, l_59, l_60, l_61, l_62, l_63, l_65, l_66, l_72, l_82, l_92, l_93, l_94, l_97, l_99, l_100, l_101, l_102, l_103, l_104, l_105, l_107, l_108, l_109, l_110, l_111, l_112, l_114, l_115, l_116, l_117, l_119, l_121, l_122, l_136, l_200, l_255, l_300, l_364, l_900, l_1000, l_1456, l_1458, l_1459, l_1460, l_1462, l_1471, l_1504, l_1510, l_1522, l_1550, l_2971, l_9999, l_10000, l_10979, l_65536, l_m1, nI_add, pk_mul, q_sub, q_ltT, q_ltF, q_leT, q_leF, q_eqT, q_eqF, q_inT, q_inF, nI_clamp, q_mlt, q_mle, q_mne, q_mne2, q_mnlt, q_mnle, q_gi, q_gil, q_gir, q_giR, q_gl, q_gli, q_glr, q_glR, q_ra, q_rai, q_ral, q_raR, q_rl, q_rli, q_rll, q_rlr, sa, sA, ia, la, q_srsr, q_sRsR, Option.bind_some, if_true, if_false, reduceIte, ite_not, not_true_eq_false, not_false_eq_true, q_z1, Nat.reduceEqDiff]
  · have e3 : tm t p (t (24 + k) + 1) (b2 (!true)) = tu t (54 + p) (t (24 + k) + 1) := tm_same hf
    rw [e3]
    refine ⟨_, ?_, hC2, rfl⟩
    simp (disch := omega) only [fX7_letSay, eh, h7, hst, hb, b2_1, q_bit, l_0, l_1, l_2, l_3, l_4, l_5, l_6, l_7, l_8, l_9, l_10, l_11, l_12, l_13, l_14, l_15, l_16, l_17, l_18, l_19, l_20, l_21, l_22, l_23, l_24, l_25, l_30, l_31, l_32, l_40, l_48, l_54, l_57, l_59, l_60, l_61, l_62, l_63, l_65, l_66, l_72, l_82, l_92, l_93, l_94, l_97, l_99, l_100, l_101, l_102, l_103, l_104, l_105, l_107, l_108, l_109, l_110, l_111, l_112, l_114, l_115, l_116, l_117, l_119, l_121, l_122, l_136, l_200, l_255, l_300, l_364, l_900, l_1000, l_1456, l_1458, l_1459, l_1460, l_1462, l_1471, l_1504, l_1510, l_1522, l_1550, l_2971, l_9999, l_10000, l_10979, l_65536, l_m1, nI_add, pk_mul, q_sub, q_ltT, q_ltF, q_leT, q_leF, q_eqT, q_eqF, q_inT, q_inF, nI_clamp, q_mlt, q_mle, q_mne, q_mne2, q_mnlt, q_mnle, q_gi, q_gil, q_gir, q_giR, q_gl, q_gli, q_glr, q_glR, q_ra, q_rai, q_ral, q_raR, q_rl, q_rli, q_rll, q_rlr, sa, sA, ia, la, q_srsr, q_sRsR, Option.bind_some, if_true, if_false, reduceIte, ite_not, not_true_eq_false, not_false_eq_true, q_z1, Nat.reduceEqDiff]
theorem N_says (w : tb_W t) (h : tb_N M t) {p k : Nat} (hp : p < t 2) (hk : k < t 1) (hs : sayb t p k = true) : ∃ f, fX12_says M (nI p) (nI k) = some (nI 1, sr M 5 f) ∧ tb_N (sr M 5 f) (tsay t p k) ∧ (∀ i, 92 ≤ i → f i = ra M 5 i) := by
  obtain ⟨w0, w1, w2, w3, w4, w5, w6, w7, w8, w9⟩ := id w
  have hu : ∀ i, i < 92 → ra M 5 i = nI (t i) := h
  have b6 := w6 k hk
  have ec := N_canSay w h hp hk
  have wt : tb_W (tu t (54 + p) (t (24 + k) + 1)) := by
    have := W_tm w hp (v := t (24 + k) + 1) (f := t (60 + p)) (by omega) (w7 p hp).2.2.1
    rwa [tm_same rfl] at this
  have hN1 : tb_N (sr M 5 (upd (ra M 5) (54 + p) (nI (t (24 + k) + 1)))) (tu t (54 + p) (t (24 + k) + 1)) := N_upd h rfl
  have es : stn (tu t (54 + p) (t (24 + k) + 1)) = stn t := stn_keep (tu_n _ _ _ (by omega)) (fun j a b => tu_n _ _ _ (by omega)) w1
  have eh := N_isHollow wt hN1 (k := k) (by omega)
  rw [es] at eh
  have eN : tb_N (sr M 5 (upd (upd (ra M 5) (54 + p) (nI (t (24 + k) + 1))) (60 + p) (nI (b2 (!(stn t).testBit k))))) (tm t p (t (24 + k) + 1) (b2 (!(stn t).testBit k))) := N_tm h rfl
  have e5 : upd (upd (ra M 5) (54 + p) (nI (t (24 + k) + 1))) (60 + p) (nI (b2 (!(stn t).testBit k))) 5 = nI (t 5) := by
    rw [up_n _ _ _ (by omega), up_n _ _ _ (by omega)]; exact hu 5 (by omega)
  refine ⟨upd (upd (upd (ra M 5) (54 + p) (nI (t (24 + k) + 1))) (60 + p) (nI (b2 (!(stn t).testBit k)))) 5 (nI (t 5 + 1)), ?_, N_upd eN rfl, fun i hi => by rw [up_n _ _ _ (by omega), up_n _ _ _ (by omega), up_n _ _ _ (by omega)]⟩
  have fin : ∀ v : Nat, v = b2 (!(stn t).testBit k) → fX12_says_52 (sr M 5 (upd (ra M 5) (54 + p) (nI (t (24 + k) + 1)))) (nI v) (nI (60 + p)) = some (nI 1, sr M 5 (upd (upd (upd (ra M 5) (54 + p) (nI (t (24 + k) + 1))) (60 + p) (nI (b2 (!(stn t).testBit k)))) 5 (nI (t 5 + 1)))) := by
    intro v hv
    subst hv
    simp (disch := omega) only [fX12_says_52, l_0, l_1, l_2, l_3, l_4, l_5, l_6, l_7, l_8, l_9, l_10, l_11, l_12, l_13, l_14, l_15, l_16, l_17, l_18, l_19, l_20, l_21, l_22, l_23, l_24, l_25, l_30, l_31, l_32, l_40, l_48, l_54, l_57, l_59, l_60, l_61, l_62, l_63, l_65, l_66, l_72, l_82, l_92, l_93, l_94, l_97, l_99, l_100, l_101, l_102, l_103, l_104, l_105, l_107, l_108, l_109, l_110, l_111, l_112, l_114, l_115, l_116, l_117, l_119, l_121, l_122, l_136, l_200, l_255, l_300, l_364, l_900, l_1000, l_1456, l_1458, l_1459, l_1460, l_1462, l_1471, l_1504, l_1510, l_1522, l_1550, l_2971, l_9999, l_10000, l_10979, l_65536, l_m1, nI_add, pk_mul, q_sub, q_ltT, q_ltF, q_leT, q_leF, q_eqT, q_eqF, q_inT, q_inF, nI_clamp, q_mlt, q_mle, q_mne, q_mne2, q_mnlt, q_mnle, q_gi, q_gil, q_gir, q_giR, q_gl, q_gli, q_glr, q_glR, q_ra, q_rai, q_ral, q_raR, q_rl, q_rli, q_rll, q_rlr, sa, sA, ia, la, q_srsr, q_sRsR, Option.bind_some, if_true, if_false, reduceIte, ite_not, not_true_eq_false, not_false_eq_true, q_z1, Nat.reduceEqDiff, e5]
  cases hb : (stn t).testBit k
  · rw [hb] at eh fin
    simp (disch := omega) only [fX12_says, ec, hs, hu, eh, bi, b2_1, Bool.not_false, l_0, l_1, l_2, l_3, l_4, l_5, l_6, l_7, l_8, l_9, l_10, l_11, l_12, l_13, l_14, l_15, l_16, l_17, l_18, l_19, l_20, l_21, l_22, l_23, l_24, l_25, l_30, l_31, l_32, l_40, l_48, l_54, l_57, l_59, l_60, l_61, l_62, l_63, l_65, l_66, l_72, l_82, l_92, l_93, l_94, l_97, l_99, l_100, l_101, l_102, l_103, l_104, l_105, l_107, l_108, l_109, l_110, l_111, l_112, l_114, l_115, l_116, l_117, l_119, l_121, l_122, l_136, l_200, l_255, l_300, l_364, l_900, l_1000, l_1456, l_1458, l_1459, l_1460, l_1462, l_1471, l_1504, l_1510, l_1522, l_1550, l_2971, l_9999, l_10000, l_10979, l_65536, l_m1, nI_add, pk_mul, q_sub, q_ltT, q_ltF, q_leT, q_leF, q_eqT, q_eqF, q_inT, q_inF, nI_clamp, q_mlt, q_mle, q_mne, q_mne2, q_mnlt, q_mnle, q_gi, q_gil, q_gir, q_giR, q_gl, q_gli, q_glr, q_glR, q_ra, q_rai, q_ral, q_raR, q_rl, q_rli, q_rll, q_rlr, sa, sA, ia, la, q_srsr, q_sRsR, Option.bind_some, if_true, if_false, reduceIte, ite_not, not_true_eq_false, not_false_eq_true, q_z1, Nat.reduceEqDiff]
    exact fin 1 rfl
  · rw [hb] at eh fin
    simp (disch := omega) only [fX12_says, ec, hs, hu, eh, bi, b2_1, b2_0, Bool.not_true, l_0, l_1, l_2, l_3, l_4, l_5, l_6, l_7, l_8, l_9, l_10, l_11, l_12, l_13, l_14, l_15, l_16, l_17, l_18, l_19, l_20, l_21, l_22, l_23, l_24, l_25, l_30, l_31, l_32, l_40, l_48, l_54, l_57, l_59, l_60, l_61, l_62, l_63, l_65, l_66, l_72, l_82, l_92, l_93, l_94, l_97, l_99, l_100, l_101, l_102, l_103, l_104, l_105, l_107, l_108, l_109, l_110, l_111, l_112, l_114, l_115, l_116, l_117, l_119, l_121, l_122, l_136, l_200, l_255, l_300, l_364, l_900, l_1000, l_1456, l_1458, l_1459, l_1460, l_1462, l_1471, l_1504, l_1510, l_1522, l_1550, l_2971, l_9999, l_10000, l_10979, l_65536, l_m1, nI_add, pk_mul, q_sub, q_ltT, q_ltF, q_leT, q_leF, q_eqT, q_eqF, q_inT, q_inF, nI_clamp, q_mlt, q_mle, q_mne, q_mne2, q_mnlt, q_mnle, q_gi, q_gil, q_gir, q_giR, q_gl, q_gli, q_glr, q_glR, q_ra, q_rai, q_ral, q_raR, q_rl, q_rli, q_rll, q_rlr, sa, sA, ia, la, q_srsr, q_sRsR, Option.bind_some, if_true, if_false, reduceIte, ite_not, not_true_eq_false, not_false_eq_true, q_z1, Nat.reduceEqDiff]
    exact fin 0 rfl
theorem N_saysNo (w : tb_W t) (h : tb_N M t) {p k : Nat} (hp : p < t 2) (hk : k < t 1) (hs : sayb t p k = false) : fX12_says M (nI p) (nI k) = some (nI 0, M) := by
  have ec := N_canSay w h hp hk
  simp (disch := omega) only [fX12_says, ec, hs, bi, b2_0, l_0, l_1, l_2, l_3, l_4, l_5, l_6, l_7, l_8, l_9, l_10, l_11, l_12, l_13, l_14, l_15, l_16, l_17, l_18, l_19, l_20, l_21, l_22, l_23, l_24, l_25, l_30, l_31, l_32, l_40, l_48, l_54, l_57, l_59, l_60, l_61, l_62, l_63, l_65, l_66, l_72, l_82, l_92, l_93, l_94, l_97, l_99, l_100, l_101, l_102, l_103, l_104, l_105, l_107, l_108, l_109, l_110, l_111, l_112, l_114, l_115, l_116, l_117, l_119, l_121, l_122, l_136, l_200, l_255, l_300, l_364, l_900, l_1000, l_1456, l_1458, l_1459, l_1460, l_1462, l_1471, l_1504, l_1510, l_1522, l_1550, l_2971, l_9999, l_10000, l_10979, l_65536, l_m1, nI_add, pk_mul, q_sub, q_ltT, q_ltF, q_leT, q_leF, q_eqT, q_eqF, q_inT, q_inF, nI_clamp, q_mlt, q_mle, q_mne, q_mne2, q_mnlt, q_mnle, Option.bind_some, if_true, if_false, reduceIte, ite_not, not_true_eq_false, not_false_eq_true, q_z1, Nat.reduceEqDiff]
theorem T_letDrop (w : tb_W t) (h : tb_C T t) {p n : Nat} (hp : p < t 2) (hn : n < 100) : ∃ T', fX7_letDrop T (nI p) (nI n) = some T' ∧ tb_C T' (tm t p (t (54 + p) - n) (if t (54 + p) - n = 0 then 0 else t (60 + p))) ∧ rl T' 10 = rl T 10 := by
  obtain ⟨w0, w1, w2, w3, w4, w5, w6, w7, w8, w9⟩ := id w
  obtain ⟨h0, h1, h2, h3, h4, h5, h6, h7, h8, h9, h10, h11, h12, h13, h14, h15, h16⟩ := id h
  have b7 := w7 p hp
  by_cases c : t (54 + p) - n = 0
  · have g := C_tm w h hp (v := t (54 + p) - n) (f := 0) (by omega) (ff_tm0 w2 (by omega)).symm
    rw [if_pos c]
    refine ⟨_, ?_, g, rfl⟩
    simp (disch := omega) only [fX7_letDrop, h13, h5, q_max0, q_maxn, up_e, q_one, q_andn, l_0, l_1, l_2, l_3, l_4, l_5, l_6, l_7, l_8, l_9, l_10, l_11, l_12, l_13, l_14, l_15, l_16, l_17, l_18, l_19, l_20, l_21, l_22, l_23, l_24, l_25, l_30, l_31, l_32, l_40, l_48, l_54, l_57, l_59, l_60, l_61, l_62, l_63, l_65, l_66, l_72, l_82, l_92, l_93, l_94, l_97, l_99, l_100, l_101, l_102, l_103, l_104, l_105, l_107, l_108, l_109, l_110, l_111, l_112, l_114, l_115, l_116, l_117, l_119, l_121, l_122, l_136, l_200, l_255, l_300, l_364, l_900, l_1000, l_1456, l_1458, l_1459, l_1460, l_1462, l_1471, l_1504, l_1510, l_1522, l_1550, l_2971, l_9999, l_10000, l_10979, l_65536, l_m1, nI_add, pk_mul, q_sub, q_ltT, q_ltF, q_leT, q_leF, q_eqT, q_eqF, q_inT, q_inF, nI_clamp, q_mlt, q_mle, q_mne, q_mne2, q_mnlt, q_mnle, q_gi, q_gil, q_gir, q_giR, q_gl, q_gli, q_glr, q_glR, q_ra, q_rai, q_ral, q_raR, q_rl, q_rli, q_rll, q_rlr, sa, sA, ia, la, q_srsr, q_sRsR, Option.bind_some, if_true, if_false, reduceIte, ite_not, not_true_eq_false, not_false_eq_true, q_z1, Nat.reduceEqDiff]
  · have g := C_height w h (v := t (54 + p) - n) hp
    rw [if_neg c, tm_same rfl]
    refine ⟨_, ?_, g, rfl⟩
    simp (disch := omega) only [fX7_letDrop, h13, h5, q_max0, q_maxn, up_e, q_one, q_andn, l_0, l_1, l_2, l_3, l_4, l_5, l_6, l_7, l_8, l_9, l_10, l_11, l_12, l_13, l_14, l_15, l_16, l_17, l_18, l_19, l_20, l_21, l_22, l_23, l_24, l_25, l_30, l_31, l_32, l_40, l_48, l_54, l_57, l_59, l_60, l_61, l_62, l_63, l_65, l_66, l_72, l_82, l_92, l_93, l_94, l_97, l_99, l_100, l_101, l_102, l_103, l_104, l_105, l_107, l_108, l_109, l_110, l_111, l_112, l_114, l_115, l_116, l_117, l_119, l_121, l_122, l_136, l_200, l_255, l_300, l_364, l_900, l_1000, l_1456, l_1458, l_1459, l_1460, l_1462, l_1471, l_1504, l_1510, l_1522, l_1550, l_2971, l_9999, l_10000, l_10979, l_65536, l_m1, nI_add, pk_mul, q_sub, q_ltT, q_ltF, q_leT, q_leF, q_eqT, q_eqF, q_inT, q_inF, nI_clamp, q_mlt, q_mle, q_mne, q_mne2, q_mnlt, q_mnle, q_gi, q_gil, q_gir, q_giR, q_gl, q_gli, q_glr, q_glR, q_ra, q_rai, q_ral, q_raR, q_rl, q_rli, q_rll, q_rlr, sa, sA, ia, la, q_srsr, q_sRsR, Option.bind_some, if_true, if_false, reduceIte, ite_not, not_true_eq_false, not_false_eq_true, q_z1, Nat.reduceEqDiff]
theorem N_lowers (w : tb_W t) (h : tb_N M t) {p n : Nat} (hp : p < t 2) (hn : n < 100) : ∃ f, fX12_lowers M (nI p) (nI n) = some (sr M 5 f) ∧ tb_N (sr M 5 f) (tm t p (t (54 + p) - n) (if t (54 + p) - n = 0 then 0 else t (60 + p))) ∧ (∀ i, 92 ≤ i → f i = ra M 5 i) := by
  obtain ⟨w0, w1, w2, w3, w4, w5, w6, w7, w8, w9⟩ := id w
  have hu : ∀ i, i < 92 → ra M 5 i = nI (t i) := h
  have b7 := w7 p hp
  by_cases c : t (54 + p) - n = 0
  · have g : tb_N (sr M 5 (upd (upd (ra M 5) (54 + p) (nI (t (54 + p) - n))) (60 + p) (nI 0))) (tm t p (t (54 + p) - n) 0) := N_tm h rfl
    rw [if_pos c]
    refine ⟨_, ?_, g, fun i hi => by rw [up_n _ _ _ (by omega), up_n _ _ _ (by omega)]⟩
    simp (disch := omega) only [fX12_lowers, hu, q_max0, q_maxn, up_e, l_0, l_1, l_2, l_3, l_4, l_5, l_6, l_7, l_8, l_9, l_10, l_11, l_12, l_13, l_14, l_15, l_16, l_17, l_18, l_19, l_20, l_21, l_22, l_23, l_24, l_25, l_30, l_31, l_32, l_40, l_48, l_54, l_57, l_59, l_60, l_61, l_62, l_63, l_65, l_66, l_72, l_82, l_92, l_93, l_94, l_97, l_99, l_100, l_101, l_102, l_103, l_104, l_105, l_107, l_108, l_109, l_110, l_111, l_112, l_114, l_115, l_116, l_117, l_119, l_121, l_122, l_136, l_200, l_255, l_300, l_364, l_900, l_1000, l_1456, l_1458, l_1459, l_1460, l_1462, l_1471, l_1504, l_1510, l_1522, l_1550, l_2971, l_9999, l_10000, l_10979, l_65536, l_m1, nI_add, pk_mul, q_sub, q_ltT, q_ltF, q_leT, q_leF, q_eqT, q_eqF, q_inT, q_inF, nI_clamp, q_mlt, q_mle, q_mne, q_mne2, q_mnlt, q_mnle, q_gi, q_gil, q_gir, q_giR, q_gl, q_gli, q_glr, q_glR, q_ra, q_rai, q_ral, q_raR, q_rl, q_rli, q_rll, q_rlr, sa, sA, ia, la, q_srsr, q_sRsR, Option.bind_some, if_true, if_false, reduceIte, ite_not, not_true_eq_false, not_false_eq_true, q_z1, Nat.reduceEqDiff]
  · have g : tb_N (sr M 5 (upd (ra M 5) (54 + p) (nI (t (54 + p) - n)))) (tu t (54 + p) (t (54 + p) - n)) := N_upd h rfl
    rw [if_neg c, tm_same rfl]
    refine ⟨_, ?_, g, fun i hi => by rw [up_n _ _ _ (by omega)]⟩
    simp (disch := omega) only [fX12_lowers, hu, q_max0, q_maxn, up_e, l_0, l_1, l_2, l_3, l_4, l_5, l_6, l_7, l_8, l_9, l_10, l_11, l_12, l_13, l_14, l_15, l_16, l_17, l_18, l_19, l_20, l_21, l_22, l_23, l_24, l_25, l_30, l_31, l_32, l_40, l_48, l_54, l_57, l_59, l_60, l_61, l_62, l_63, l_65, l_66, l_72, l_82, l_92, l_93, l_94, l_97, l_99, l_100, l_101, l_102, l_103, l_104, l_105, l_107, l_108, l_109, l_110, l_111, l_112, l_114, l_115, l_116, l_117, l_119, l_121, l_122, l_136, l_200, l_255, l_300, l_364, l_900, l_1000, l_1456, l_1458, l_1459, l_1460, l_1462, l_1471, l_1504, l_1510, l_1522, l_1550, l_2971, l_9999, l_10000, l_10979, l_65536, l_m1, nI_add, pk_mul, q_sub, q_ltT, q_ltF, q_leT, q_leF, q_eqT, q_eqF, q_inT, q_inF, nI_clamp, q_mlt, q_mle, q_mne, q_mne2, q_mnlt, q_mnle, q_gi, q_gil, q_gir, q_giR, q_gl, q_gli, q_glr, q_glR, q_ra, q_rai, q_ral, q_raR, q_rl, q_rli, q_rll, q_rlr, sa, sA, ia, la, q_srsr, q_sRsR, Option.bind_some, if_true, if_false, reduceIte, ite_not, not_true_eq_false, not_false_eq_true, q_z1, Nat.reduceEqDiff]
def lnb (t : Nat → Nat) (p : Nat) (b : Bool) : Nat := if b then lnd t (t (54 + p)) else 0
theorem T_letPull (w : tb_W t) (h : tb_C T t) {p : Nat} (hp : p < t 2) {x : Int32} {b : Bool} (hx : x = nI 0 ↔ b = false) : ∃ T', fX7_letPull T (nI p) x = some T' ∧ tb_C T' (tm t p (lnb t p b) 0) ∧ rl T' 10 = rl T 10 := by
  obtain ⟨w0, w1, w2, w3, w4, w5, w6, w7, w8, w9⟩ := id w
  obtain ⟨h0, h1, h2, h3, h4, h5, h6, h7, h8, h9, h10, h11, h12, h13, h14, h15, h16⟩ := id h
  have b7 := w7 p hp
  have hl := lnd_le t (t (54 + p))
  have el := T_landing w h (a := t (54 + p)) (by omega)
  have key : ∀ v, v ≤ t 0 → tb_C (si (sr T 6 (upd (ra T 6) p (nI v))) 12 (nI (bs (tb_ff t) (t 2) ^^^ (bs (tb_ff t) (t 2) &&& 2 ^ p)))) (tm t p v 0) := fun v hv => C_tm w h hp hv (ff_tm0 w2 (by omega)).symm
  cases b
  · have c : x = nI 0 := hx.mpr rfl
    refine ⟨_, ?_, key (lnb t p false) (by unfold lnb; simp), rfl⟩
    simp (disch := omega) only [fX7_letPull, fX7_letPull_23, c, h5, q_one, q_andn, lnb, l_0, l_1, l_2, l_3, l_4, l_5, l_6, l_7, l_8, l_9, l_10, l_11, l_12, l_13, l_14, l_15, l_16, l_17, l_18, l_19, l_20, l_21, l_22, l_23, l_24, l_25, l_30, l_31, l_32, l_40, l_48, l_54, l_57, l_59, l_60, l_61, l_62, l_63, l_65, l_66, l_72, l_82, l_92, l_93, l_94, l_97, l_99, l_100, l_101, l_102, l_103, l_104, l_105, l_107, l_108, l_109, l_110, l_111, l_112, l_114, l_115, l_116, l_117, l_119, l_121, l_122, l_136, l_200, l_255, l_300, l_364, l_900, l_1000, l_1456, l_1458, l_1459, l_1460, l_1462, l_1471, l_1504, l_1510, l_1522, l_1550, l_2971, l_9999, l_10000, l_10979, l_65536, l_m1, nI_add, pk_mul, q_sub, q_ltT, q_ltF, q_leT, q_leF, q_eqT, q_eqF, q_inT, q_inF, nI_clamp, q_mlt, q_mle, q_mne, q_mne2, q_mnlt, q_mnle, q_gi, q_gil, q_gir, q_giR, q_gl, q_gli, q_glr, q_glR, q_ra, q_rai, q_ral, q_raR, q_rl, q_rli, q_rll, q_rlr, sa, sA, ia, la, q_srsr, q_sRsR, Option.bind_some, if_true, if_false, reduceIte, ite_not, not_true_eq_false, not_false_eq_true, q_z1, Nat.reduceEqDiff, Bool.false_eq_true]
  · have c : ¬ x = nI 0 := fun e => by have := hx.mp e; cases this
    refine ⟨_, ?_, key (lnb t p true) (by unfold lnb; simp; omega), rfl⟩
    simp (disch := omega) only [fX7_letPull, fX7_letPull_23, c, h5, h13, el, q_one, q_andn, lnb, l_0, l_1, l_2, l_3, l_4, l_5, l_6, l_7, l_8, l_9, l_10, l_11, l_12, l_13, l_14, l_15, l_16, l_17, l_18, l_19, l_20, l_21, l_22, l_23, l_24, l_25, l_30, l_31, l_32, l_40, l_48, l_54, l_57, l_59, l_60, l_61, l_62, l_63, l_65, l_66, l_72, l_82, l_92, l_93, l_94, l_97, l_99, l_100, l_101, l_102, l_103, l_104, l_105, l_107, l_108, l_109, l_110, l_111, l_112, l_114, l_115, l_116, l_117, l_119, l_121, l_122, l_136, l_200, l_255, l_300, l_364, l_900, l_1000, l_1456, l_1458, l_1459, l_1460, l_1462, l_1471, l_1504, l_1510, l_1522, l_1550, l_2971, l_9999, l_10000, l_10979, l_65536, l_m1, nI_add, pk_mul, q_sub, q_ltT, q_ltF, q_leT, q_leF, q_eqT, q_eqF, q_inT, q_inF, nI_clamp, q_mlt, q_mle, q_mne, q_mne2, q_mnlt, q_mnle, q_gi, q_gil, q_gir, q_giR, q_gl, q_gli, q_glr, q_glR, q_ra, q_rai, q_ral, q_raR, q_rl, q_rli, q_rll, q_rlr, sa, sA, ia, la, q_srsr, q_sRsR, Option.bind_some, if_true, if_false, reduceIte, ite_not, not_true_eq_false, not_false_eq_true, q_z1, Nat.reduceEqDiff]
theorem N_pulls (w : tb_W t) (h : tb_N M t) {p : Nat} (hp : p < t 2) {x : Int32} {b : Bool} (hx : x = nI 0 ↔ b = false) (hf : t (60 + p) = 1) : ∃ f, fX12_pulls M (nI p) x = some (nI 1, sr M 5 f) ∧ tb_N (sr M 5 f) (tm t p (lnb t p b) 0) ∧ (∀ i, 92 ≤ i → f i = ra M 5 i) := by
  obtain ⟨w0, w1, w2, w3, w4, w5, w6, w7, w8, w9⟩ := id w
  have hu : ∀ i, i < 92 → ra M 5 i = nI (t i) := h
  have b7 := w7 p hp
  have hl := lnd_le t (t (54 + p))
  have el := N_landing w h (a := t (54 + p)) (by omega)
  have g : tb_N (sr M 5 (upd (upd (ra M 5) (54 + p) (nI (lnb t p b))) (60 + p) (nI 0))) (tm t p (lnb t p b) 0) := N_tm h rfl
  refine ⟨_, ?_, g, fun i hi => by rw [up_n _ _ _ (by omega), up_n _ _ _ (by omega)]⟩
  · cases b
    · have c : x = nI 0 := hx.mpr rfl
      simp (disch := omega) only [fX12_pulls, fX12_pulls_43, c, hu, hf, lnb, l_0, l_1, l_2, l_3, l_4, l_5, l_6, l_7, l_8, l_9, l_10, l_11, l_12, l_13, l_14, l_15, l_16, l_17, l_18, l_19, l_20, l_21, l_22, l_23, l_24, l_25, l_30, l_31, l_32, l_40, l_48, l_54, l_57, l_59, l_60, l_61, l_62, l_63, l_65, l_66, l_72, l_82, l_92, l_93, l_94, l_97, l_99, l_100, l_101, l_102, l_103, l_104, l_105, l_107, l_108, l_109, l_110, l_111, l_112, l_114, l_115, l_116, l_117, l_119, l_121, l_122, l_136, l_200, l_255, l_300, l_364, l_900, l_1000, l_1456, l_1458, l_1459, l_1460, l_1462, l_1471, l_1504, l_1510, l_1522, l_1550, l_2971, l_9999, l_10000, l_10979, l_65536, l_m1, nI_add, pk_mul, q_sub, q_ltT, q_ltF, q_leT, q_leF, q_eqT, q_eqF, q_inT, q_inF, nI_clamp, q_mlt, q_mle, q_mne, q_mne2, q_mnlt, q_mnle, q_gi, q_gil, q_gir, q_giR, q_gl, q_gli, q_glr, q_glR, q_ra, q_rai, q_ral, q_raR, q_rl, q_rli, q_rll, q_rlr, sa, sA, ia, la, q_srsr, q_sRsR, Option.bind_some, if_true, if_false, reduceIte, ite_not, not_true_eq_false, not_false_eq_true, q_z1, Nat.reduceEqDiff, Bool.false_eq_true]
    · have c : ¬ x = nI 0 := fun e => by have := hx.mp e; cases this
      simp (disch := omega) only [fX12_pulls, fX12_pulls_43, c, hu, hf, el, lnb, l_0, l_1, l_2, l_3, l_4, l_5, l_6, l_7, l_8, l_9, l_10, l_11, l_12, l_13, l_14, l_15, l_16, l_17, l_18, l_19, l_20, l_21, l_22, l_23, l_24, l_25, l_30, l_31, l_32, l_40, l_48, l_54, l_57, l_59, l_60, l_61, l_62, l_63, l_65, l_66, l_72, l_82, l_92, l_93, l_94, l_97, l_99, l_100, l_101, l_102, l_103, l_104, l_105, l_107, l_108, l_109, l_110, l_111, l_112, l_114, l_115, l_116, l_117, l_119, l_121, l_122, l_136, l_200, l_255, l_300, l_364, l_900, l_1000, l_1456, l_1458, l_1459, l_1460, l_1462, l_1471, l_1504, l_1510, l_1522, l_1550, l_2971, l_9999, l_10000, l_10979, l_65536, l_m1, nI_add, pk_mul, q_sub, q_ltT, q_ltF, q_leT, q_leF, q_eqT, q_eqF, q_inT, q_inF, nI_clamp, q_mlt, q_mle, q_mne, q_mne2, q_mnlt, q_mnle, q_gi, q_gil, q_gir, q_giR, q_gl, q_gli, q_glr, q_glR, q_ra, q_rai, q_ral, q_raR, q_rl, q_rli, q_rll, q_rlr, sa, sA, ia, la, q_srsr, q_sRsR, Option.bind_some, if_true, if_false, reduceIte, ite_not, not_true_eq_false, not_false_eq_true, q_z1, Nat.reduceEqDiff]
theorem N_pullsNo (w : tb_W t) (h : tb_N M t) {p : Nat} (hp : p < t 2) {x : Int32} (hf : t (60 + p) = 0) : fX12_pulls M (nI p) x = some (nI 0, M) := by
  obtain ⟨w0, w1, w2, w3, w4, w5, w6, w7, w8, w9⟩ := id w
  have hu : ∀ i, i < 92 → ra M 5 i = nI (t i) := h
  simp (disch := omega) only [fX12_pulls, hu, hf, l_0, l_1, l_2, l_3, l_4, l_5, l_6, l_7, l_8, l_9, l_10, l_11, l_12, l_13, l_14, l_15, l_16, l_17, l_18, l_19, l_20, l_21, l_22, l_23, l_24, l_25, l_30, l_31, l_32, l_40, l_48, l_54, l_57, l_59, l_60, l_61, l_62, l_63, l_65, l_66, l_72, l_82, l_92, l_93, l_94, l_97, l_99, l_100, l_101, l_102, l_103, l_104, l_105, l_107, l_108, l_109, l_110, l_111, l_112, l_114, l_115, l_116, l_117, l_119, l_121, l_122, l_136, l_200, l_255, l_300, l_364, l_900, l_1000, l_1456, l_1458, l_1459, l_1460, l_1462, l_1471, l_1504, l_1510, l_1522, l_1550, l_2971, l_9999, l_10000, l_10979, l_65536, l_m1, nI_add, pk_mul, q_sub, q_ltT, q_ltF, q_leT, q_leF, q_eqT, q_eqF, q_inT, q_inF, nI_clamp, q_mlt, q_mle, q_mne, q_mne2, q_mnlt, q_mnle, q_gi, q_gil, q_gir, q_giR, q_gl, q_gli, q_glr, q_glR, q_ra, q_rai, q_ral, q_raR, q_rl, q_rli, q_rll, q_rlr, sa, sA, ia, la, q_srsr, q_sRsR, Option.bind_some, if_true, if_false, reduceIte, ite_not, not_true_eq_false, not_false_eq_true, q_z1, Nat.reduceEqDiff]
end Q26
