/-! live, mean -/
section Q73
variable {T V M E S : ms_T} {t : Nat → Nat}
theorem run_both (w : tb_W t) (h : tb_C T t) (hN : tb_N M t) {L n s : Nat} (hL : gi E 2 = nI L) (hL60 : L ≤ 60) (hn : n ≤ 30) (h93 : ra M 5 93 = nI n) (hB : ev_B E (fun i => ra M 5 i) (t 1) (t 2) 100 3 0 n 0 L) (hs : s < 65536) :
    ∃ T' V' M' t', fX0_run V T E (nI s) = some (V', T') ∧ fX12_runsEvenings M (nI s) = some M' ∧ lvr T' V' M' t' ∧ fr T M t T' M' t' := by
  have u5 : ra M 5 5 = nI (t 5) := hN 5 (by omega)
  have l0 : lvr T (si (si (si (si (si (si (si V 2 (nI s)) 4 (nI 0)) 5 (nI 0)) 6 (nI 0)) 7 (nI 0)) 8 (nI 0)) 9 (nI 0)) (si (si (si (si (si (si (si (si M 42 (nI s)) 43 (nI 0)) 44 (nI 0)) 45 (nI (t 5))) 46 (nI 0)) 47 (nI 0)) 48 (nI 0)) 41 (nI 0)) t :=
    ⟨w, h, hN, ⟨s, hs, rfl, rfl⟩, ⟨0, by omega, rfl, rfl⟩, ⟨0, rfl, rfl⟩, ⟨t 5, 0, rfl, rfl, rfl⟩, ⟨0, rfl, rfl⟩, ⟨0, rfl, rfl⟩, rfl⟩
  have fr0 : fr T M t T (si (si (si (si (si (si (si (si M 42 (nI s)) 43 (nI 0)) 44 (nI 0)) 45 (nI (t 5))) 46 (nI 0)) 47 (nI 0)) 48 (nI 0)) 41 (nI 0)) t :=
    ⟨rfl, rfl, rfl, rfl, fun k hk => by rw [q_gi, if_neg (by omega), q_gi, if_neg (by omega), q_gi, if_neg (by omega), q_gi, if_neg (by omega), q_gi, if_neg (by omega), q_gi, if_neg (by omega), q_gi, if_neg (by omega), q_gi, if_neg (by omega)], fun _ => rfl, fun _ _ => rfl, fun _ _ => rfl, fun _ => rfl⟩
  have key := ev_run (c := fun i => ra M 5 i) hL hL60 100 3 0 n 0 L (by omega) hB hn (Nat.le_refl _) 5 FU FU 0 0 T _ _ t (by omega) (by unfold FU; omega) l0 (fun _ _ _ => rfl) rfl rfl rfl rfl (by omega) (by unfold pt; omega) (by unfold FU; omega)
  have fin : ∀ M' V' T' t', fX12_doAll_2 (fX12_doAll 5) FU (si (si (si (si (si (si (si (si M 42 (nI s)) 43 (nI 0)) 44 (nI 0)) 45 (nI (t 5))) 46 (nI 0)) 47 (nI 0)) 48 (nI 0)) 41 (nI 0)) (nI n) (nI 0) = some M' → fX0_run_51 E FU (si (si (si (si (si (si (si V 2 (nI s)) 4 (nI 0)) 5 (nI 0)) 6 (nI 0)) 7 (nI 0)) 8 (nI 0)) 9 (nI 0)) T (nI 0) (nI 0) = some (V', T') → lvr T' V' M' t' → fr T (si (si (si (si (si (si (si (si M 42 (nI s)) 43 (nI 0)) 44 (nI 0)) 45 (nI (t 5))) 46 (nI 0)) 47 (nI 0)) 48 (nI 0)) 41 (nI 0)) t T' M' t' → ∃ T' V' M' t', fX0_run V T E (nI s) = some (V', T') ∧ fX12_runsEvenings M (nI s) = some M' ∧ lvr T' V' M' t' ∧ fr T M t T' M' t' := by
    intro M' V' T' t' e1 e2 e3 e4
    refine ⟨T', V', M', t', ?_, ?_, e3, fr_tr fr0 e4⟩
    · unfold fX0_run
      simp only [l_0, l_1, l_2, l_3, l_4, l_5, l_6, l_7, l_8, l_9, l_10, l_11, l_12, l_13, l_14, l_15, l_16, l_17, l_18, l_19, l_20, l_21, l_22, l_23, l_24, l_25, l_30, l_31, l_32, l_40, l_48, l_54, l_57, l_59, l_60, l_61, l_62, l_63, l_65, l_66, l_72, l_82, l_92, l_93, l_94, l_97, l_99, l_100, l_101, l_102, l_103, l_104, l_105, l_107, l_108, l_109, l_110, l_111, l_112, l_114, l_115, l_116, l_117, l_119, l_121, l_122, l_136, l_200, l_255, l_300, l_364, l_900, l_1000, l_1456, l_1458, l_1459, l_1460, l_1462, l_1471, l_1504, l_1510, l_1522, l_1550, l_2971, l_9999, l_10000, l_10979, l_65536, l_m1]
      exact e2
    · have e1' : fX12_doAll 6 (si (si (si (si (si (si (si (si M 42 (nI s)) 43 (nI 0)) 44 (nI 0)) 45 (nI (t 5))) 46 (nI 0)) 47 (nI 0)) 48 (nI 0)) 41 (nI 0)) (nI 0) (nI n) = some M' := e1
      simp (disch := omega) only [fX12_runsEvenings, l_0, l_1, l_2, l_3, l_4, l_5, l_6, l_7, l_8, l_9, l_10, l_11, l_12, l_13, l_14, l_15, l_16, l_17, l_18, l_19, l_20, l_21, l_22, l_23, l_24, l_25, l_30, l_31, l_32, l_40, l_48, l_54, l_57, l_59, l_60, l_61, l_62, l_63, l_65, l_66, l_72, l_82, l_92, l_93, l_94, l_97, l_99, l_100, l_101, l_102, l_103, l_104, l_105, l_107, l_108, l_109, l_110, l_111, l_112, l_114, l_115, l_116, l_117, l_119, l_121, l_122, l_136, l_200, l_255, l_300, l_364, l_900, l_1000, l_1456, l_1458, l_1459, l_1460, l_1462, l_1471, l_1504, l_1510, l_1522, l_1550, l_2971, l_9999, l_10000, l_10979, l_65536, l_m1, ia, nI_clamp, q_rai, u5, h93, e1', Option.bind_some]
  rcases key with ⟨M', V', T', t', a1, b1, a3, a4, a5⟩ | ⟨M', V', T', t', n', v', x', a1, b1, a3, a4, a5, a6, a7, a8, a9, a10, a11, a12⟩
  · exact fin M' V' T' t' a1 b1 a3 a4
  · have hp : v' ≤ 1200 := by unfold pt at a11; omega
    obtain ⟨n', rfl⟩ : ∃ y, n' = y + 1 := ⟨n' - 1, by unfold FU at a3; omega⟩
    rw [run_out hL hL60 (by omega)] at b1
    exact fin M' V' T' t' a1 b1 a4 a5
end Q73
theorem rl_live {SC SY0 SY1 SY2 SY3 SB ST0 SE0 ST2 SE2 ST3 SE3 ST4 SE4 SV0 SM T' V' M' M'' : ms_T} {t t' : Nat → Nat} (hR : Rl SC SY0 SY1 SY2 SY3 SB ST0 SE0 ST2 SE2 ST3 SE3 ST4 SE4 SV0 SM) (n1 : ∀ i, i < t 0 → rl ST0 10 i = rl SM 7 (0 * 23 + i)) (n2 : ∀ i, i < t 1 → rl ST0 10 (9 + i) = rl SM 7 (0 * 23 + (9 + i))) (n3 : ∀ i, i < t 2 → rl ST0 10 (17 + i) = rl SM 7 (0 * 23 + (17 + i))) (hE : ev_R SE0 (fun i => ra SM 5 (0 * 364 + i)) (t 1) (t 2))
    (hl : lvr T' V' M' t') (hf : fr ST0 (si (si SM 1 (nI 0)) 0 (nI 0)) t T' M' t') (h1 : ∀ k, k ≠ 40 → gi M'' k = gi M' k) (h40 : gi M'' 40 = nI 1) (hgl : ∀ k, gl M'' k = gl M' k) (hra : ∀ k, k ≠ 12 → ra M'' k = ra M' k) (hrl : ∀ k, rl M'' k = rl M' k)
    (x0 : ra M'' 12 0 = gi V' 5) (x1 : ra M'' 12 1 = gi V' 6) (x2 : ra M'' 12 2 = gi V' 7) (x3 : ra M'' 12 3 = gi V' 8) (x4 : ra M'' 12 4 = gi V' 9) :
    Rl (si (si SC 16 (nI 1)) 0 (nI 0)) SY0 SY1 SY2 SY3 SB T' SE0 ST2 SE2 ST3 SE3 ST4 SE4 V' M'' := by
  obtain ⟨-, hF, hU, hT, hY, -, hK, hV⟩ := hR
  obtain ⟨f1, f2, f3, f4, f5, f6, f7, f8, f9⟩ := hf
  have g : ∀ k, k < 40 → k ≠ 0 → k ≠ 1 → gi M'' k = gi SM k := fun k a b c => by
    rw [h1 k (by omega), f5 k (by omega), q_gi, if_neg b, q_gi, if_neg c]
  have gL : ∀ k, gl M'' k = gl SM k := fun k => by rw [hgl, f6]; rfl
  have gA : ∀ k, k ≠ 12 → k ≠ 5 → ra M'' k = ra SM k := fun k a b => by rw [hra k a, f7 k b]; rfl
  have g5 : ∀ i, 92 ≤ i → ra M'' 5 i = ra SM 5 i := fun i hi => by rw [hra 5 (by omega), f8 i hi]; rfl
  have gR : ∀ k, rl M'' k = rl SM k := fun k => by rw [hrl, f9]; rfl
  refine ⟨?_, ?_, ?_, ?_, ?_, ?_, ?_, ?_⟩
  · show nI 0 = gi M'' 0
    rw [h1 0 (by omega), f5 0 (by omega)]; rfl
  · unfold rl_F at *; rw [gL, gL]; exact hF
  · unfold rl_U at *; rw [g 10 (by omega) (by omega) (by omega), g 11 (by omega) (by omega) (by omega)]; exact hU
  · unfold rl_T at *; rw [g 8 (by omega) (by omega) (by omega), gA 4 (by omega) (by omega)]; exact hT
  · unfold rl_Y at *; rw [gA 1 (by omega) (by omega), gA 2 (by omega) (by omega), gR 3]; exact hY
  · obtain ⟨k1, k2, k3, -⟩ := hl
    refine ⟨t', k1, k2, fun i hi => ?_, ?_, ?_, ?_, ?_⟩
    · rw [Nat.zero_mul, Nat.zero_add, hra 5 (by omega)]; exact k3 i hi
    · rw [gR 7, f1, f2]; exact n1
    · rw [gR 7, f1, f3]; exact n2
    · rw [gR 7, f1, f4]; exact n3
    · rw [f3, f4]
      refine ev_R_mono (fun i h1 h2 => ?_) (Nat.le_refl _) (Nat.le_refl _) hE
      show ra M'' 5 (0 * 364 + i) = ra SM 5 (0 * 364 + i)
      exact g5 _ (by omega)
  · unfold rl_K at *
    rw [g 23 (by omega) (by omega) (by omega)]
    obtain ⟨k, k1, k2, k3, k4, k5, k6⟩ := hK
    refine ⟨k, k1, k2, k3, fun h => ?_, fun h => ?_, fun h => ?_⟩
    · exact rl_B_keep (fun i hi => g5 _ (by omega)) (fun i hi => by rw [gR 7]) (k4 h)
    · exact rl_B_keep (fun i hi => g5 _ (by omega)) (fun i hi => by rw [gR 7]) (k5 h)
    · exact rl_B_keep (fun i hi => g5 _ (by omega)) (fun i hi => by rw [gR 7]) (k6 h)
  · exact ⟨h40.symm, Or.inr ⟨rfl, x0.symm, x1.symm, x2.symm, x3.symm, x4.symm⟩⟩
theorem o_live : op_live Rl := by
  intro SC SY0 SY1 SY2 SY3 SB ST0 SE0 ST2 SE2 ST3 SE3 ST4 SE4 SV0 SM SP0 hR a1
  obtain ⟨hs, hF, hU, hT, ⟨hY0, hY1, hY2, hY3⟩, ⟨t, w, hC, hN0, n1, n2, n3, hE⟩, hK, hV⟩ := id hR
  have hN := tb_N0 hN0
  have hN2 : tb_N (si (si SM 1 (nI 0)) 0 (nI 0)) t := hN
  have hNu : ∀ i, i < 92 → ra SM 5 i = nI (t i) := hN
  obtain ⟨w0, w1, w2, w3, w4, w5, w6, w7, w8, w9⟩ := id w
  obtain ⟨h0, h1, h2, h3, h4, h5, h6, h7, h8, h9, h10, h11, h12, h13, h14, h15, h16⟩ := id hC
  have hI := q_isInL a1 (b := 9999) 10000 (by omega) (by decide)
  have ex : fX11_live_11 SP0 SE0 SC ST0 SV0 = some (nM, si SC 0 (nI 5), ST0, SV0) := rfl
  obtain ⟨g0, L, g1, g2, g3⟩ := id hE
  rcases q_ix a1 10000 (by omega) with ⟨h, e⟩ | ⟨h, h2', e⟩ | ⟨s, hs1, rfl⟩
  · simp (disch := omega) only [fX11_live, fX12_live, ex, fX11_answer, fX11_refuse, fX11_deny, fX11_grant, fX12_refuse, fX12_no, hI, e, bi, b2_0, h, l_0, l_1, l_2, l_3, l_4, l_5, l_6, l_7, l_8, l_9, l_10, l_11, l_12, l_13, l_14, l_15, l_16, l_17, l_18, l_19, l_20, l_21, l_22, l_23, l_24, l_25, l_30, l_31, l_32, l_40, l_48, l_54, l_57, l_59, l_60, l_61, l_62, l_63, l_65, l_66, l_72, l_82, l_92, l_93, l_94, l_97, l_99, l_100, l_101, l_102, l_103, l_104, l_105, l_107, l_108, l_109, l_110, l_111, l_112, l_114, l_115, l_116, l_117, l_119, l_121, l_122, l_136, l_200, l_255, l_300, l_364, l_900, l_1000, l_1456, l_1458, l_1459, l_1460, l_1462, l_1471, l_1504, l_1510, l_1522, l_1550, l_2971, l_9999, l_10000, l_10979, l_65536, l_m1, nI_add, pk_mul, q_sub, q_ltT, q_ltF, q_leT, q_leF, q_eqT, q_eqF, q_inT, q_inF, nI_clamp, q_mlt, q_mle, q_mne, q_mne2, q_mnlt, q_mnle, Option.bind_some, if_true, if_false, reduceIte, ite_not, not_true_eq_false, not_false_eq_true, q_z1, Nat.reduceEqDiff]
    exact ⟨_, _, rfl, rfl, rfl, rl_st2 hR _ _⟩
  · simp (disch := omega) only [fX11_live, fX12_live, ex, fX11_answer, fX11_refuse, fX11_deny, fX11_grant, fX12_refuse, fX12_no, hI, e, bi, b2_0, h2', q_bgle h, l_0, l_1, l_2, l_3, l_4, l_5, l_6, l_7, l_8, l_9, l_10, l_11, l_12, l_13, l_14, l_15, l_16, l_17, l_18, l_19, l_20, l_21, l_22, l_23, l_24, l_25, l_30, l_31, l_32, l_40, l_48, l_54, l_57, l_59, l_60, l_61, l_62, l_63, l_65, l_66, l_72, l_82, l_92, l_93, l_94, l_97, l_99, l_100, l_101, l_102, l_103, l_104, l_105, l_107, l_108, l_109, l_110, l_111, l_112, l_114, l_115, l_116, l_117, l_119, l_121, l_122, l_136, l_200, l_255, l_300, l_364, l_900, l_1000, l_1456, l_1458, l_1459, l_1460, l_1462, l_1471, l_1504, l_1510, l_1522, l_1550, l_2971, l_9999, l_10000, l_10979, l_65536, l_m1, nI_add, pk_mul, q_sub, q_ltT, q_ltF, q_leT, q_leF, q_eqT, q_eqF, q_inT, q_inF, nI_clamp, q_mlt, q_mle, q_mne, q_mne2, q_mnlt, q_mnle, Option.bind_some, if_true, if_false, reduceIte, ite_not, not_true_eq_false, not_false_eq_true, q_z1, Nat.reduceEqDiff]
    exact ⟨_, _, rfl, rfl, rfl, rl_st2 hR _ _⟩
  · have e : inb (nI s) 10000 = true := q_inT hs1 (by omega)
    rcases g3 with g3 | ⟨g3, n, k1, k2, k3, k4⟩
    · have v1 : gi SE0 0 = nI 0 := g0.trans g3
      have v2 : ra SM 5 92 = nI 0 := g3
      simp (disch := omega) only [fX11_live, fX12_live, fX11_answer, fX11_refuse, fX11_deny, fX11_grant, fX12_refuse, fX12_no, hI, e, v1, v2, bi, b2_1, l_0, l_1, l_2, l_3, l_4, l_5, l_6, l_7, l_8, l_9, l_10, l_11, l_12, l_13, l_14, l_15, l_16, l_17, l_18, l_19, l_20, l_21, l_22, l_23, l_24, l_25, l_30, l_31, l_32, l_40, l_48, l_54, l_57, l_59, l_60, l_61, l_62, l_63, l_65, l_66, l_72, l_82, l_92, l_93, l_94, l_97, l_99, l_100, l_101, l_102, l_103, l_104, l_105, l_107, l_108, l_109, l_110, l_111, l_112, l_114, l_115, l_116, l_117, l_119, l_121, l_122, l_136, l_200, l_255, l_300, l_364, l_900, l_1000, l_1456, l_1458, l_1459, l_1460, l_1462, l_1471, l_1504, l_1510, l_1522, l_1550, l_2971, l_9999, l_10000, l_10979, l_65536, l_m1, nI_add, pk_mul, q_sub, q_ltT, q_ltF, q_leT, q_leF, q_eqT, q_eqF, q_inT, q_inF, nI_clamp, q_mlt, q_mle, q_mne, q_mne2, q_mnlt, q_mnle, q_gi, q_gil, q_gir, q_giR, q_gl, q_gli, q_glr, q_glR, q_ra, q_rai, q_ral, q_raR, q_rl, q_rli, q_rll, q_rlr, sa, sA, ia, la, q_srsr, q_sRsR, Option.bind_some, if_true, if_false, reduceIte, ite_not, not_true_eq_false, not_false_eq_true, q_z1, Nat.reduceEqDiff]
      exact ⟨_, _, rfl, rfl, rfl, rl_st2 hR _ _⟩
    · have v1 : gi SE0 0 = nI 1 := g0.trans g3
      have v2 : ra SM 5 92 = nI 1 := g3
      have hB : ev_B SE0 (fun i => ra (si (si SM 1 (nI 0)) 0 (nI 0)) 5 i) (t 1) (t 2) 100 3 0 n 0 L := ev_B_mono (fun i _ _ => by show ra SM 5 i = ra SM 5 (0 * 364 + i); rw [Nat.zero_mul, Nat.zero_add]) (Nat.le_refl _) (Nat.le_refl _) 100 3 0 n 0 L k1 k4
      obtain ⟨T', V', M', t', r1, r2, r3, r4⟩ := run_both (V := SV0) w hC hN2 g2 g1 k1 k2 hB (s := s) (by omega)
      obtain ⟨q1, q2, q3, q4, ⟨d, d0, d1, d2⟩, ⟨m, m1, m2⟩, ⟨a, q, aq, aq1, aq2⟩, ⟨x, x1, x2⟩, ⟨y, y1, y2⟩, z⟩ := id r3
      have u5 : ra M' 5 5 = nI (t' 5) := q3 5 (by omega)
      have hsub : nI (t' 5) - nI a = nI q := by rw [q_sub (by omega)]; congr 1; omega
      have hlive : fX12_live SM (nI s) = some (gi M' 43, si (sr M' 12 (upd (upd (upd (upd (upd (ra M' 12) 0 (gi M' 44)) 1 (nI q)) 2 (gi M' 46)) 3 (gi M' 47)) 4 (gi M' 48))) 40 (nI 1)) := by
        simp (disch := omega) only [fX12_live, hI, e, v2, r2, u5, aq2, hsub, bi, b2_1, l_0, l_1, l_2, l_3, l_4, l_5, l_6, l_7, l_8, l_9, l_10, l_11, l_12, l_13, l_14, l_15, l_16, l_17, l_18, l_19, l_20, l_21, l_22, l_23, l_24, l_25, l_30, l_31, l_32, l_40, l_48, l_54, l_57, l_59, l_60, l_61, l_62, l_63, l_65, l_66, l_72, l_82, l_92, l_93, l_94, l_97, l_99, l_100, l_101, l_102, l_103, l_104, l_105, l_107, l_108, l_109, l_110, l_111, l_112, l_114, l_115, l_116, l_117, l_119, l_121, l_122, l_136, l_200, l_255, l_300, l_364, l_900, l_1000, l_1456, l_1458, l_1459, l_1460, l_1462, l_1471, l_1504, l_1510, l_1522, l_1550, l_2971, l_9999, l_10000, l_10979, l_65536, l_m1, q_gi, q_gil, q_gir, q_giR, q_gl, q_gli, q_glr, q_glR, q_ra, q_rai, q_ral, q_raR, q_rl, q_rli, q_rll, q_rlr, sa, sA, ia, la, q_srsr, q_sRsR, Option.bind_some, if_true, if_false, reduceIte, ite_not, not_true_eq_false, not_false_eq_true, q_z1, Nat.reduceEqDiff, nI_clamp, q_eqF]
      have hcl : fX11_live SC SP0 ST0 SE0 SV0 (nI s) = some (gi V' 4, si (si SC 16 (nI 1)) 0 (nI 0), T', V') := by
        simp (disch := omega) only [fX11_live, v1, r1, fX11_answer, fX11_refuse, fX11_deny, fX11_grant, fX12_refuse, fX12_no, l_0, l_1, l_2, l_3, l_4, l_5, l_6, l_7, l_8, l_9, l_10, l_11, l_12, l_13, l_14, l_15, l_16, l_17, l_18, l_19, l_20, l_21, l_22, l_23, l_24, l_25, l_30, l_31, l_32, l_40, l_48, l_54, l_57, l_59, l_60, l_61, l_62, l_63, l_65, l_66, l_72, l_82, l_92, l_93, l_94, l_97, l_99, l_100, l_101, l_102, l_103, l_104, l_105, l_107, l_108, l_109, l_110, l_111, l_112, l_114, l_115, l_116, l_117, l_119, l_121, l_122, l_136, l_200, l_255, l_300, l_364, l_900, l_1000, l_1456, l_1458, l_1459, l_1460, l_1462, l_1471, l_1504, l_1510, l_1522, l_1550, l_2971, l_9999, l_10000, l_10979, l_65536, l_m1, nI_add, pk_mul, q_sub, q_ltT, q_ltF, q_leT, q_leF, q_eqT, q_eqF, q_inT, q_inF, nI_clamp, q_mlt, q_mle, q_mne, q_mne2, q_mnlt, q_mnle, Option.bind_some, if_true, if_false, reduceIte, ite_not, not_true_eq_false, not_false_eq_true, q_z1, Nat.reduceEqDiff]
      refine ⟨_, _, hcl, hlive, d1.trans d2.symm, ?_⟩
      refine rl_live hR n1 n2 n3 hE r3 r4 (fun k hk => by rw [q_gi, if_neg hk]; rfl) rfl (fun _ => rfl) (fun k hk => by rw [q_rai, q_ra, if_neg hk]) (fun _ => rfl) ?_ ?_ ?_ ?_ ?_
      · show upd (upd (upd (upd (upd (ra M' 12) 0 (gi M' 44)) 1 (nI q)) 2 (gi M' 46)) 3 (gi M' 47)) 4 (gi M' 48) 0 = _
        rw [up_n _ _ _ (by omega), up_n _ _ _ (by omega), up_n _ _ _ (by omega), up_n _ _ _ (by omega), up_e _ _ _ rfl, m1, m2]
      · show upd (upd (upd (upd (upd (ra M' 12) 0 (gi M' 44)) 1 (nI q)) 2 (gi M' 46)) 3 (gi M' 47)) 4 (gi M' 48) 1 = _
        rw [up_n _ _ _ (by omega), up_n _ _ _ (by omega), up_n _ _ _ (by omega), up_e _ _ _ rfl, aq1]
      · show upd (upd (upd (upd (upd (ra M' 12) 0 (gi M' 44)) 1 (nI q)) 2 (gi M' 46)) 3 (gi M' 47)) 4 (gi M' 48) 2 = _
        rw [up_n _ _ _ (by omega), up_n _ _ _ (by omega), up_e _ _ _ rfl, x1, x2]
      · show upd (upd (upd (upd (upd (ra M' 12) 0 (gi M' 44)) 1 (nI q)) 2 (gi M' 46)) 3 (gi M' 47)) 4 (gi M' 48) 3 = _
        rw [up_n _ _ _ (by omega), up_e _ _ _ rfl, y1, y2]
      · show upd (upd (upd (upd (upd (ra M' 12) 0 (gi M' 44)) 1 (nI q)) 2 (gi M' 46)) 3 (gi M' 47)) 4 (gi M' 48) 4 = _
        rw [up_e _ _ _ rfl, z]
/-! mean -/
theorem q_in120 {x : Int32} : fX12_isIn x.toInt64 (1 : Int64) (20 : Int64) = some (bi (inb x 21 && decide (x ≠ nI 0))) := by
  rw [q_isIn, Int32.toInt_toInt64]
  have e1 : (1 : Int64).toInt = 1 := by decide
  have e9 : (20 : Int64).toInt = 20 := by decide
  rw [e1, e9]
  rcases q_ix x 21 (by omega) with ⟨h, e⟩ | ⟨h, h2, e⟩ | ⟨j, hj, rfl⟩
  · rw [e, decide_eq_false]; · rfl
    rw [Int32.lt_iff_toInt_lt, nI_toInt (by omega)] at h
    omega
  · rw [e, decide_eq_false]; · rfl
    rw [Int32.le_iff_toInt_le, nI_toInt (by omega)] at h
    omega
  · rw [q_inT hj (by omega), nI_toInt (by omega)]
    by_cases c : j = 0
    · subst c; rfl
    · rw [decide_eq_true (show (1 : Int) ≤ j ∧ (j : Int) ≤ 20 by omega)]
      have : nI j ≠ nI 0 := fun g => c ((nI_eq (by omega) (by omega)).mp g)
      simp [this]
/-- what the means are reckoned on -/
def mfr (M S : ms_T) : Prop := (∀ k, k < 41 ∨ 48 < k → gi S k = gi M k) ∧ (∀ k, gl S k = gl M k) ∧ (∀ k, k ≠ 5 → k ≠ 6 → ra S k = ra M k) ∧ (∀ i, ra S 5 i = ra M 5 i) ∧ (∀ i, i < 92 → ra S 6 i = ra M 5 i) ∧ ∀ k, rl S k = rl M k
def hsum (t : Nat → Nat) : Nat := sm (fun i => t (54 + i)) (t 2)
section Q73b
variable {T V M E S : ms_T} {t : Nat → Nat}
theorem hsum_le (w : tb_W t) : hsum t ≤ 54 := by
  have w2 := w.2.2.1
  have := sm_le (f := fun i => t (54 + i)) (c := 9) (n := t 2) (fun i hi => by have := (w.2.2.2.2.2.2.2.1 i hi).2.1; have := w.1; show t (54 + i) ≤ 9; omega)
  unfold hsum; omega
theorem T_allHeights (w : tb_W t) (h : tb_C T t) : fX7_allHeights T = some (nI (hsum t)) := by
  have w2 := w.2.2.1
  have h4 := h.2.2.2.2.1
  have h13 := h.2.2.2.2.2.2.2.2.2.2.2.2.2.1
  unfold fX7_allHeights
  obtain ⟨x, e, rfl⟩ := lp_up (fun x k s => fX7_allHeights_4 T x s k) (t 2) (fun k s => s = nI (sm (fun i => t (54 + i)) k)) (fun x => x = nI (hsum t))
    (fun x s hs => ⟨s, by simp (disch := omega) only [fX7_allHeights_4, h4, l_0, l_1, l_2, l_3, l_4, l_5, l_6, l_7, l_8, l_9, l_10, l_11, l_12, l_13, l_14, l_15, l_16, l_17, l_18, l_19, l_20, l_21, l_22, l_23, l_24, l_25, l_30, l_31, l_32, l_40, l_48, l_54, l_57, l_59, l_60, l_61, l_62, l_63, l_65, l_66, l_72, l_82, l_92, l_93, l_94, l_97, l_99, l_100, l_101, l_102, l_103, l_104, l_105, l_107, l_108, l_109, l_110, l_111, l_112, l_114, l_115, l_116, l_117, l_119, l_121, l_122, l_136, l_200, l_255, l_300, l_364, l_900, l_1000, l_1456, l_1458, l_1459, l_1460, l_1462, l_1471, l_1504, l_1510, l_1522, l_1550, l_2971, l_9999, l_10000, l_10979, l_65536, l_m1, nI_add, pk_mul, q_sub, q_ltT, q_ltF, q_leT, q_leF, q_eqT, q_eqF, q_inT, q_inF, nI_clamp, q_mlt, q_mle, q_mne, q_mne2, q_mnlt, q_mnle, Option.bind_some, if_true, if_false, reduceIte, ite_not, not_true_eq_false, not_false_eq_true, q_z1, Nat.reduceEqDiff], hs⟩)
    (fun x k s hk hs => by
      left
      subst hs
      have e := h13 k hk
      refine ⟨_, rfl, ?_⟩
      rw [sm_s]
      simp (disch := omega) only [fX7_allHeights_4, h4, e, l_0, l_1, l_2, l_3, l_4, l_5, l_6, l_7, l_8, l_9, l_10, l_11, l_12, l_13, l_14, l_15, l_16, l_17, l_18, l_19, l_20, l_21, l_22, l_23, l_24, l_25, l_30, l_31, l_32, l_40, l_48, l_54, l_57, l_59, l_60, l_61, l_62, l_63, l_65, l_66, l_72, l_82, l_92, l_93, l_94, l_97, l_99, l_100, l_101, l_102, l_103, l_104, l_105, l_107, l_108, l_109, l_110, l_111, l_112, l_114, l_115, l_116, l_117, l_119, l_121, l_122, l_136, l_200, l_255, l_300, l_364, l_900, l_1000, l_1456, l_1458, l_1459, l_1460, l_1462, l_1471, l_1504, l_1510, l_1522, l_1550, l_2971, l_9999, l_10000, l_10979, l_65536, l_m1, nI_add, pk_mul, q_sub, q_ltT, q_ltF, q_leT, q_leF, q_eqT, q_eqF, q_inT, q_inF, nI_clamp, q_mlt, q_mle, q_mne, q_mne2, q_mnlt, q_mnle, q_gi, q_gil, q_gir, q_giR, q_gl, q_gli, q_glr, q_glR, q_ra, q_rai, q_ral, q_raR, q_rl, q_rli, q_rll, q_rlr, sa, sA, ia, la, q_srsr, q_sRsR, Option.bind_some, if_true, if_false, reduceIte, ite_not, not_true_eq_false, not_false_eq_true, q_z1, Nat.reduceEqDiff]) 0 (nI 0) FU (by omega) rfl (by unfold FU; omega)
  exact e
/-- the sum, and all taken back -/
theorem M_sum (w : tb_W t) (h : tb_N S t) {k91 : ms_T → Int32 → Int32 → Int64 → Int32 → Option (Int32 × ms_T)} {v1 v2 v5 : Int32} {x : Nat} : ∃ f, fX12_mean_108 k91 FU S v1 v2 (lN x) v5 (nI 0) = k91 (sr S 5 f) v1 v2 (lN (x + hsum t)) (v5 + nI 1) ∧ (∀ i, i < 92 → f i = ra S 6 i) ∧ ∀ i, 92 ≤ i → f i = ra S 5 i := by
  obtain ⟨w0, w1, w2, w3, w4, w5, w6, w7, w8, w9⟩ := id w
  have hu : ∀ i, i < 92 → ra S 5 i = nI (t i) := h
  obtain ⟨g, g1, g2⟩ := lp_eq (fun y i f => fX12_mean_142 k91 y (sr S 5 f) v1 v2 (lN (x + hsum t)) v5 i) (fun f => k91 (sr S 5 f) v1 v2 (lN (x + hsum t)) (v5 + nI 1)) 92 (fun k f => (∀ i, i < k → f i = ra S 6 i) ∧ ∀ i, k ≤ i → f i = ra S 5 i)
    (fun y f hf => by simp (disch := omega) only [fX12_mean_142, l_0, l_1, l_2, l_3, l_4, l_5, l_6, l_7, l_8, l_9, l_10, l_11, l_12, l_13, l_14, l_15, l_16, l_17, l_18, l_19, l_20, l_21, l_22, l_23, l_24, l_25, l_30, l_31, l_32, l_40, l_48, l_54, l_57, l_59, l_60, l_61, l_62, l_63, l_65, l_66, l_72, l_82, l_92, l_93, l_94, l_97, l_99, l_100, l_101, l_102, l_103, l_104, l_105, l_107, l_108, l_109, l_110, l_111, l_112, l_114, l_115, l_116, l_117, l_119, l_121, l_122, l_136, l_200, l_255, l_300, l_364, l_900, l_1000, l_1456, l_1458, l_1459, l_1460, l_1462, l_1471, l_1504, l_1510, l_1522, l_1550, l_2971, l_9999, l_10000, l_10979, l_65536, l_m1, nI_add, pk_mul, q_sub, q_ltT, q_ltF, q_leT, q_leF, q_eqT, q_eqF, q_inT, q_inF, nI_clamp, q_mlt, q_mle, q_mne, q_mne2, q_mnlt, q_mnle, Option.bind_some, if_true, if_false, reduceIte, ite_not, not_true_eq_false, not_false_eq_true, q_z1, Nat.reduceEqDiff])
    (fun y k f hk hf => by
      refine ⟨upd f k (ra S 6 k), ⟨fun i hi => ?_, fun i hi => ?_⟩, ?_⟩
      · by_cases c : i = k
        · rw [up_e _ _ _ c, c]
        · rw [up_n _ _ _ c]; exact hf.1 i (by omega)
      · rw [up_n _ _ _ (by omega)]; exact hf.2 i (by omega)
      · simp (disch := omega) only [fX12_mean_142, l_0, l_1, l_2, l_3, l_4, l_5, l_6, l_7, l_8, l_9, l_10, l_11, l_12, l_13, l_14, l_15, l_16, l_17, l_18, l_19, l_20, l_21, l_22, l_23, l_24, l_25, l_30, l_31, l_32, l_40, l_48, l_54, l_57, l_59, l_60, l_61, l_62, l_63, l_65, l_66, l_72, l_82, l_92, l_93, l_94, l_97, l_99, l_100, l_101, l_102, l_103, l_104, l_105, l_107, l_108, l_109, l_110, l_111, l_112, l_114, l_115, l_116, l_117, l_119, l_121, l_122, l_136, l_200, l_255, l_300, l_364, l_900, l_1000, l_1456, l_1458, l_1459, l_1460, l_1462, l_1471, l_1504, l_1510, l_1522, l_1550, l_2971, l_9999, l_10000, l_10979, l_65536, l_m1, nI_add, pk_mul, q_sub, q_ltT, q_ltF, q_leT, q_leF, q_eqT, q_eqF, q_inT, q_inF, nI_clamp, q_mlt, q_mle, q_mne, q_mne2, q_mnlt, q_mnle, q_gi, q_gil, q_gir, q_giR, q_gl, q_gli, q_glr, q_glR, q_ra, q_rai, q_ral, q_raR, q_rl, q_rli, q_rll, q_rlr, sa, sA, ia, la, q_srsr, q_sRsR, Option.bind_some, if_true, if_false, reduceIte, ite_not, not_true_eq_false, not_false_eq_true, q_z1, Nat.reduceEqDiff]) (ra S 5) FU ⟨fun i hi => by omega, fun i _ => rfl⟩ (by unfold FU; omega)
  refine ⟨g, ?_, g1.1, g1.2⟩
  rw [← g2]
  obtain ⟨v, v3, v4⟩ := lp_eq (fun y i s => fX12_mean_108 k91 y S v1 v2 s v5 i) (fun s => fX12_mean_142 k91 FU S v1 v2 s v5 (nI 0)) (t 2) (fun k s => s = lN (x + sm (fun i => t (54 + i)) k))
    (fun y s hs => by simp (disch := omega) only [fX12_mean_108, hu, l_0, l_1, l_2, l_3, l_4, l_5, l_6, l_7, l_8, l_9, l_10, l_11, l_12, l_13, l_14, l_15, l_16, l_17, l_18, l_19, l_20, l_21, l_22, l_23, l_24, l_25, l_30, l_31, l_32, l_40, l_48, l_54, l_57, l_59, l_60, l_61, l_62, l_63, l_65, l_66, l_72, l_82, l_92, l_93, l_94, l_97, l_99, l_100, l_101, l_102, l_103, l_104, l_105, l_107, l_108, l_109, l_110, l_111, l_112, l_114, l_115, l_116, l_117, l_119, l_121, l_122, l_136, l_200, l_255, l_300, l_364, l_900, l_1000, l_1456, l_1458, l_1459, l_1460, l_1462, l_1471, l_1504, l_1510, l_1522, l_1550, l_2971, l_9999, l_10000, l_10979, l_65536, l_m1, nI_add, pk_mul, q_sub, q_ltT, q_ltF, q_leT, q_leF, q_eqT, q_eqF, q_inT, q_inF, nI_clamp, q_mlt, q_mle, q_mne, q_mne2, q_mnlt, q_mnle, q_gi, q_gil, q_gir, q_giR, q_gl, q_gli, q_glr, q_glR, q_ra, q_rai, q_ral, q_raR, q_rl, q_rli, q_rll, q_rlr, sa, sA, ia, la, q_srsr, q_sRsR, Option.bind_some, if_true, if_false, reduceIte, ite_not, not_true_eq_false, not_false_eq_true, q_z1, Nat.reduceEqDiff])
    (fun y k s hk hs => by
      subst hs
      refine ⟨_, rfl, ?_⟩
      have b7 := (w7 k hk).2.1
      have e : ra S 5 (54 + k) = nI (t (54 + k)) := hu (54 + k) (by omega)
      have el : (nI (t (54 + k))).toInt64 = lN (t (54 + k)) := nI_l (by omega)
      rw [sm_s]
      simp (disch := omega) only [fX12_mean_108, hu 2 (by omega), e, el, lN_add, Nat.add_assoc, l_0, l_1, l_2, l_3, l_4, l_5, l_6, l_7, l_8, l_9, l_10, l_11, l_12, l_13, l_14, l_15, l_16, l_17, l_18, l_19, l_20, l_21, l_22, l_23, l_24, l_25, l_30, l_31, l_32, l_40, l_48, l_54, l_57, l_59, l_60, l_61, l_62, l_63, l_65, l_66, l_72, l_82, l_92, l_93, l_94, l_97, l_99, l_100, l_101, l_102, l_103, l_104, l_105, l_107, l_108, l_109, l_110, l_111, l_112, l_114, l_115, l_116, l_117, l_119, l_121, l_122, l_136, l_200, l_255, l_300, l_364, l_900, l_1000, l_1456, l_1458, l_1459, l_1460, l_1462, l_1471, l_1504, l_1510, l_1522, l_1550, l_2971, l_9999, l_10000, l_10979, l_65536, l_m1, nI_add, pk_mul, q_sub, q_ltT, q_ltF, q_leT, q_leF, q_eqT, q_eqF, q_inT, q_inF, nI_clamp, q_mlt, q_mle, q_mne, q_mne2, q_mnlt, q_mnle, q_gi, q_gil, q_gir, q_giR, q_gl, q_gli, q_glr, q_glR, q_ra, q_rai, q_ral, q_raR, q_rl, q_rli, q_rll, q_rlr, sa, sA, ia, la, q_srsr, q_sRsR, Option.bind_some, if_true, if_false, reduceIte, ite_not, not_true_eq_false, not_false_eq_true, q_z1, Nat.reduceEqDiff]) (lN x) FU rfl (by unfold FU; omega)
  subst v3
  refine Eq.trans v4 ?_
  show fX12_mean_142 k91 FU S v1 v2 (lN (x + hsum t)) v5 (nI 0) = fX12_mean_142 k91 FU (sr S 5 (ra S 5)) v1 v2 (lN (x + hsum t)) v5 (nI 0)
  rw [← sr_self]
end Q73b
section Q73c
variable {SC SP0 ST0 SE0 SP1 M : ms_T} {t : Nat → Nat}
theorem mean_loop (w : tb_W t) (h : tb_C ST0 t) (hN : tb_N M t) {L n s many : Nat} (hL : gi SE0 2 = nI L) (hL60 : L ≤ 60) (hn : n ≤ 30) (h93 : ra M 5 93 = nI n) (hB : ev_B SE0 (fun i => ra M 5 i) (t 1) (t 2) 100 3 0 n 0 L) (hs : s + many ≤ 10000) (hm : many ≤ 20) (hm0 : 0 < many) :
    ∀ rem j fu1 fu2 x T1 V1 S, j + rem = many → rem < fu1 → rem < fu2 → x ≤ 54 * j → mfr M S → ∃ y T' V' S', fX11_mean_57_1 SP0 ST0 SE0 SP1 fu1 SC T1 V1 (nI s) (nI many) (nI x) (nI j) = some (nI 1, si (sl (sl SC 1 (lN (y / Nat.gcd y many))) 2 (lN (many / Nat.gcd y many))) 0 (nI 0), T', V') ∧ fX12_mean_91 fu2 S (nI s) (nI many) (lN x) (nI j) = some (nI 1, sl (sl S' 2 (lN (y / Nat.gcd y many))) 3 (lN (many / Nat.gcd y many))) ∧ mfr M S' := by
  intro rem
  induction rem with
  | zero =>
    intro j fu1 fu2 x T1 V1 S hj hf1 hf2 hx hS
    obtain ⟨fu1, rfl⟩ : ∃ y, fu1 = y + 1 := ⟨fu1 - 1, by omega⟩
    obtain ⟨fu2, rfl⟩ : ∃ y, fu2 = y + 1 := ⟨fu2 - 1, by omega⟩
    obtain rfl : j = many := by omega
    have t1 := C_tell SC (x := x) (y := j) (by omega) (by omega) (by omega)
    have t2 := M_fraction S (x := x) (y := j) (by omega) (by omega) (by omega)
    have l1 : (nI x).toInt64 = lN x := nI_l (by omega)
    have l2 : (nI j).toInt64 = lN j := nI_l (by omega)
    refine ⟨x, T1, V1, S, ?_, ?_, hS⟩
    · simp (disch := omega) only [fX11_mean_57_1, l1, l2, t1, l_0, l_1, l_2, l_3, l_4, l_5, l_6, l_7, l_8, l_9, l_10, l_11, l_12, l_13, l_14, l_15, l_16, l_17, l_18, l_19, l_20, l_21, l_22, l_23, l_24, l_25, l_30, l_31, l_32, l_40, l_48, l_54, l_57, l_59, l_60, l_61, l_62, l_63, l_65, l_66, l_72, l_82, l_92, l_93, l_94, l_97, l_99, l_100, l_101, l_102, l_103, l_104, l_105, l_107, l_108, l_109, l_110, l_111, l_112, l_114, l_115, l_116, l_117, l_119, l_121, l_122, l_136, l_200, l_255, l_300, l_364, l_900, l_1000, l_1456, l_1458, l_1459, l_1460, l_1462, l_1471, l_1504, l_1510, l_1522, l_1550, l_2971, l_9999, l_10000, l_10979, l_65536, l_m1, nI_add, pk_mul, q_sub, q_ltT, q_ltF, q_leT, q_leF, q_eqT, q_eqF, q_inT, q_inF, nI_clamp, q_mlt, q_mle, q_mne, q_mne2, q_mnlt, q_mnle, Option.bind_some, if_true, if_false, reduceIte, ite_not, not_true_eq_false, not_false_eq_true, q_z1, Nat.reduceEqDiff]
    · simp (disch := omega) only [fX12_mean_91, l2, t2, l_0, l_1, l_2, l_3, l_4, l_5, l_6, l_7, l_8, l_9, l_10, l_11, l_12, l_13, l_14, l_15, l_16, l_17, l_18, l_19, l_20, l_21, l_22, l_23, l_24, l_25, l_30, l_31, l_32, l_40, l_48, l_54, l_57, l_59, l_60, l_61, l_62, l_63, l_65, l_66, l_72, l_82, l_92, l_93, l_94, l_97, l_99, l_100, l_101, l_102, l_103, l_104, l_105, l_107, l_108, l_109, l_110, l_111, l_112, l_114, l_115, l_116, l_117, l_119, l_121, l_122, l_136, l_200, l_255, l_300, l_364, l_900, l_1000, l_1456, l_1458, l_1459, l_1460, l_1462, l_1471, l_1504, l_1510, l_1522, l_1550, l_2971, l_9999, l_10000, l_10979, l_65536, l_m1, nI_add, pk_mul, q_sub, q_ltT, q_ltF, q_leT, q_leF, q_eqT, q_eqF, q_inT, q_inF, nI_clamp, q_mlt, q_mle, q_mne, q_mne2, q_mnlt, q_mnle, Option.bind_some, if_true, if_false, reduceIte, ite_not, not_true_eq_false, not_false_eq_true, q_z1, Nat.reduceEqDiff]
  | succ rem ih =>
    intro j fu1 fu2 x T1 V1 S hj hf1 hf2 hx hS
    obtain ⟨fu1, rfl⟩ : ∃ y, fu1 = y + 1 := ⟨fu1 - 1, by omega⟩
    obtain ⟨fu2, rfl⟩ : ∃ y, fu2 = y + 1 := ⟨fu2 - 1, by omega⟩
    obtain ⟨s1, s2, s3, s4, s5, s6⟩ := id hS
    obtain ⟨T2, c1, c2⟩ := T_copyFrom T1 ST0
    have hC2 := tl_C w c2 h
    have e5 : ra S 5 = ra M 5 := funext s4
    have hNS : tb_N S t := fun i hi => by rw [s4]; exact hN i hi
    have hBS : ev_B SE0 (fun i => ra S 5 i) (t 1) (t 2) 100 3 0 n 0 L := by rw [e5]; exact hB
    obtain ⟨T', V', M', t', r1, r2, r3, r4⟩ := run_both (V := V1) w hC2 hNS hL hL60 hn (by rw [s4]; exact h93) hBS (s := s + j) (by omega)
    have ah := T_allHeights r3.1 r3.2.1
    have hb := hsum_le r3.1
    obtain ⟨f, q1, q2, q3⟩ := M_sum (S := M') r3.1 r3.2.2.1 (k91 := fX12_mean_91 fu2) (v1 := nI s) (v2 := nI many) (v5 := nI j) (x := x)
    obtain ⟨f1, f2, f3, f4, f5, f6, f7, f8, f9⟩ := r4
    have hS' : mfr M (sr M' 5 f) := by
      refine ⟨fun k hk => ?_, fun k => ?_, fun k a b => ?_, fun i => ?_, fun i hi => ?_, fun k => ?_⟩
      · rw [q_gir, f5 k hk]; exact s1 k hk
      · rw [q_glr, f6 k]; exact s2 k
      · rw [q_ra, if_neg a, f7 k a]; exact s3 k a b
      · rw [q_ra, if_pos rfl]
        by_cases c : i < 92
        · rw [q2 i c, f7 6 (by omega)]; exact s5 i c
        · rw [q3 i (by omega), f8 i (by omega)]; exact s4 i
      · rw [q_ra, if_neg (by omega), f7 6 (by omega)]; exact s5 i hi
      · rw [q_rlr, f9 k]; exact s6 k
    obtain ⟨y, T3, V3, S3, i1, i2, i3⟩ := ih (j + 1) fu1 fu2 (x + hsum t') T' V' (sr M' 5 f) (by omega) (by omega) (by omega) (by omega) hS'
    refine ⟨y, T3, V3, S3, ?_, ?_, i3⟩
    · rw [← i1]
      simp (disch := omega) only [fX11_mean_57_1, c1, r1, ah, l_0, l_1, l_2, l_3, l_4, l_5, l_6, l_7, l_8, l_9, l_10, l_11, l_12, l_13, l_14, l_15, l_16, l_17, l_18, l_19, l_20, l_21, l_22, l_23, l_24, l_25, l_30, l_31, l_32, l_40, l_48, l_54, l_57, l_59, l_60, l_61, l_62, l_63, l_65, l_66, l_72, l_82, l_92, l_93, l_94, l_97, l_99, l_100, l_101, l_102, l_103, l_104, l_105, l_107, l_108, l_109, l_110, l_111, l_112, l_114, l_115, l_116, l_117, l_119, l_121, l_122, l_136, l_200, l_255, l_300, l_364, l_900, l_1000, l_1456, l_1458, l_1459, l_1460, l_1462, l_1471, l_1504, l_1510, l_1522, l_1550, l_2971, l_9999, l_10000, l_10979, l_65536, l_m1, nI_add, pk_mul, q_sub, q_ltT, q_ltF, q_leT, q_leF, q_eqT, q_eqF, q_inT, q_inF, nI_clamp, q_mlt, q_mle, q_mne, q_mne2, q_mnlt, q_mnle, Option.bind_some, if_true, if_false, reduceIte, ite_not, not_true_eq_false, not_false_eq_true, q_z1, Nat.reduceEqDiff]
    · rw [← i2, ← nI_add j 1, ← q1]
      simp (disch := omega) only [fX12_mean_91, r2, l_0, l_1, l_2, l_3, l_4, l_5, l_6, l_7, l_8, l_9, l_10, l_11, l_12, l_13, l_14, l_15, l_16, l_17, l_18, l_19, l_20, l_21, l_22, l_23, l_24, l_25, l_30, l_31, l_32, l_40, l_48, l_54, l_57, l_59, l_60, l_61, l_62, l_63, l_65, l_66, l_72, l_82, l_92, l_93, l_94, l_97, l_99, l_100, l_101, l_102, l_103, l_104, l_105, l_107, l_108, l_109, l_110, l_111, l_112, l_114, l_115, l_116, l_117, l_119, l_121, l_122, l_136, l_200, l_255, l_300, l_364, l_900, l_1000, l_1456, l_1458, l_1459, l_1460, l_1462, l_1471, l_1504, l_1510, l_1522, l_1550, l_2971, l_9999, l_10000, l_10979, l_65536, l_m1, nI_add, q_leF, Option.bind_some, if_true, if_false, reduceIte, ite_not, not_true_eq_false, not_false_eq_true, q_z1, Nat.reduceEqDiff]
end Q73c
theorem rl_mfr {SC SY0 SY1 SY2 SY3 SB ST0 SE0 ST2 SE2 ST3 SE3 ST4 SE4 SV0 SM S : ms_T} (hR : Rl SC SY0 SY1 SY2 SY3 SB ST0 SE0 ST2 SE2 ST3 SE3 ST4 SE4 SV0 SM) (s : mfr (si (si SM 1 (nI 0)) 0 (nI 0)) S) : Rl (si SC 0 (nI 0)) SY0 SY1 SY2 SY3 SB ST0 SE0 ST2 SE2 ST3 SE3 ST4 SE4 SV0 S :=
  rl_scr hR ⟨⟨s.2.1 2, s.2.1 3⟩, s.1 8 (by omega), s.1 10 (by omega), s.1 11 (by omega), s.1 23 (by omega), s.1 40 (by omega), s.2.2.1 4 (by omega) (by omega), funext s.2.2.2.1, s.2.2.1 12 (by omega) (by omega), s.2.2.2.2.2 7⟩ (s.2.2.1 1 (by omega) (by omega)) (s.2.2.1 2 (by omega) (by omega)) (s.2.2.2.2.2 3) (s.1 0 (by omega))
theorem o_mean : op_mean Rl := by
  intro SC SY0 SY1 SY2 SY3 SB ST0 SE0 ST2 SE2 ST3 SE3 ST4 SE4 SV0 SM SP0 SP1 ST1 SV1 hR a1 a2
  obtain ⟨hs, hF, hU, hT, ⟨hY0, hY1, hY2, hY3⟩, ⟨t, w, hC, hN0, n1, n2, n3, hE⟩, hK, hV⟩ := id hR
  have hN := tb_N0 hN0
  have hN2 : tb_N (si (si SM 1 (nI 0)) 0 (nI 0)) t := hN
  have hNu : ∀ i, i < 92 → ra SM 5 i = nI (t i) := hN
  obtain ⟨w0, w1, w2, w3, w4, w5, w6, w7, w8, w9⟩ := id w
  obtain ⟨h0, h1, h2, h3, h4, h5, h6, h7, h8, h9, h10, h11, h12, h13, h14, h15, h16⟩ := id hC
  have hI := q_in120 (x := a2)
  have ex : fX11_mean_26 SP0 ST0 SE0 SP1 SC ST1 SV1 = some (nI 0, si SC 0 (nI 5), ST1, SV1) := by simp only [fX11_mean_26, fX11_answer, fX11_refuse, fX11_deny, fX11_grant, fX12_refuse, fX12_no, l_0, l_1, l_2, l_3, l_4, l_5, l_6, l_7, l_8, l_9, l_10, l_11, l_12, l_13, l_14, l_15, l_16, l_17, l_18, l_19, l_20, l_21, l_22, l_23, l_24, l_25, l_30, l_31, l_32, l_40, l_48, l_54, l_57, l_59, l_60, l_61, l_62, l_63, l_65, l_66, l_72, l_82, l_92, l_93, l_94, l_97, l_99, l_100, l_101, l_102, l_103, l_104, l_105, l_107, l_108, l_109, l_110, l_111, l_112, l_114, l_115, l_116, l_117, l_119, l_121, l_122, l_136, l_200, l_255, l_300, l_364, l_900, l_1000, l_1456, l_1458, l_1459, l_1460, l_1462, l_1471, l_1504, l_1510, l_1522, l_1550, l_2971, l_9999, l_10000, l_10979, l_65536, l_m1, Option.bind_some, if_true, if_false, reduceIte, ite_not, not_true_eq_false, not_false_eq_true, q_z1, Nat.reduceEqDiff, q_z0]
  have ey : fX12_mean_37 (si (si SM 1 (nI 0)) 0 (nI 0)) = some (nI 0, si (si (si SM 1 (nI 0)) 0 (nI 0)) 0 (nI 5)) := by simp only [fX12_mean_37, fX11_answer, fX11_refuse, fX11_deny, fX11_grant, fX12_refuse, fX12_no, l_0, l_1, l_2, l_3, l_4, l_5, l_6, l_7, l_8, l_9, l_10, l_11, l_12, l_13, l_14, l_15, l_16, l_17, l_18, l_19, l_20, l_21, l_22, l_23, l_24, l_25, l_30, l_31, l_32, l_40, l_48, l_54, l_57, l_59, l_60, l_61, l_62, l_63, l_65, l_66, l_72, l_82, l_92, l_93, l_94, l_97, l_99, l_100, l_101, l_102, l_103, l_104, l_105, l_107, l_108, l_109, l_110, l_111, l_112, l_114, l_115, l_116, l_117, l_119, l_121, l_122, l_136, l_200, l_255, l_300, l_364, l_900, l_1000, l_1456, l_1458, l_1459, l_1460, l_1462, l_1471, l_1504, l_1510, l_1522, l_1550, l_2971, l_9999, l_10000, l_10979, l_65536, l_m1, Option.bind_some, if_true, if_false, reduceIte, ite_not, not_true_eq_false, not_false_eq_true, q_z1, Nat.reduceEqDiff, q_z0]
  obtain ⟨g0, L, g1, g2, g3⟩ := id hE
  have bad : fX11_mean SC SP0 ST0 SE0 SP1 ST1 SV1 a1 a2 = some (nI 0, si SC 0 (nI 5), ST1, SV1) → fX12_mean SM a1 a2 = some (nI 0, si (si (si SM 1 (nI 0)) 0 (nI 0)) 0 (nI 5)) → ∃ (z : Int32 × ms_T × ms_T × ms_T) (w : Int32 × ms_T), fX11_mean SC SP0 ST0 SE0 SP1 ST1 SV1 a1 a2 = some z ∧ fX12_mean SM a1 a2 = some w ∧ z.1 = w.1 ∧ Rl z.2.1 SY0 SY1 SY2 SY3 SB ST0 SE0 ST2 SE2 ST3 SE3 ST4 SE4 SV0 w.2 := fun q1 q2 => ⟨_, _, q1, q2, rfl, rl_st2 hR _ _⟩
  rcases q_ix a2 21 (by omega) with ⟨h, e⟩ | ⟨h, h2', e⟩ | ⟨m, hm, rfl⟩
  · refine bad ?_ ?_
    · unfold fX11_mean
      rw [ex]
      simp (disch := omega) only [l_0, l_1, l_2, l_3, l_4, l_5, l_6, l_7, l_8, l_9, l_10, l_11, l_12, l_13, l_14, l_15, l_16, l_17, l_18, l_19, l_20, l_21, l_22, l_23, l_24, l_25, l_30, l_31, l_32, l_40, l_48, l_54, l_57, l_59, l_60, l_61, l_62, l_63, l_65, l_66, l_72, l_82, l_92, l_93, l_94, l_97, l_99, l_100, l_101, l_102, l_103, l_104, l_105, l_107, l_108, l_109, l_110, l_111, l_112, l_114, l_115, l_116, l_117, l_119, l_121, l_122, l_136, l_200, l_255, l_300, l_364, l_900, l_1000, l_1456, l_1458, l_1459, l_1460, l_1462, l_1471, l_1504, l_1510, l_1522, l_1550, l_2971, l_9999, l_10000, l_10979, l_65536, l_m1, q_ngl h, Option.bind_some, if_true, if_false, reduceIte, ite_not, not_true_eq_false, not_false_eq_true, q_z1, Nat.reduceEqDiff]
      split <;> rfl
    · simp (disch := omega) only [fX12_mean, hI, e, ey, Bool.false_and, bi, b2_0, l_0, l_1, l_2, l_3, l_4, l_5, l_6, l_7, l_8, l_9, l_10, l_11, l_12, l_13, l_14, l_15, l_16, l_17, l_18, l_19, l_20, l_21, l_22, l_23, l_24, l_25, l_30, l_31, l_32, l_40, l_48, l_54, l_57, l_59, l_60, l_61, l_62, l_63, l_65, l_66, l_72, l_82, l_92, l_93, l_94, l_97, l_99, l_100, l_101, l_102, l_103, l_104, l_105, l_107, l_108, l_109, l_110, l_111, l_112, l_114, l_115, l_116, l_117, l_119, l_121, l_122, l_136, l_200, l_255, l_300, l_364, l_900, l_1000, l_1456, l_1458, l_1459, l_1460, l_1462, l_1471, l_1504, l_1510, l_1522, l_1550, l_2971, l_9999, l_10000, l_10979, l_65536, l_m1, Option.bind_some, if_true, if_false, reduceIte, ite_not, not_true_eq_false, not_false_eq_true, q_z1, Nat.reduceEqDiff]
  · refine bad ?_ ?_
    · unfold fX11_mean
      rw [ex]
      simp (disch := omega) only [l_0, l_1, l_2, l_3, l_4, l_5, l_6, l_7, l_8, l_9, l_10, l_11, l_12, l_13, l_14, l_15, l_16, l_17, l_18, l_19, l_20, l_21, l_22, l_23, l_24, l_25, l_30, l_31, l_32, l_40, l_48, l_54, l_57, l_59, l_60, l_61, l_62, l_63, l_65, l_66, l_72, l_82, l_92, l_93, l_94, l_97, l_99, l_100, l_101, l_102, l_103, l_104, l_105, l_107, l_108, l_109, l_110, l_111, l_112, l_114, l_115, l_116, l_117, l_119, l_121, l_122, l_136, l_200, l_255, l_300, l_364, l_900, l_1000, l_1456, l_1458, l_1459, l_1460, l_1462, l_1471, l_1504, l_1510, l_1522, l_1550, l_2971, l_9999, l_10000, l_10979, l_65536, l_m1, q_bgl h, q_bggl h, Option.bind_some, if_true, if_false, reduceIte, ite_not, not_true_eq_false, not_false_eq_true, q_z1, Nat.reduceEqDiff]
      split <;> rfl
    · simp (disch := omega) only [fX12_mean, hI, e, ey, Bool.false_and, bi, b2_0, l_0, l_1, l_2, l_3, l_4, l_5, l_6, l_7, l_8, l_9, l_10, l_11, l_12, l_13, l_14, l_15, l_16, l_17, l_18, l_19, l_20, l_21, l_22, l_23, l_24, l_25, l_30, l_31, l_32, l_40, l_48, l_54, l_57, l_59, l_60, l_61, l_62, l_63, l_65, l_66, l_72, l_82, l_92, l_93, l_94, l_97, l_99, l_100, l_101, l_102, l_103, l_104, l_105, l_107, l_108, l_109, l_110, l_111, l_112, l_114, l_115, l_116, l_117, l_119, l_121, l_122, l_136, l_200, l_255, l_300, l_364, l_900, l_1000, l_1456, l_1458, l_1459, l_1460, l_1462, l_1471, l_1504, l_1510, l_1522, l_1550, l_2971, l_9999, l_10000, l_10979, l_65536, l_m1, Option.bind_some, if_true, if_false, reduceIte, ite_not, not_true_eq_false, not_false_eq_true, q_z1, Nat.reduceEqDiff]
  · have em : inb (nI m) 21 = true := q_inT hm (by omega)
    by_cases c : m = 0
    · subst c
      refine bad ?_ ?_
      · unfold fX11_mean
        rw [ex]
        simp (disch := omega) only [l_0, l_1, l_2, l_3, l_4, l_5, l_6, l_7, l_8, l_9, l_10, l_11, l_12, l_13, l_14, l_15, l_16, l_17, l_18, l_19, l_20, l_21, l_22, l_23, l_24, l_25, l_30, l_31, l_32, l_40, l_48, l_54, l_57, l_59, l_60, l_61, l_62, l_63, l_65, l_66, l_72, l_82, l_92, l_93, l_94, l_97, l_99, l_100, l_101, l_102, l_103, l_104, l_105, l_107, l_108, l_109, l_110, l_111, l_112, l_114, l_115, l_116, l_117, l_119, l_121, l_122, l_136, l_200, l_255, l_300, l_364, l_900, l_1000, l_1456, l_1458, l_1459, l_1460, l_1462, l_1471, l_1504, l_1510, l_1522, l_1550, l_2971, l_9999, l_10000, l_10979, l_65536, l_m1, nI_add, pk_mul, q_sub, q_ltT, q_ltF, q_leT, q_leF, q_eqT, q_eqF, q_inT, q_inF, nI_clamp, q_mlt, q_mle, q_mne, q_mne2, q_mnlt, q_mnle, Option.bind_some, if_true, if_false, reduceIte, ite_not, not_true_eq_false, not_false_eq_true, q_z1, Nat.reduceEqDiff]
        split <;> rfl
      · simp (disch := omega) only [fX12_mean, hI, em, ey, ne_eq, not_true_eq_false, decide_false, Bool.and_false, bi, b2_0, l_0, l_1, l_2, l_3, l_4, l_5, l_6, l_7, l_8, l_9, l_10, l_11, l_12, l_13, l_14, l_15, l_16, l_17, l_18, l_19, l_20, l_21, l_22, l_23, l_24, l_25, l_30, l_31, l_32, l_40, l_48, l_54, l_57, l_59, l_60, l_61, l_62, l_63, l_65, l_66, l_72, l_82, l_92, l_93, l_94, l_97, l_99, l_100, l_101, l_102, l_103, l_104, l_105, l_107, l_108, l_109, l_110, l_111, l_112, l_114, l_115, l_116, l_117, l_119, l_121, l_122, l_136, l_200, l_255, l_300, l_364, l_900, l_1000, l_1456, l_1458, l_1459, l_1460, l_1462, l_1471, l_1504, l_1510, l_1522, l_1550, l_2971, l_9999, l_10000, l_10979, l_65536, l_m1, Option.bind_some, if_true, if_false, reduceIte, ite_not, not_true_eq_false, not_false_eq_true, q_z1, Nat.reduceEqDiff]
    · have c' : nI m ≠ nI 0 := fun g => c ((nI_eq (by omega) (by omega)).mp g)
      have hI2 : fX12_isIn a1.toInt64 (0 : Int64) ((nI 10000 - nI m).toInt64) = some (bi (inb a1 (10001 - m))) := q_isInN a1 (by omega) (by rw [q_sub (by omega), nI_toInt (by omega)]; omega)
      have hI2' := hI2
      rw [q_sub (by omega)] at hI2'
      rcases q_ix a1 (10001 - m) (by omega) with ⟨h, e⟩ | ⟨h, h2', e⟩ | ⟨s, hs1, rfl⟩
      · refine bad ?_ ?_
        · simp (disch := omega) only [fX11_mean, ex, h, l_0, l_1, l_2, l_3, l_4, l_5, l_6, l_7, l_8, l_9, l_10, l_11, l_12, l_13, l_14, l_15, l_16, l_17, l_18, l_19, l_20, l_21, l_22, l_23, l_24, l_25, l_30, l_31, l_32, l_40, l_48, l_54, l_57, l_59, l_60, l_61, l_62, l_63, l_65, l_66, l_72, l_82, l_92, l_93, l_94, l_97, l_99, l_100, l_101, l_102, l_103, l_104, l_105, l_107, l_108, l_109, l_110, l_111, l_112, l_114, l_115, l_116, l_117, l_119, l_121, l_122, l_136, l_200, l_255, l_300, l_364, l_900, l_1000, l_1456, l_1458, l_1459, l_1460, l_1462, l_1471, l_1504, l_1510, l_1522, l_1550, l_2971, l_9999, l_10000, l_10979, l_65536, l_m1, Option.bind_some, if_true, if_false, reduceIte, ite_not, not_true_eq_false, not_false_eq_true, q_z1, Nat.reduceEqDiff]
        · simp (disch := omega) only [fX12_mean, hI, em, c', ne_eq, not_false_eq_true, decide_true, Bool.and_true, hI2', e, ey, bi, b2_0, b2_1, l_0, l_1, l_2, l_3, l_4, l_5, l_6, l_7, l_8, l_9, l_10, l_11, l_12, l_13, l_14, l_15, l_16, l_17, l_18, l_19, l_20, l_21, l_22, l_23, l_24, l_25, l_30, l_31, l_32, l_40, l_48, l_54, l_57, l_59, l_60, l_61, l_62, l_63, l_65, l_66, l_72, l_82, l_92, l_93, l_94, l_97, l_99, l_100, l_101, l_102, l_103, l_104, l_105, l_107, l_108, l_109, l_110, l_111, l_112, l_114, l_115, l_116, l_117, l_119, l_121, l_122, l_136, l_200, l_255, l_300, l_364, l_900, l_1000, l_1456, l_1458, l_1459, l_1460, l_1462, l_1471, l_1504, l_1510, l_1522, l_1550, l_2971, l_9999, l_10000, l_10979, l_65536, l_m1, nI_add, pk_mul, q_sub, q_ltT, q_ltF, q_leT, q_leF, q_eqT, q_eqF, q_inT, q_inF, nI_clamp, q_mlt, q_mle, q_mne, q_mne2, q_mnlt, q_mnle, Option.bind_some, if_true, if_false, reduceIte, ite_not, not_true_eq_false, not_false_eq_true, q_z1, Nat.reduceEqDiff]
      · refine bad ?_ ?_
        · have e1 : nI 9999 - nI m + nI 1 = nI (10000 - m) := by rw [q_sub (by omega), nI_add]; congr 1; omega
          have e2 : (a1 ≤ nI (10000 - m)) = False := q_bgle h (by omega) (by omega)
          simp (disch := omega) only [fX11_mean, ex, h2', e1, e2, l_0, l_1, l_2, l_3, l_4, l_5, l_6, l_7, l_8, l_9, l_10, l_11, l_12, l_13, l_14, l_15, l_16, l_17, l_18, l_19, l_20, l_21, l_22, l_23, l_24, l_25, l_30, l_31, l_32, l_40, l_48, l_54, l_57, l_59, l_60, l_61, l_62, l_63, l_65, l_66, l_72, l_82, l_92, l_93, l_94, l_97, l_99, l_100, l_101, l_102, l_103, l_104, l_105, l_107, l_108, l_109, l_110, l_111, l_112, l_114, l_115, l_116, l_117, l_119, l_121, l_122, l_136, l_200, l_255, l_300, l_364, l_900, l_1000, l_1456, l_1458, l_1459, l_1460, l_1462, l_1471, l_1504, l_1510, l_1522, l_1550, l_2971, l_9999, l_10000, l_10979, l_65536, l_m1, nI_add, q_ltF, q_ltT, Option.bind_some, if_true, if_false, reduceIte, ite_not, not_true_eq_false, not_false_eq_true, q_z1, Nat.reduceEqDiff]
        · simp (disch := omega) only [fX12_mean, hI, em, c', ne_eq, not_false_eq_true, decide_true, Bool.and_true, hI2', e, ey, bi, b2_0, b2_1, l_0, l_1, l_2, l_3, l_4, l_5, l_6, l_7, l_8, l_9, l_10, l_11, l_12, l_13, l_14, l_15, l_16, l_17, l_18, l_19, l_20, l_21, l_22, l_23, l_24, l_25, l_30, l_31, l_32, l_40, l_48, l_54, l_57, l_59, l_60, l_61, l_62, l_63, l_65, l_66, l_72, l_82, l_92, l_93, l_94, l_97, l_99, l_100, l_101, l_102, l_103, l_104, l_105, l_107, l_108, l_109, l_110, l_111, l_112, l_114, l_115, l_116, l_117, l_119, l_121, l_122, l_136, l_200, l_255, l_300, l_364, l_900, l_1000, l_1456, l_1458, l_1459, l_1460, l_1462, l_1471, l_1504, l_1510, l_1522, l_1550, l_2971, l_9999, l_10000, l_10979, l_65536, l_m1, nI_add, pk_mul, q_sub, q_ltT, q_ltF, q_leT, q_leF, q_eqT, q_eqF, q_inT, q_inF, nI_clamp, q_mlt, q_mle, q_mne, q_mne2, q_mnlt, q_mnle, Option.bind_some, if_true, if_false, reduceIte, ite_not, not_true_eq_false, not_false_eq_true, q_z1, Nat.reduceEqDiff]
      · have e : inb (nI s) (10001 - m) = true := q_inT hs1 (by omega)
        have e1 : nI 9999 - nI m + nI 1 = nI (10000 - m) := by rw [q_sub (by omega), nI_add]; congr 1; omega
        rcases g3 with g3 | ⟨g3, n, k1, k2, k3, k4⟩
        · have v1 : gi SE0 0 = nI 0 := g0.trans g3
          have v2 : ra SM 5 92 = nI 0 := g3
          simp (disch := omega) only [fX11_mean, fX12_mean, fX11_answer, fX11_refuse, fX11_deny, fX11_grant, fX12_refuse, fX12_no, hI, em, c', ne_eq, not_false_eq_true, decide_true, Bool.and_true, hI2, e, e1, v1, v2, bi, b2_0, b2_1, l_0, l_1, l_2, l_3, l_4, l_5, l_6, l_7, l_8, l_9, l_10, l_11, l_12, l_13, l_14, l_15, l_16, l_17, l_18, l_19, l_20, l_21, l_22, l_23, l_24, l_25, l_30, l_31, l_32, l_40, l_48, l_54, l_57, l_59, l_60, l_61, l_62, l_63, l_65, l_66, l_72, l_82, l_92, l_93, l_94, l_97, l_99, l_100, l_101, l_102, l_103, l_104, l_105, l_107, l_108, l_109, l_110, l_111, l_112, l_114, l_115, l_116, l_117, l_119, l_121, l_122, l_136, l_200, l_255, l_300, l_364, l_900, l_1000, l_1456, l_1458, l_1459, l_1460, l_1462, l_1471, l_1504, l_1510, l_1522, l_1550, l_2971, l_9999, l_10000, l_10979, l_65536, l_m1, nI_add, q_ltF, q_ltT, q_leT, q_eqF, nI_clamp, q_gi, q_gil, q_gir, q_giR, q_gl, q_gli, q_glr, q_glR, q_ra, q_rai, q_ral, q_raR, q_rl, q_rli, q_rll, q_rlr, sa, sA, ia, la, q_srsr, q_sRsR, Option.bind_some, if_true, if_false, reduceIte, ite_not, not_true_eq_false, not_false_eq_true, q_z1, Nat.reduceEqDiff, q_z0]
          exact ⟨_, _, rfl, rfl, rfl, rl_st2 hR _ _⟩
        · have v1 : gi SE0 0 = nI 1 := g0.trans g3
          have v2 : ra SM 5 92 = nI 1 := g3
          have hB : ev_B SE0 (fun i => ra (si (si SM 1 (nI 0)) 0 (nI 0)) 5 i) (t 1) (t 2) 100 3 0 n 0 L := ev_B_mono (fun i _ _ => by show ra SM 5 i = ra SM 5 (0 * 364 + i); rw [Nat.zero_mul, Nat.zero_add]) (Nat.le_refl _) (Nat.le_refl _) 100 3 0 n 0 L k1 k4
          obtain ⟨f, q1, q2⟩ := lp_eq (fun y i f => fX12_mean_62 y (sr (si (si SM 1 (nI 0)) 0 (nI 0)) 6 f) (nI s) (nI m) i) (fun f => fX12_mean_91 FU (sr (si (si SM 1 (nI 0)) 0 (nI 0)) 6 f) (nI s) (nI m) (0 : Int64) (nI 0)) 92 (fun k f => ∀ i, i < k → f i = ra SM 5 i)
            (fun y f hf => by simp (disch := omega) only [fX12_mean_62, l_0, l_1, l_2, l_3, l_4, l_5, l_6, l_7, l_8, l_9, l_10, l_11, l_12, l_13, l_14, l_15, l_16, l_17, l_18, l_19, l_20, l_21, l_22, l_23, l_24, l_25, l_30, l_31, l_32, l_40, l_48, l_54, l_57, l_59, l_60, l_61, l_62, l_63, l_65, l_66, l_72, l_82, l_92, l_93, l_94, l_97, l_99, l_100, l_101, l_102, l_103, l_104, l_105, l_107, l_108, l_109, l_110, l_111, l_112, l_114, l_115, l_116, l_117, l_119, l_121, l_122, l_136, l_200, l_255, l_300, l_364, l_900, l_1000, l_1456, l_1458, l_1459, l_1460, l_1462, l_1471, l_1504, l_1510, l_1522, l_1550, l_2971, l_9999, l_10000, l_10979, l_65536, l_m1, nI_add, pk_mul, q_sub, q_ltT, q_ltF, q_leT, q_leF, q_eqT, q_eqF, q_inT, q_inF, nI_clamp, q_mlt, q_mle, q_mne, q_mne2, q_mnlt, q_mnle, Option.bind_some, if_true, if_false, reduceIte, ite_not, not_true_eq_false, not_false_eq_true, q_z1, Nat.reduceEqDiff])
            (fun y k f hk hf => by
              refine ⟨upd f k (ra SM 5 k), fun i hi => ?_, ?_⟩
              · by_cases c : i = k
                · rw [up_e _ _ _ c, c]
                · rw [up_n _ _ _ c]; exact hf i (by omega)
              · simp (disch := omega) only [fX12_mean_62, l_0, l_1, l_2, l_3, l_4, l_5, l_6, l_7, l_8, l_9, l_10, l_11, l_12, l_13, l_14, l_15, l_16, l_17, l_18, l_19, l_20, l_21, l_22, l_23, l_24, l_25, l_30, l_31, l_32, l_40, l_48, l_54, l_57, l_59, l_60, l_61, l_62, l_63, l_65, l_66, l_72, l_82, l_92, l_93, l_94, l_97, l_99, l_100, l_101, l_102, l_103, l_104, l_105, l_107, l_108, l_109, l_110, l_111, l_112, l_114, l_115, l_116, l_117, l_119, l_121, l_122, l_136, l_200, l_255, l_300, l_364, l_900, l_1000, l_1456, l_1458, l_1459, l_1460, l_1462, l_1471, l_1504, l_1510, l_1522, l_1550, l_2971, l_9999, l_10000, l_10979, l_65536, l_m1, nI_add, pk_mul, q_sub, q_ltT, q_ltF, q_leT, q_leF, q_eqT, q_eqF, q_inT, q_inF, nI_clamp, q_mlt, q_mle, q_mne, q_mne2, q_mnlt, q_mnle, q_gi, q_gil, q_gir, q_giR, q_gl, q_gli, q_glr, q_glR, q_ra, q_rai, q_ral, q_raR, q_rl, q_rli, q_rll, q_rlr, sa, sA, ia, la, q_srsr, q_sRsR, Option.bind_some, if_true, if_false, reduceIte, ite_not, not_true_eq_false, not_false_eq_true, q_z1, Nat.reduceEqDiff]) (ra SM 6) FU (fun i hi => by omega) (by unfold FU; omega)
          have hS : mfr (si (si SM 1 (nI 0)) 0 (nI 0)) (sr (si (si SM 1 (nI 0)) 0 (nI 0)) 6 f) := ⟨fun _ _ => rfl, fun _ => rfl, fun k a b => by rw [q_ra, if_neg b], fun _ => rfl, fun i hi => by rw [q_ra, if_pos rfl]; exact q1 i hi, fun _ => rfl⟩
          obtain ⟨y, T', V', S', i1, i2, i3⟩ := mean_loop (SC := SC) (SP0 := SP0) (SP1 := SP1) w hC hN2 (s := s) (many := m) g2 g1 k1 k2 hB (by omega) (by omega) (by omega) m 0 (FU + 1) FU 0 ST1 SV1 _ (by omega) (by unfold FU; omega) (by unfold FU; omega) (by omega) hS
          have j1 : fX11_mean_57 SP0 ST0 SE0 SP1 FU SC ST1 SV1 (nI s) (nI m) (nI 0) (nI 0) = some (nI 1, si (sl (sl SC 1 (lN (y / Nat.gcd y m))) 2 (lN (m / Nat.gcd y m))) 0 (nI 0), T', V') := by rw [← i1]; rfl
          have j2 : fX12_mean_62 FU (si (si SM 1 (nI 0)) 0 (nI 0)) (nI s) (nI m) (nI 0) = some (nI 1, sl (sl S' 2 (lN (y / Nat.gcd y m))) 3 (lN (m / Nat.gcd y m))) := by
            rw [← i2]
            refine Eq.trans (congrArg (fun X => fX12_mean_62 FU X (nI s) (nI m) (nI 0)) (sr_self (si (si SM 1 (nI 0)) 0 (nI 0)) 6)) ?_
            exact q2
          have hc1 : fX11_mean SC SP0 ST0 SE0 SP1 ST1 SV1 (nI s) (nI m) = some (nI 1, si (sl (sl SC 1 (lN (y / Nat.gcd y m))) 2 (lN (m / Nat.gcd y m))) 0 (nI 0), T', V') := by
            rw [← j1]
            simp (disch := omega) only [fX11_mean, e1, v1, l_0, l_1, l_2, l_3, l_4, l_5, l_6, l_7, l_8, l_9, l_10, l_11, l_12, l_13, l_14, l_15, l_16, l_17, l_18, l_19, l_20, l_21, l_22, l_23, l_24, l_25, l_30, l_31, l_32, l_40, l_48, l_54, l_57, l_59, l_60, l_61, l_62, l_63, l_65, l_66, l_72, l_82, l_92, l_93, l_94, l_97, l_99, l_100, l_101, l_102, l_103, l_104, l_105, l_107, l_108, l_109, l_110, l_111, l_112, l_114, l_115, l_116, l_117, l_119, l_121, l_122, l_136, l_200, l_255, l_300, l_364, l_900, l_1000, l_1456, l_1458, l_1459, l_1460, l_1462, l_1471, l_1504, l_1510, l_1522, l_1550, l_2971, l_9999, l_10000, l_10979, l_65536, l_m1, nI_add, q_ltF, q_ltT, q_leT, q_eqF, Option.bind_some, if_true, if_false, reduceIte, ite_not, not_true_eq_false, not_false_eq_true, q_z1, Nat.reduceEqDiff]
          have hc2 : fX12_mean SM (nI s) (nI m) = some (nI 1, sl (sl S' 2 (lN (y / Nat.gcd y m))) 3 (lN (m / Nat.gcd y m))) := by
            rw [← j2]
            simp (disch := omega) only [fX12_mean, hI, em, c', ne_eq, not_false_eq_true, decide_true, Bool.and_true, hI2, e, v2, bi, b2_1, l_0, l_1, l_2, l_3, l_4, l_5, l_6, l_7, l_8, l_9, l_10, l_11, l_12, l_13, l_14, l_15, l_16, l_17, l_18, l_19, l_20, l_21, l_22, l_23, l_24, l_25, l_30, l_31, l_32, l_40, l_48, l_54, l_57, l_59, l_60, l_61, l_62, l_63, l_65, l_66, l_72, l_82, l_92, l_93, l_94, l_97, l_99, l_100, l_101, l_102, l_103, l_104, l_105, l_107, l_108, l_109, l_110, l_111, l_112, l_114, l_115, l_116, l_117, l_119, l_121, l_122, l_136, l_200, l_255, l_300, l_364, l_900, l_1000, l_1456, l_1458, l_1459, l_1460, l_1462, l_1471, l_1504, l_1510, l_1522, l_1550, l_2971, l_9999, l_10000, l_10979, l_65536, l_m1, q_eqF, nI_clamp, q_gi, q_gil, q_gir, q_giR, q_gl, q_gli, q_glr, q_glR, q_ra, q_rai, q_ral, q_raR, q_rl, q_rli, q_rll, q_rlr, sa, sA, ia, la, q_srsr, q_sRsR, Option.bind_some, if_true, if_false, reduceIte, ite_not, not_true_eq_false, not_false_eq_true, q_z1, Nat.reduceEqDiff]
          exact ⟨_, _, hc1, hc2, rfl, rl_frac (rl_mfr hR i3) _ _⟩
