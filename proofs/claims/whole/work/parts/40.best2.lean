theorem N_why2 {M : ms_T} {t : Nat → Nat} (w : tb_W t) (h : tb_N M t) (x y : Int32) : fX12_whyNoBest M x y = some (if inb x (t 2) && inb y (t 0 + 1) then (if y = nI 0 then nI 5 else nI 0) else nI 2) := by
  unfold fX12_whyNoBest
  rw [N_isTalkerAt w h, N_isHeight w h]
  cases inb x (t 2) <;> cases inb y (t 0 + 1) <;> simp only [Option.bind_some, bi, b2_0, b2_1, l_0, l_1, l_2, l_3, l_4, l_5, l_6, l_7, l_8, l_9, l_10, l_11, l_12, l_13, l_14, l_15, l_16, l_17, l_18, l_19, l_20, l_21, l_22, l_23, l_24, l_25, l_30, l_31, l_32, l_40, l_48, l_54, l_57, l_59, l_60, l_61, l_62, l_63, l_65, l_66, l_72, l_82, l_92, l_93, l_94, l_97, l_99, l_100, l_101, l_102, l_103, l_104, l_105, l_107, l_108, l_109, l_110, l_111, l_112, l_114, l_115, l_116, l_117, l_119, l_121, l_122, l_136, l_200, l_255, l_300, l_364, l_900, l_1000, l_1456, l_1458, l_1459, l_1460, l_1462, l_1471, l_1504, l_1510, l_1522, l_1550, l_2971, l_9999, l_10000, l_10979, l_65536, l_m1, q_eqT, Bool.and_true, Bool.and_false, Bool.false_eq_true, if_true, if_false] <;> simp [q_eqF] <;> split <;> simp_all
theorem T_why2 {SC SP0 T : ms_T} {t : Nat → Nat} (w : tb_W t) (h : tb_C T t) (x y : Int32) : fX11_fallStatus SC SP0 T x y = some (if inb x (t 2) && inb y (t 0 + 1) then (if y = nI 0 then nI 5 else nI 0) else nI 2) := by
  unfold fX11_fallStatus
  rw [T_isTalker w h, T_isHeight w h]
  cases inb x (t 2) <;> cases inb y (t 0 + 1) <;> simp only [Option.bind_some, bi, b2_0, b2_1, l_0, l_1, l_2, l_3, l_4, l_5, l_6, l_7, l_8, l_9, l_10, l_11, l_12, l_13, l_14, l_15, l_16, l_17, l_18, l_19, l_20, l_21, l_22, l_23, l_24, l_25, l_30, l_31, l_32, l_40, l_48, l_54, l_57, l_59, l_60, l_61, l_62, l_63, l_65, l_66, l_72, l_82, l_92, l_93, l_94, l_97, l_99, l_100, l_101, l_102, l_103, l_104, l_105, l_107, l_108, l_109, l_110, l_111, l_112, l_114, l_115, l_116, l_117, l_119, l_121, l_122, l_136, l_200, l_255, l_300, l_364, l_900, l_1000, l_1456, l_1458, l_1459, l_1460, l_1462, l_1471, l_1504, l_1510, l_1522, l_1550, l_2971, l_9999, l_10000, l_10979, l_65536, l_m1, q_eqT, Bool.and_true, Bool.and_false, Bool.false_eq_true, if_true, if_false] <;> simp [q_eqF] <;> split <;> simp_all
theorem rl_scr2 {SC SY0 SY1 SY2 SY3 SB ST0 SE0 ST2 SE2 ST3 SE3 ST4 SE4 SV0 SM M' : ms_T} (hR : Rl SC SY0 SY1 SY2 SY3 SB ST0 SE0 ST2 SE2 ST3 SE3 ST4 SE4 SV0 SM) {v : Int32} {x : Nat} (hx : x ≠ 0 ∧ x ≠ 8 ∧ x ≠ 10 ∧ x ≠ 11 ∧ x ≠ 23 ∧ x ≠ 40) (h1 : ∀ k, k ≠ x → gi M' k = gi (si (si SM 1 (nI 0)) 0 v) k) (h2 : ∀ k, k ≠ 29 → k ≠ 30 → gl M' k = gl SM k) (h3 : M'.2.2 = SM.2.2) : Rl (si SC 0 v) SY0 SY1 SY2 SY3 SB ST0 SE0 ST2 SE2 ST3 SE3 ST4 SE4 SV0 M' := by
  have a : ∀ j, ra M' j = ra SM j := fun j => by show M'.2.2.1 j = SM.2.2.1 j; rw [h3]
  have b : ∀ j, rl M' j = rl SM j := fun j => by show M'.2.2.2 j = SM.2.2.2 j; rw [h3]
  exact rl_scr hR ⟨⟨h2 2 (by omega) (by omega), h2 3 (by omega) (by omega)⟩, h1 8 (by omega), h1 10 (by omega), h1 11 (by omega), h1 23 (by omega), h1 40 (by omega), a 4, a 5, a 12, b 7⟩ (a 1) (a 2) (b 3) (h1 0 (by omega))
theorem o_best : op_best Rl := by
  intro SC SY0 SY1 SY2 SY3 SB ST0 SE0 ST2 SE2 ST3 SE3 ST4 SE4 SV0 SM SP0 SK hR a1 a2
  obtain ⟨hs, hF, hU, hT, ⟨hY0, hY1, hY2, hY3⟩, ⟨t, w, hC, hN0, n1, n2, n3, hE⟩, hK, hV⟩ := id hR
  have hN := tb_N0 hN0
  have hN2 : tb_N (si (si SM 1 (nI 0)) 0 (nI 0)) t := hN
  have hNu : ∀ i, i < 92 → ra SM 5 i = nI (t i) := hN
  obtain ⟨w0, w1, w2, w3, w4, w5, w6, w7, w8, w9⟩ := id w
  obtain ⟨h0, h1, h2, h3, h4, h5, h6, h7, h8, h9, h10, h11, h12, h13, h14, h15, h16⟩ := id hC
  have e1 := T_why2 (SC := SC) (SP0 := SP0) w hC a1 a2
  have hN1 : tb_N (si SM 1 (nI 0)) t := hN
  have e2 := N_why2 w hN1 a1 a2
  have bad : ∀ v : Nat, 0 < v → v < 10 → fX11_fallStatus SC SP0 ST0 a1 a2 = some (nI v) → fX12_whyNoBest (si SM 1 (nI 0)) a1 a2 = some (nI v) → ∃ (z : Int32 × ms_T × ms_T) (w : Int32 × ms_T), fX11_best SC SP0 ST0 SK a1 a2 = some z ∧ fX12_best SM a1 a2 = some w ∧ z.1 = w.1 ∧ Rl z.2.1 SY0 SY1 SY2 SY3 SB ST0 SE0 ST2 SE2 ST3 SE3 ST4 SE4 SV0 w.2 := by
    intro v hv hv2 g1 g2
    simp (disch := omega) only [fX11_best, fX12_best, fX11_answer, fX11_refuse, fX11_deny, fX11_grant, fX12_refuse, fX12_no, g1, g2, l_0, l_1, l_2, l_3, l_4, l_5, l_6, l_7, l_8, l_9, l_10, l_11, l_12, l_13, l_14, l_15, l_16, l_17, l_18, l_19, l_20, l_21, l_22, l_23, l_24, l_25, l_30, l_31, l_32, l_40, l_48, l_54, l_57, l_59, l_60, l_61, l_62, l_63, l_65, l_66, l_72, l_82, l_92, l_93, l_94, l_97, l_99, l_100, l_101, l_102, l_103, l_104, l_105, l_107, l_108, l_109, l_110, l_111, l_112, l_114, l_115, l_116, l_117, l_119, l_121, l_122, l_136, l_200, l_255, l_300, l_364, l_900, l_1000, l_1456, l_1458, l_1459, l_1460, l_1462, l_1471, l_1504, l_1510, l_1522, l_1550, l_2971, l_9999, l_10000, l_10979, l_65536, l_m1, nI_add, pk_mul, q_sub, q_ltT, q_ltF, q_leT, q_leF, q_eqT, q_eqF, q_inT, q_inF, nI_clamp, q_mlt, q_mle, q_mne, q_mne2, q_mnlt, q_mnle, q_gi, q_gil, q_gir, q_giR, q_gl, q_gli, q_glr, q_glR, q_ra, q_rai, q_ral, q_raR, q_rl, q_rli, q_rll, q_rlr, sa, sA, ia, la, q_srsr, q_sRsR, Option.bind_some, if_true, if_false, reduceIte, ite_not, not_true_eq_false, not_false_eq_true, q_z1, Nat.reduceEqDiff, q_z0]
    exact ⟨_, _, rfl, rfl, rfl, rl_st hR _⟩
  rcases q_ix a1 (t 2) (by omega) with ⟨h, e⟩ | ⟨h, h2', e⟩ | ⟨p, hp, rfl⟩
  · rw [e] at e1 e2; exact bad 2 (by omega) (by omega) e1 e2
  · rw [e] at e1 e2; exact bad 2 (by omega) (by omega) e1 e2
  · have ep : inb (nI p) (t 2) = true := q_inT hp (by omega)
    rw [ep] at e1 e2
    rcases q_ix a2 (t 0 + 1) (by omega) with ⟨h, e⟩ | ⟨h, h2', e⟩ | ⟨n, hn, rfl⟩
    · rw [e] at e1 e2; exact bad 2 (by omega) (by omega) e1 e2
    · rw [e] at e1 e2; exact bad 2 (by omega) (by omega) e1 e2
    · have en : inb (nI n) (t 0 + 1) = true := q_inT hn (by omega)
      rw [en] at e1 e2
      by_cases c : n = 0
      · subst c; exact bad 5 (by omega) (by omega) e1 e2
      · have c' : ¬ nI n = nI 0 := fun g => c ((nI_eq (by omega) (by omega)).mp g)
        simp only [Bool.and_true, if_true, c', if_false] at e1 e2
        obtain ⟨K', g1, g2, g3⟩ := K_weigh (K := SK) w hC hp
        obtain ⟨M', m1, m2, m3, m4, m5, m6, m7⟩ := M_laysBest (M := si (si SM 1 (nI 0)) 0 (nI 0)) (a := n) w hN2 hp (by omega) (by omega)
        have hm := mo_le w (p := p) n (by omega)
        have q1 := pw16 (h := n) (by omega)
        have q0 : 16 ^ n ≠ 0 := by have := Nat.pow_pos (a := 16) (n := n) (by decide); omega
        have t1 := C_tell SC (x := mo t p n) (y := 16 ^ n) (by omega) (by omega) q0
        have t2 := M_fraction M' (x := mo t p n) (y := 16 ^ n) (by omega) (by omega) q0
        have e3 := g2 n (by omega)
        have e4 := q_shl16 n (by omega)
        simp (disch := omega) only [fX11_best, fX12_best, e1, e2, g1, e3, e4, m1, m2, m3, t1, t2, l_0, l_1, l_2, l_3, l_4, l_5, l_6, l_7, l_8, l_9, l_10, l_11, l_12, l_13, l_14, l_15, l_16, l_17, l_18, l_19, l_20, l_21, l_22, l_23, l_24, l_25, l_30, l_31, l_32, l_40, l_48, l_54, l_57, l_59, l_60, l_61, l_62, l_63, l_65, l_66, l_72, l_82, l_92, l_93, l_94, l_97, l_99, l_100, l_101, l_102, l_103, l_104, l_105, l_107, l_108, l_109, l_110, l_111, l_112, l_114, l_115, l_116, l_117, l_119, l_121, l_122, l_136, l_200, l_255, l_300, l_364, l_900, l_1000, l_1456, l_1458, l_1459, l_1460, l_1462, l_1471, l_1504, l_1510, l_1522, l_1550, l_2971, l_9999, l_10000, l_10979, l_65536, l_m1, nI_add, pk_mul, q_sub, q_ltT, q_ltF, q_leT, q_leF, q_eqT, q_eqF, q_inT, q_inF, nI_clamp, q_mlt, q_mle, q_mne, q_mne2, q_mnlt, q_mnle, q_gi, q_gil, q_gir, q_giR, q_gl, q_gli, q_glr, q_glR, q_ra, q_rai, q_ral, q_raR, q_rl, q_rli, q_rll, q_rlr, sa, sA, ia, la, q_srsr, q_sRsR, Option.bind_some, if_true, if_false, reduceIte, ite_not, not_true_eq_false, not_false_eq_true, q_z1, Nat.reduceEqDiff]
        refine ⟨_, _, rfl, rfl, rfl, ?_⟩
        exact rl_frac (rl_scr2 hR (M' := M') (v := nI 0) (x := 31) (by omega) m5 m6 m7) _ _
theorem o_bestAt : op_bestAt Rl := by
  intro SC SY0 SY1 SY2 SY3 SB ST0 SE0 ST2 SE2 ST3 SE3 ST4 SE4 SV0 SM SP0 SK hR a1 a2
  obtain ⟨hs, hF, hU, hT, ⟨hY0, hY1, hY2, hY3⟩, ⟨t, w, hC, hN0, n1, n2, n3, hE⟩, hK, hV⟩ := id hR
  have hN := tb_N0 hN0
  have hN2 : tb_N (si (si SM 1 (nI 0)) 0 (nI 0)) t := hN
  have hNu : ∀ i, i < 92 → ra SM 5 i = nI (t i) := hN
  obtain ⟨w0, w1, w2, w3, w4, w5, w6, w7, w8, w9⟩ := id w
  obtain ⟨h0, h1, h2, h3, h4, h5, h6, h7, h8, h9, h10, h11, h12, h13, h14, h15, h16⟩ := id hC
  have e1 := T_why2 (SC := SC) (SP0 := SP0) w hC a1 a2
  have hN1 : tb_N (si SM 1 (nI 0)) t := hN
  have e2 := N_why2 w hN1 a1 a2
  have bad : ∀ v : Nat, 0 < v → v < 10 → fX11_fallStatus SC SP0 ST0 a1 a2 = some (nI v) → fX12_whyNoBest (si SM 1 (nI 0)) a1 a2 = some (nI v) → ∃ (z : Int32 × ms_T × ms_T) (w : Int32 × ms_T), fX11_bestAt SC SP0 ST0 SK a1 a2 = some z ∧ fX12_bestAt SM a1 a2 = some w ∧ z.1 = w.1 ∧ Rl z.2.1 SY0 SY1 SY2 SY3 SB ST0 SE0 ST2 SE2 ST3 SE3 ST4 SE4 SV0 w.2 := by
    intro v hv hv2 g1 g2
    simp (disch := omega) only [fX11_bestAt, fX12_bestAt, fX11_answer, fX11_refuse, fX11_deny, fX11_grant, fX12_refuse, fX12_no, g1, g2, l_0, l_1, l_2, l_3, l_4, l_5, l_6, l_7, l_8, l_9, l_10, l_11, l_12, l_13, l_14, l_15, l_16, l_17, l_18, l_19, l_20, l_21, l_22, l_23, l_24, l_25, l_30, l_31, l_32, l_40, l_48, l_54, l_57, l_59, l_60, l_61, l_62, l_63, l_65, l_66, l_72, l_82, l_92, l_93, l_94, l_97, l_99, l_100, l_101, l_102, l_103, l_104, l_105, l_107, l_108, l_109, l_110, l_111, l_112, l_114, l_115, l_116, l_117, l_119, l_121, l_122, l_136, l_200, l_255, l_300, l_364, l_900, l_1000, l_1456, l_1458, l_1459, l_1460, l_1462, l_1471, l_1504, l_1510, l_1522, l_1550, l_2971, l_9999, l_10000, l_10979, l_65536, l_m1, nI_add, pk_mul, q_sub, q_ltT, q_ltF, q_leT, q_leF, q_eqT, q_eqF, q_inT, q_inF, nI_clamp, q_mlt, q_mle, q_mne, q_mne2, q_mnlt, q_mnle, q_gi, q_gil, q_gir, q_giR, q_gl, q_gli, q_glr, q_glR, q_ra, q_rai, q_ral, q_raR, q_rl, q_rli, q_rll, q_rlr, sa, sA, ia, la, q_srsr, q_sRsR, Option.bind_some, if_true, if_false, reduceIte, ite_not, not_true_eq_false, not_false_eq_true, q_z1, Nat.reduceEqDiff, q_z0]
    exact ⟨_, _, rfl, rfl, rfl, rl_st hR _⟩
  rcases q_ix a1 (t 2) (by omega) with ⟨h, e⟩ | ⟨h, h2', e⟩ | ⟨p, hp, rfl⟩
  · rw [e] at e1 e2; exact bad 2 (by omega) (by omega) e1 e2
  · rw [e] at e1 e2; exact bad 2 (by omega) (by omega) e1 e2
  · have ep : inb (nI p) (t 2) = true := q_inT hp (by omega)
    rw [ep] at e1 e2
    rcases q_ix a2 (t 0 + 1) (by omega) with ⟨h, e⟩ | ⟨h, h2', e⟩ | ⟨n, hn, rfl⟩
    · rw [e] at e1 e2; exact bad 2 (by omega) (by omega) e1 e2
    · rw [e] at e1 e2; exact bad 2 (by omega) (by omega) e1 e2
    · have en : inb (nI n) (t 0 + 1) = true := q_inT hn (by omega)
      rw [en] at e1 e2
      by_cases c : n = 0
      · subst c; exact bad 5 (by omega) (by omega) e1 e2
      · have c' : ¬ nI n = nI 0 := fun g => c ((nI_eq (by omega) (by omega)).mp g)
        simp only [Bool.and_true, if_true, c', if_false] at e1 e2
        obtain ⟨K', g1, g2, g3⟩ := K_weigh (K := SK) w hC hp
        obtain ⟨M', m1, m2, m3, m4, m5, m6, m7⟩ := M_laysBest (M := si (si SM 1 (nI 0)) 0 (nI 0)) (a := n) w hN2 hp (by omega) (by omega)
        have e3 : fX5_firstPull K' (nI n) = some (nI (pl t p n)) := K_first w g3 n FU (by omega) (by omega) (by unfold FU; omega)
        simp (disch := omega) only [fX11_bestAt, fX12_bestAt, fX11_answer, fX11_refuse, fX11_deny, fX11_grant, fX12_refuse, fX12_no, e1, e2, g1, e3, m1, m4, l_0, l_1, l_2, l_3, l_4, l_5, l_6, l_7, l_8, l_9, l_10, l_11, l_12, l_13, l_14, l_15, l_16, l_17, l_18, l_19, l_20, l_21, l_22, l_23, l_24, l_25, l_30, l_31, l_32, l_40, l_48, l_54, l_57, l_59, l_60, l_61, l_62, l_63, l_65, l_66, l_72, l_82, l_92, l_93, l_94, l_97, l_99, l_100, l_101, l_102, l_103, l_104, l_105, l_107, l_108, l_109, l_110, l_111, l_112, l_114, l_115, l_116, l_117, l_119, l_121, l_122, l_136, l_200, l_255, l_300, l_364, l_900, l_1000, l_1456, l_1458, l_1459, l_1460, l_1462, l_1471, l_1504, l_1510, l_1522, l_1550, l_2971, l_9999, l_10000, l_10979, l_65536, l_m1, nI_add, pk_mul, q_sub, q_ltT, q_ltF, q_leT, q_leF, q_eqT, q_eqF, q_inT, q_inF, nI_clamp, q_mlt, q_mle, q_mne, q_mne2, q_mnlt, q_mnle, q_gi, q_gil, q_gir, q_giR, q_gl, q_gli, q_glr, q_glR, q_ra, q_rai, q_ral, q_raR, q_rl, q_rli, q_rll, q_rlr, sa, sA, ia, la, q_srsr, q_sRsR, Option.bind_some, if_true, if_false, reduceIte, ite_not, not_true_eq_false, not_false_eq_true, q_z1, Nat.reduceEqDiff]
        refine ⟨_, _, rfl, rfl, rfl, ?_⟩
        exact rl_scr2 hR (M' := M') (v := nI 0) (x := 31) (by omega) m5 m6 m7
