section Q85
variable {R B M T : ms_T} {g t : Nat → Nat} {n a e k wn : Nat}
theorem b_39 (h : bm M) (x y : Int32) : fX12_readClaim_39 M x y = some M := by
  have b1 := b_perhaps h
  have b3 := b_116 h
  simp only [fX12_readClaim_39, l_0, l_1, l_2, l_3, l_4, l_5, l_6, l_7, l_8, l_9, l_10, l_11, l_12, l_13, l_14, l_15, l_16, l_17, l_18, l_19, l_20, l_21, l_22, l_23, l_24, l_25, l_30, l_31, l_32, l_40, l_48, l_54, l_57, l_59, l_60, l_61, l_62, l_63, l_65, l_66, l_72, l_82, l_92, l_93, l_94, l_97, l_99, l_100, l_101, l_102, l_103, l_104, l_105, l_107, l_108, l_109, l_110, l_111, l_112, l_114, l_115, l_116, l_117, l_119, l_121, l_122, l_136, l_200, l_255, l_300, l_364, l_900, l_1000, l_1456, l_1458, l_1459, l_1460, l_1462, l_1471, l_1504, l_1510, l_1522, l_1550, l_2971, l_9999, l_10000, l_10979, l_65536, l_m1, w_7, b1, b3, if_true, Option.bind_some]
theorem b_claim {M2 : ms_T} {x : Int32} (h : fX12_readNew M (nI 1) (nI 8) = some (x, M2)) (hb : bm M2) : fX12_readClaim M = some M2 := by
  have b1 := b_must hb
  have b3 := b_readTold hb (nI 4) (nI 0)
  have b4 := b_perhaps hb
  have b5 := b_39 hb
  simp only [fX12_readClaim, l_0, l_1, l_2, l_3, l_4, l_5, l_6, l_7, l_8, l_9, l_10, l_11, l_12, l_13, l_14, l_15, l_16, l_17, l_18, l_19, l_20, l_21, l_22, l_23, l_24, l_25, l_30, l_31, l_32, l_40, l_48, l_54, l_57, l_59, l_60, l_61, l_62, l_63, l_65, l_66, l_72, l_82, l_92, l_93, l_94, l_97, l_99, l_100, l_101, l_102, l_103, l_104, l_105, l_107, l_108, l_109, l_110, l_111, l_112, l_114, l_115, l_116, l_117, l_119, l_121, l_122, l_136, l_200, l_255, l_300, l_364, l_900, l_1000, l_1456, l_1458, l_1459, l_1460, l_1462, l_1471, l_1504, l_1510, l_1522, l_1550, l_2971, l_9999, l_10000, l_10979, l_65536, l_m1, h, w_5, b1, b3, w_6, b4, b5, if_true, Option.bind_some]
theorem so_claim (h : rd B R M g n a e k wn) (ht : tt T R M t) (hk : k = 1) : so B R M T t g n a (fX8_readClaim R B T) (fX12_readClaim M) := by
  obtain ⟨w, hC, hN, ⟨m1, m2, m3⟩, ⟨z1, z2, z3⟩, hf, o, o1, o2, o3⟩ := id ht
  obtain ⟨w0, w1, w2, w3, w4, w5, w6, w7, w8, w9⟩ := id w
  have h1 := hC.2.1
  have h4 := hC.2.2.1
  have h7 := hC.2.2.2.1
  have ae := rd_ae h (by omega)
  have hc0 : ra M 5 (1456 + 1) = nI (t 1) := hN 1 (by omega)
  have nmm : (nM = nM) = True := eq_self _
  by_cases full : t 1 = 8
  · rw [full] at hc0 h4
    obtain ⟨R', M', q1, q2, q3, q4, q5⟩ := new_full h (by omega) (s := 1) (most := 8) (by omega) hc0
    refine Or.inr (Or.inl ⟨R', M', ?_, b_claim q2 (bd_bm q3), q3, mg_mh q5⟩)
    simp only [cb, fX8_readClaim, h4, l_0, l_1, l_2, l_3, l_4, l_5, l_6, l_7, l_8, l_9, l_10, l_11, l_12, l_13, l_14, l_15, l_16, l_17, l_18, l_19, l_20, l_21, l_22, l_23, l_24, l_25, l_30, l_31, l_32, l_40, l_48, l_54, l_57, l_59, l_60, l_61, l_62, l_63, l_65, l_66, l_72, l_82, l_92, l_93, l_94, l_97, l_99, l_100, l_101, l_102, l_103, l_104, l_105, l_107, l_108, l_109, l_110, l_111, l_112, l_114, l_115, l_116, l_117, l_119, l_121, l_122, l_136, l_200, l_255, l_300, l_364, l_900, l_1000, l_1456, l_1458, l_1459, l_1460, l_1462, l_1471, l_1504, l_1510, l_1522, l_1550, l_2971, l_9999, l_10000, l_10979, l_65536, l_m1, q1, q_z0, if_true, Option.bind_some, Option.map_some]
  · have n9 : (nI (t 1) = nI 8) = False := q_eqF full (by omega) (by omega)
    have le00 : (nI 0 ≤ nI 0) = True := q_leT (by omega) (by omega)
    rcases rd_new h ht (s := 1) (c := t 1) (most := 8) (by omega) hc0 (by omega) (by omega) (by show 9 + t 1 < 23; omega) with ⟨R1, R2, M2, a2, e2, k2, wn2, p1, p2, p3, p4, p5, p6, p7, p8, p9, p10, p11, p12, p13⟩ | ⟨R1, R2, M2, p1, p2, p3, p4, p5, p6⟩
    · have p13' : rl M2 7 = vp_updL (rl M 7) (92 + (9 + t 1)) (gl R1 8) := p13
      have mhM2 : mh M M2 := ⟨fun j hj => p9 j hj.1, p10, fun k _ => p11 k, fun i _ => by rw [p11], p12, fun i hi => by rw [p13']; exact pk_uLn (by omega)⟩
      rcases rd_word p6 (j := 5) (by omega) with ⟨x0, R3, M3, a3, e3, k3, wn3, x1, x2, x3, x4, x5, x6⟩ | ⟨x0, R3, M3, x1, x2, x3, x4, x5⟩
      · have ra53 : ra M3 5 = ra M 5 := by rw [mg_ra x6, p11]
        have rl37 : rl M3 7 = vp_updL (rl M 7) (92 + (9 + t 1)) (gl R1 8) := by rw [mg_rl x6, p13']
        rcases rd_readTold (T := T) x3 (b := 4) (s := 0) (cnt := t 0) (by omega) (by omega) (by show 0 + t 0 ≤ 23; omega) (by rw [ra53]; exact hN 0 (by omega)) (fun i hi => by
          rw [rl37]
          show rl T 10 (0 + i) = vp_updL (rl M 7) (92 + (9 + t 1)) (gl R1 8) (23 * 4 + (0 + i))
          rw [Nat.zero_add, pk_uLn (by omega)]; exact m1 i hi) with ⟨x, R4, M4, a4, e4, k4, wn4, c0, c1, c2, c3, c4, c5, c6, c7, c8⟩ | ⟨R4, M4, c1, c3, c4, c5, c6⟩
        · have xm : (nI x = nM) = False := q_mne2 (by omega)
          have nf0 : nfr 0 = 0 := rfl
          rw [nf0] at c1
          have m124 := c4.2.2.2.2.2.2.2.1
          have a34 : a < a4 := by
            have q1 := p6.2.2.1.2.2.2.2.2.2.1
            have q2 := x3.2.2.1.2.2.2.2.2.2.1
            omega
          -- behind the needs
          have last : ∀ (R' M' : ms_T) (s pr a' e' k' wn' : Nat), s < 2 ^ t 1 → pr ≤ 1 → mg M2 M' → rg R R' → rd B R' M' g n a' e' k' wn' → a4 ≤ a' → fX8_readClaim R B T = fX8_readClaim_113 B R' T (gl R1 8) (nI x) (nI pr) (nI s) → fX12_readClaim M = fX12_readClaim_116 M' (nI x) (nI pr) (nI s) → so B R M T t g n a (fX8_readClaim R B T) (fX12_readClaim M) := by
            intro R' M' s pr a' e' k' wn' hs hpr hmg hrg hrd haa hC1 hD1
            have m12' := hrd.2.2.2.2.2.2.2.1
            have ra5 : ra M' 5 = ra M 5 := by rw [mg_ra hmg, p11]
            have p8' : (2 : Nat) ^ t 1 ≤ 2 ^ 8 := Nat.pow_le_pow_right (by decide) w1
            have sm' : (nI s = nM) = False := q_mne2 (by omega)
            have Tself : si T 7 (nI (bs (tb_pp t) (t 1))) = T := by rw [← h7]; exact (si_self T 7).symm
            obtain ⟨f, v1, v2, v3⟩ := N_thinks (M := M') w (b := 4) (a := x) (n := s) (r := pr) (by omega) (by omega) (fun i hi => by rw [ra5]; exact hN i hi)
            have fin : ∀ T', fX8_readClaim R B T = some (nI 1, R', T') → tb_C T' (tth t x s pr) → rl T' 10 = vp_updL (rl T 10) (9 + t 1) (gl R1 8) → so B R M T t g n a (fX8_readClaim R B T) (fX12_readClaim M) := by
              intro T' hq1 hq2 hq3
              refine Or.inl ⟨R', T', sr M' 5 f, tth t x s pr, a', e', k', wn', hq1, ?_, hrd, ⟨W_tth w (by omega) c0 hs hpr, hq2, v2, ?_, ?_, ?_, o, o1, ?_, ?_⟩, ?_, by omega⟩
              · rw [hD1]
                simp only [fX12_readClaim_116, m12', l_0, l_1, l_2, l_3, l_4, l_5, l_6, l_7, l_8, l_9, l_10, l_11, l_12, l_13, l_14, l_15, l_16, l_17, l_18, l_19, l_20, l_21, l_22, l_23, l_24, l_25, l_30, l_31, l_32, l_40, l_48, l_54, l_57, l_59, l_60, l_61, l_62, l_63, l_65, l_66, l_72, l_82, l_92, l_93, l_94, l_97, l_99, l_100, l_101, l_102, l_103, l_104, l_105, l_107, l_108, l_109, l_110, l_111, l_112, l_114, l_115, l_116, l_117, l_119, l_121, l_122, l_136, l_200, l_255, l_300, l_364, l_900, l_1000, l_1456, l_1458, l_1459, l_1460, l_1462, l_1471, l_1504, l_1510, l_1522, l_1550, l_2971, l_9999, l_10000, l_10979, l_65536, l_m1, v1, if_true, Option.bind_some]
              · have e7 : rl (sr M' 5 f) 7 = vp_updL (rl M 7) (92 + (9 + t 1)) (gl R1 8) := by rw [q_rlr, mg_rl hmg, p13']
                unfold nms
                rw [e7, hq3, tth_1, tth_n (by omega) (by omega) (by omega) (by omega), tth_n (by omega) (by omega) (by omega) (by omega)]
                refine ⟨fun i hi => ?_, fun i hi => ?_, fun i hi => ?_⟩
                · rw [pk_uLn (by omega), pk_uLn (by omega)]; exact m1 i hi
                · by_cases c : i = t 1
                  · subst c; rw [pk_uLs, pk_uLs]
                  · rw [pk_uLn (by omega), pk_uLn (by omega)]; exact m2 i (by omega)
                · rw [pk_uLn (by omega), pk_uLn (by omega)]; exact m3 i hi
              · rw [hq3, tth_1, tth_n (by omega) (by omega) (by omega) (by omega), tth_n (by omega) (by omega) (by omega) (by omega)]
                refine ⟨fun i q1 q2 => ?_, fun i q1 q2 => ?_, fun i q1 q2 => ?_⟩
                · rw [pk_uLn (by omega)]; exact z1 i q1 q2
                · rw [pk_uLn (by omega)]; exact z2 i (by omega) q2
                · rw [pk_uLn (by omega)]; exact z3 i q1 q2
              · rw [tth_n (by omega) (by omega) (by omega) (by omega)]
                intro i q1 q2
                rw [tth_n (by omega) (by omega) (by omega) (by omega)]; exact hf i q1 q2
              · rw [hrg.1 12 (by omega)]; exact o2
              · rw [q_gir, hmg.1 24 (by omega), p9 24 (by omega)]; exact o3
              · refine mh_tr mhM2 (mh_tr (mg_mh hmg) (mh_5 (fun i hi => ?_)))
                exact v3 i (by omega)
            rcases (by omega : pr = 0 ∨ pr = 1) with rfl | rfl
            · obtain ⟨T', g1, g2, g3, g4⟩ := T_addClaim (T := T) (a := x) (n := s) (r := 0) w (by omega) (by omega) (by rw [Tself]; exact hC) (by rw [if_neg (by omega)]; exact h7) (gl R1 8)
              refine fin T' ?_ g2 g3
              rw [hC1]
              simp only [fX8_readClaim_113, fX8_readClaim_149, l_0, l_1, l_2, l_3, l_4, l_5, l_6, l_7, l_8, l_9, l_10, l_11, l_12, l_13, l_14, l_15, l_16, l_17, l_18, l_19, l_20, l_21, l_22, l_23, l_24, l_25, l_30, l_31, l_32, l_40, l_48, l_54, l_57, l_59, l_60, l_61, l_62, l_63, l_65, l_66, l_72, l_82, l_92, l_93, l_94, l_97, l_99, l_100, l_101, l_102, l_103, l_104, l_105, l_107, l_108, l_109, l_110, l_111, l_112, l_114, l_115, l_116, l_117, l_119, l_121, l_122, l_136, l_200, l_255, l_300, l_364, l_900, l_1000, l_1456, l_1458, l_1459, l_1460, l_1462, l_1471, l_1504, l_1510, l_1522, l_1550, l_2971, l_9999, l_10000, l_10979, l_65536, l_m1, sm', g1, if_true, if_false, Option.bind_some]
            · have es : nI (bs (tb_pp t) (t 1)) ||| ((nI 1) <<< (nI (t 1) &&& nI 31)) = nI (bs (tb_pp t) (t 1) ||| 2 ^ t 1) := by
                have : (2 : Nat) ^ t 1 < 2 ^ 32 := by omega
                rw [q_shl (by omega) (by omega), q_or, Nat.one_mul]
              obtain ⟨T', g1, g2, g3, g4⟩ := T_addClaim (T := si T 7 (nI (bs (tb_pp t) (t 1) ||| 2 ^ t 1))) (a := x) (n := s) (r := 1) w (by omega) (by omega) (by rw [q_sisi, Tself]; exact hC) (by rw [if_pos rfl]; rfl) (gl R1 8)
              refine fin T' ?_ g2 g3
              rw [hC1]
              simp only [fX8_readClaim_113, fX8_readClaim_149, l_0, l_1, l_2, l_3, l_4, l_5, l_6, l_7, l_8, l_9, l_10, l_11, l_12, l_13, l_14, l_15, l_16, l_17, l_18, l_19, l_20, l_21, l_22, l_23, l_24, l_25, l_30, l_31, l_32, l_40, l_48, l_54, l_57, l_59, l_60, l_61, l_62, l_63, l_65, l_66, l_72, l_82, l_92, l_93, l_94, l_97, l_99, l_100, l_101, l_102, l_103, l_104, l_105, l_107, l_108, l_109, l_110, l_111, l_112, l_114, l_115, l_116, l_117, l_119, l_121, l_122, l_136, l_200, l_255, l_300, l_364, l_900, l_1000, l_1456, l_1458, l_1459, l_1460, l_1462, l_1471, l_1504, l_1510, l_1522, l_1550, l_2971, l_9999, l_10000, l_10979, l_65536, l_m1, sm', n_10, h7, h4, es, g1, if_true, if_false, Option.bind_some]
          -- the needs
          have mid : ∀ (R' M' : ms_T) (pr a' e' k' wn' : Nat), pr ≤ 1 → mg M2 M' → rg R R' → rd B R' M' g n a' e' k' wn' → a4 ≤ a' → fX8_readClaim R B T = fX8_readClaim_96 B R' T (gl R1 8) (nI x) (nI pr) → fX12_readClaim M = fX12_readClaim_39 M' (nI x) (nI pr) → so B R M T t g n a (fX8_readClaim R B T) (fX12_readClaim M) := by
            intro R' M' pr a' e' k' wn' hpr hmg hrg hrd haa hC1 hD1
            have m12' := hrd.2.2.2.2.2.2.2.1
            have tp : 0 < 2 ^ t 1 := Nat.pow_pos (by omega)
            rcases rd_w hrd (j := 7) (by omega) with ⟨d0, d1, d2⟩ | ⟨d0, d1, d2⟩
            · obtain ⟨R5, M5, a5, e5, k5, wn5, f1, f2, f3, f4, f5, f6⟩ := rd_adv hrd
              have pe : fX12_perhaps M' (bi (wb M' 7)) = some (nI 1, M5) := by rw [d2, k_perh1 m12', f2, Option.bind_some]
              have mgC : mg M2 M5 := mg_tr hmg f6
              have ra5 : ra M5 5 = ra M 5 := by rw [mg_ra mgC, p11]
              have rl7 : rl M5 7 = vp_updL (rl M 7) (92 + (9 + t 1)) (gl R1 8) := by rw [mg_rl mgC, p13']
              have aa' := hrd.2.2.1.2.2.2.2.2.2.1
              have D2 : fX12_readClaim M = fX12_readClaim_53 FU M5 (nI x) (nI pr) (nI 0) := by
                rw [hD1]
                simp only [fX12_readClaim_39, w_7, l_0, l_1, l_2, l_3, l_4, l_5, l_6, l_7, l_8, l_9, l_10, l_11, l_12, l_13, l_14, l_15, l_16, l_17, l_18, l_19, l_20, l_21, l_22, l_23, l_24, l_25, l_30, l_31, l_32, l_40, l_48, l_54, l_57, l_59, l_60, l_61, l_62, l_63, l_65, l_66, l_72, l_82, l_92, l_93, l_94, l_97, l_99, l_100, l_101, l_102, l_103, l_104, l_105, l_107, l_108, l_109, l_110, l_111, l_112, l_114, l_115, l_116, l_117, l_119, l_121, l_122, l_136, l_200, l_255, l_300, l_364, l_900, l_1000, l_1456, l_1458, l_1459, l_1460, l_1462, l_1471, l_1504, l_1510, l_1522, l_1550, l_2971, l_9999, l_10000, l_10979, l_65536, l_m1, pe, n_10, if_false, Option.bind_some]
              have C2 : ∀ z, fX8_readNeeds_8 B T FU R5 (nI 0) (nI 0) = some z → fX8_readClaim R B T = fX8_readClaim_113 B z.2 T (gl R1 8) (nI x) (nI pr) z.1 := by
                intro z hz
                rw [hC1]
                simp only [fX8_readClaim_96, fX8_readNeeds, l_0, l_1, l_2, l_3, l_4, l_5, l_6, l_7, l_8, l_9, l_10, l_11, l_12, l_13, l_14, l_15, l_16, l_17, l_18, l_19, l_20, l_21, l_22, l_23, l_24, l_25, l_30, l_31, l_32, l_40, l_48, l_54, l_57, l_59, l_60, l_61, l_62, l_63, l_65, l_66, l_72, l_82, l_92, l_93, l_94, l_97, l_99, l_100, l_101, l_102, l_103, l_104, l_105, l_107, l_108, l_109, l_110, l_111, l_112, l_114, l_115, l_116, l_117, l_119, l_121, l_122, l_136, l_200, l_255, l_300, l_364, l_900, l_1000, l_1456, l_1458, l_1459, l_1460, l_1462, l_1471, l_1504, l_1510, l_1522, l_1550, l_2971, l_9999, l_10000, l_10979, l_65536, l_m1, d1, f1, hz, if_true, Option.bind_some]
              rcases needs_loop (B := B) (g := g) (n := n) (x := nI x) (pr := nI pr) w hC n 0 FU FU 0 R5 M5 a5 e5 k5 wn5 (by omega) (by omega) (by have := f3.2.1; unfold FU; omega) (by have := f3.2.1; unfold FU; omega) tp f3 (by rw [ra5]; exact hN 1 (by omega)) (fun i hi => by rw [rl7, pk_uLn (by omega)]; exact m2 i hi) with ⟨s', R6, M6, a6, e6, k6, wn6, v1, v2, v3, v4, v5, v6, v7⟩ | ⟨R6, M6, v2, v3, v4, v5, v6⟩ | ⟨s', R6, M6, R7, v2, v1, v3, v4, v5, v6⟩
              · exact last R6 M6 s' pr a6 e6 k6 wn6 v1 hpr (mg_tr mgC v7) (rg_tr (rg_tr hrg f5) v6) v4 (by omega) (C2 _ v2) (by rw [D2, v3])
              · refine Or.inr (Or.inl ⟨R6, M6, ?_, by rw [D2, v3], v4, mh_tr mhM2 (mg_mh (mg_tr mgC v6))⟩)
                have q := C2 _ v2
                rw [q]
                simp only [cb, fX8_readClaim_113, l_0, l_1, l_2, l_3, l_4, l_5, l_6, l_7, l_8, l_9, l_10, l_11, l_12, l_13, l_14, l_15, l_16, l_17, l_18, l_19, l_20, l_21, l_22, l_23, l_24, l_25, l_30, l_31, l_32, l_40, l_48, l_54, l_57, l_59, l_60, l_61, l_62, l_63, l_65, l_66, l_72, l_82, l_92, l_93, l_94, l_97, l_99, l_100, l_101, l_102, l_103, l_104, l_105, l_107, l_108, l_109, l_110, l_111, l_112, l_114, l_115, l_116, l_117, l_119, l_121, l_122, l_136, l_200, l_255, l_300, l_364, l_900, l_1000, l_1456, l_1458, l_1459, l_1460, l_1462, l_1471, l_1504, l_1510, l_1522, l_1550, l_2971, l_9999, l_10000, l_10979, l_65536, l_m1, nmm, if_true, Option.map_some]
              · have p8' : (2 : Nat) ^ t 1 ≤ 2 ^ 8 := Nat.pow_le_pow_right (by decide) w1
                have sm' : (nI s' = nM) = False := q_mne2 (by omega)
                have q := C2 _ v2
                have Tself : si T 7 (nI (bs (tb_pp t) (t 1))) = T := by rw [← h7]; exact (si_self T 7).symm
                rcases (by omega : pr = 0 ∨ pr = 1) with rfl | rfl
                · obtain ⟨T', g1, g2, g3, g4⟩ := T_addClaim (T := T) (a := x) (n := s') (r := 0) w (by omega) (by omega) (by rw [Tself]; exact hC) (by rw [if_neg (by omega)]; exact h7) (gl R1 8)
                  refine Or.inr (Or.inr ⟨R6, T', M6, R7, ?_, by rw [D2, v3], v4, v5, mh_tr mhM2 (mg_mh (mg_tr mgC v6))⟩)
                  rw [q]
                  simp only [fX8_readClaim_113, fX8_readClaim_149, l_0, l_1, l_2, l_3, l_4, l_5, l_6, l_7, l_8, l_9, l_10, l_11, l_12, l_13, l_14, l_15, l_16, l_17, l_18, l_19, l_20, l_21, l_22, l_23, l_24, l_25, l_30, l_31, l_32, l_40, l_48, l_54, l_57, l_59, l_60, l_61, l_62, l_63, l_65, l_66, l_72, l_82, l_92, l_93, l_94, l_97, l_99, l_100, l_101, l_102, l_103, l_104, l_105, l_107, l_108, l_109, l_110, l_111, l_112, l_114, l_115, l_116, l_117, l_119, l_121, l_122, l_136, l_200, l_255, l_300, l_364, l_900, l_1000, l_1456, l_1458, l_1459, l_1460, l_1462, l_1471, l_1504, l_1510, l_1522, l_1550, l_2971, l_9999, l_10000, l_10979, l_65536, l_m1, sm', g1, if_true, if_false, Option.bind_some]
                · have es : nI (bs (tb_pp t) (t 1)) ||| ((nI 1) <<< (nI (t 1) &&& nI 31)) = nI (bs (tb_pp t) (t 1) ||| 2 ^ t 1) := by
                    have : (2 : Nat) ^ t 1 < 2 ^ 32 := by omega
                    rw [q_shl (by omega) (by omega), q_or, Nat.one_mul]
                  obtain ⟨T', g1, g2, g3, g4⟩ := T_addClaim (T := si T 7 (nI (bs (tb_pp t) (t 1) ||| 2 ^ t 1))) (a := x) (n := s') (r := 1) w (by omega) (by omega) (by rw [q_sisi, Tself]; exact hC) (by rw [if_pos rfl]; rfl) (gl R1 8)
                  refine Or.inr (Or.inr ⟨R6, T', M6, R7, ?_, by rw [D2, v3], v4, v5, mh_tr mhM2 (mg_mh (mg_tr mgC v6))⟩)
                  rw [q]
                  simp only [fX8_readClaim_113, fX8_readClaim_149, l_0, l_1, l_2, l_3, l_4, l_5, l_6, l_7, l_8, l_9, l_10, l_11, l_12, l_13, l_14, l_15, l_16, l_17, l_18, l_19, l_20, l_21, l_22, l_23, l_24, l_25, l_30, l_31, l_32, l_40, l_48, l_54, l_57, l_59, l_60, l_61, l_62, l_63, l_65, l_66, l_72, l_82, l_92, l_93, l_94, l_97, l_99, l_100, l_101, l_102, l_103, l_104, l_105, l_107, l_108, l_109, l_110, l_111, l_112, l_114, l_115, l_116, l_117, l_119, l_121, l_122, l_136, l_200, l_255, l_300, l_364, l_900, l_1000, l_1456, l_1458, l_1459, l_1460, l_1462, l_1471, l_1504, l_1510, l_1522, l_1550, l_2971, l_9999, l_10000, l_10979, l_65536, l_m1, sm', n_10, h7, h4, es, g1, if_true, if_false, Option.bind_some]
            · have pe : fX12_perhaps M' (bi (wb M' 7)) = some (nI 0, M') := by rw [d2, k_perh0 m12']
              refine last R' M' 0 pr a' e' k' wn' tp hpr hmg hrg hrd haa ?_ ?_
              · rw [hC1]
                simp only [fX8_readClaim_96, l_0, l_1, l_2, l_3, l_4, l_5, l_6, l_7, l_8, l_9, l_10, l_11, l_12, l_13, l_14, l_15, l_16, l_17, l_18, l_19, l_20, l_21, l_22, l_23, l_24, l_25, l_30, l_31, l_32, l_40, l_48, l_54, l_57, l_59, l_60, l_61, l_62, l_63, l_65, l_66, l_72, l_82, l_92, l_93, l_94, l_97, l_99, l_100, l_101, l_102, l_103, l_104, l_105, l_107, l_108, l_109, l_110, l_111, l_112, l_114, l_115, l_116, l_117, l_119, l_121, l_122, l_136, l_200, l_255, l_300, l_364, l_900, l_1000, l_1456, l_1458, l_1459, l_1460, l_1462, l_1471, l_1504, l_1510, l_1522, l_1550, l_2971, l_9999, l_10000, l_10979, l_65536, l_m1, d1, if_false]
              · rw [hD1]
                simp only [fX12_readClaim_39, w_7, l_0, l_1, l_2, l_3, l_4, l_5, l_6, l_7, l_8, l_9, l_10, l_11, l_12, l_13, l_14, l_15, l_16, l_17, l_18, l_19, l_20, l_21, l_22, l_23, l_24, l_25, l_30, l_31, l_32, l_40, l_48, l_54, l_57, l_59, l_60, l_61, l_62, l_63, l_65, l_66, l_72, l_82, l_92, l_93, l_94, l_97, l_99, l_100, l_101, l_102, l_103, l_104, l_105, l_107, l_108, l_109, l_110, l_111, l_112, l_114, l_115, l_116, l_117, l_119, l_121, l_122, l_136, l_200, l_255, l_300, l_364, l_900, l_1000, l_1456, l_1458, l_1459, l_1460, l_1462, l_1471, l_1504, l_1510, l_1522, l_1550, l_2971, l_9999, l_10000, l_10979, l_65536, l_m1, pe, if_true, Option.bind_some]
          have mgB : mg M2 M4 := mg_tr x6 c8
          have rgB : rg R R4 := rg_tr (rg_tr p8 x5) c7
          rcases rd_w c4 (j := 6) (by omega) with ⟨d0, d1, d2⟩ | ⟨d0, d1, d2⟩
          · obtain ⟨R5, M5, a5, e5, k5, wn5, f1, f2, f3, f4, f5, f6⟩ := rd_adv c4
            have pe : fX12_perhaps M4 (bi (wb M4 6)) = some (nI 1, M5) := by rw [d2, k_perh1 m124, f2, Option.bind_some]
            have aa' := c4.2.2.1.2.2.2.2.2.2.1
            refine mid R5 M5 1 a5 e5 k5 wn5 (by omega) (mg_tr mgB f6) (rg_tr rgB f5) f3 (by omega) ?_ ?_
            · simp only [fX8_readClaim, fX8_readClaim_85, fX4_topicNamedT, h4, h1, n9, l_0, l_1, l_2, l_3, l_4, l_5, l_6, l_7, l_8, l_9, l_10, l_11, l_12, l_13, l_14, l_15, l_16, l_17, l_18, l_19, l_20, l_21, l_22, l_23, l_24, l_25, l_30, l_31, l_32, l_40, l_48, l_54, l_57, l_59, l_60, l_61, l_62, l_63, l_65, l_66, l_72, l_82, l_92, l_93, l_94, l_97, l_99, l_100, l_101, l_102, l_103, l_104, l_105, l_107, l_108, l_109, l_110, l_111, l_112, l_114, l_115, l_116, l_117, l_119, l_121, l_122, l_136, l_200, l_255, l_300, l_364, l_900, l_1000, l_1456, l_1458, l_1459, l_1460, l_1462, l_1471, l_1504, l_1510, l_1522, l_1550, l_2971, l_9999, l_10000, l_10979, l_65536, l_m1, p1, p2, p4, x1, c1, xm, c2, d1, n_10, f1, if_true, if_false, Option.bind_some]
            · simp only [fX12_readClaim, l_0, l_1, l_2, l_3, l_4, l_5, l_6, l_7, l_8, l_9, l_10, l_11, l_12, l_13, l_14, l_15, l_16, l_17, l_18, l_19, l_20, l_21, l_22, l_23, l_24, l_25, l_30, l_31, l_32, l_40, l_48, l_54, l_57, l_59, l_60, l_61, l_62, l_63, l_65, l_66, l_72, l_82, l_92, l_93, l_94, l_97, l_99, l_100, l_101, l_102, l_103, l_104, l_105, l_107, l_108, l_109, l_110, l_111, l_112, l_114, l_115, l_116, l_117, l_119, l_121, l_122, l_136, l_200, l_255, l_300, l_364, l_900, l_1000, l_1456, l_1458, l_1459, l_1460, l_1462, l_1471, l_1504, l_1510, l_1522, l_1550, l_2971, l_9999, l_10000, l_10979, l_65536, l_m1, p5, w_5, x2, c3, w_6, pe, n_10, if_false, Option.bind_some]
          · have pe : fX12_perhaps M4 (bi (wb M4 6)) = some (nI 0, M4) := by rw [d2, k_perh0 m124]
            refine mid R4 M4 0 a4 e4 k4 wn4 (by omega) mgB rgB c4 (Nat.le_refl _) ?_ ?_
            · simp only [fX8_readClaim, fX8_readClaim_85, fX4_topicNamedT, h4, h1, n9, l_0, l_1, l_2, l_3, l_4, l_5, l_6, l_7, l_8, l_9, l_10, l_11, l_12, l_13, l_14, l_15, l_16, l_17, l_18, l_19, l_20, l_21, l_22, l_23, l_24, l_25, l_30, l_31, l_32, l_40, l_48, l_54, l_57, l_59, l_60, l_61, l_62, l_63, l_65, l_66, l_72, l_82, l_92, l_93, l_94, l_97, l_99, l_100, l_101, l_102, l_103, l_104, l_105, l_107, l_108, l_109, l_110, l_111, l_112, l_114, l_115, l_116, l_117, l_119, l_121, l_122, l_136, l_200, l_255, l_300, l_364, l_900, l_1000, l_1456, l_1458, l_1459, l_1460, l_1462, l_1471, l_1504, l_1510, l_1522, l_1550, l_2971, l_9999, l_10000, l_10979, l_65536, l_m1, p1, p2, p4, x1, c1, xm, c2, d1, n_10, if_true, if_false, Option.bind_some]
            · simp only [fX12_readClaim, l_0, l_1, l_2, l_3, l_4, l_5, l_6, l_7, l_8, l_9, l_10, l_11, l_12, l_13, l_14, l_15, l_16, l_17, l_18, l_19, l_20, l_21, l_22, l_23, l_24, l_25, l_30, l_31, l_32, l_40, l_48, l_54, l_57, l_59, l_60, l_61, l_62, l_63, l_65, l_66, l_72, l_82, l_92, l_93, l_94, l_97, l_99, l_100, l_101, l_102, l_103, l_104, l_105, l_107, l_108, l_109, l_110, l_111, l_112, l_114, l_115, l_116, l_117, l_119, l_121, l_122, l_136, l_200, l_255, l_300, l_364, l_900, l_1000, l_1456, l_1458, l_1459, l_1460, l_1462, l_1471, l_1504, l_1510, l_1522, l_1550, l_2971, l_9999, l_10000, l_10979, l_65536, l_m1, p5, w_5, x2, c3, w_6, pe, if_true, Option.bind_some]
        · have nf0 : nfr 0 = 0 := rfl
          rw [nf0] at c1
          refine Or.inr (Or.inl ⟨R4, M4, ?_, ?_, c4, mh_tr mhM2 (mg_mh (mg_tr x6 c6))⟩)
          · simp only [cb, fX8_readClaim, fX4_topicNamedT, h4, h1, n9, l_0, l_1, l_2, l_3, l_4, l_5, l_6, l_7, l_8, l_9, l_10, l_11, l_12, l_13, l_14, l_15, l_16, l_17, l_18, l_19, l_20, l_21, l_22, l_23, l_24, l_25, l_30, l_31, l_32, l_40, l_48, l_54, l_57, l_59, l_60, l_61, l_62, l_63, l_65, l_66, l_72, l_82, l_92, l_93, l_94, l_97, l_99, l_100, l_101, l_102, l_103, l_104, l_105, l_107, l_108, l_109, l_110, l_111, l_112, l_114, l_115, l_116, l_117, l_119, l_121, l_122, l_136, l_200, l_255, l_300, l_364, l_900, l_1000, l_1456, l_1458, l_1459, l_1460, l_1462, l_1471, l_1504, l_1510, l_1522, l_1550, l_2971, l_9999, l_10000, l_10979, l_65536, l_m1, p1, p2, p4, x1, c1, nmm, n_10, if_true, if_false, Option.bind_some, Option.map_some]
          · have hb := bd_bm c4
            have b4' := b_perhaps hb
            have b5' := b_39 hb
            simp only [fX12_readClaim, l_0, l_1, l_2, l_3, l_4, l_5, l_6, l_7, l_8, l_9, l_10, l_11, l_12, l_13, l_14, l_15, l_16, l_17, l_18, l_19, l_20, l_21, l_22, l_23, l_24, l_25, l_30, l_31, l_32, l_40, l_48, l_54, l_57, l_59, l_60, l_61, l_62, l_63, l_65, l_66, l_72, l_82, l_92, l_93, l_94, l_97, l_99, l_100, l_101, l_102, l_103, l_104, l_105, l_107, l_108, l_109, l_110, l_111, l_112, l_114, l_115, l_116, l_117, l_119, l_121, l_122, l_136, l_200, l_255, l_300, l_364, l_900, l_1000, l_1456, l_1458, l_1459, l_1460, l_1462, l_1471, l_1504, l_1510, l_1522, l_1550, l_2971, l_9999, l_10000, l_10979, l_65536, l_m1, p5, w_5, x2, c3, w_6, b4', b5', if_true, Option.bind_some]
      · refine Or.inr (Or.inl ⟨R3, M3, ?_, ?_, x3, mh_tr mhM2 (mg_mh x5)⟩)
        · simp only [cb, fX8_readClaim, h4, n9, l_0, l_1, l_2, l_3, l_4, l_5, l_6, l_7, l_8, l_9, l_10, l_11, l_12, l_13, l_14, l_15, l_16, l_17, l_18, l_19, l_20, l_21, l_22, l_23, l_24, l_25, l_30, l_31, l_32, l_40, l_48, l_54, l_57, l_59, l_60, l_61, l_62, l_63, l_65, l_66, l_72, l_82, l_92, l_93, l_94, l_97, l_99, l_100, l_101, l_102, l_103, l_104, l_105, l_107, l_108, l_109, l_110, l_111, l_112, l_114, l_115, l_116, l_117, l_119, l_121, l_122, l_136, l_200, l_255, l_300, l_364, l_900, l_1000, l_1456, l_1458, l_1459, l_1460, l_1462, l_1471, l_1504, l_1510, l_1522, l_1550, l_2971, l_9999, l_10000, l_10979, l_65536, l_m1, p1, p2, p4, x1, n_10, if_true, if_false, Option.bind_some, Option.map_some]
        · have hb := bd_bm x3
          have b3' := b_readTold hb (nI 4) (nI 0)
          have b4' := b_perhaps hb
          have b5' := b_39 hb
          simp only [fX12_readClaim, l_0, l_1, l_2, l_3, l_4, l_5, l_6, l_7, l_8, l_9, l_10, l_11, l_12, l_13, l_14, l_15, l_16, l_17, l_18, l_19, l_20, l_21, l_22, l_23, l_24, l_25, l_30, l_31, l_32, l_40, l_48, l_54, l_57, l_59, l_60, l_61, l_62, l_63, l_65, l_66, l_72, l_82, l_92, l_93, l_94, l_97, l_99, l_100, l_101, l_102, l_103, l_104, l_105, l_107, l_108, l_109, l_110, l_111, l_112, l_114, l_115, l_116, l_117, l_119, l_121, l_122, l_136, l_200, l_255, l_300, l_364, l_900, l_1000, l_1456, l_1458, l_1459, l_1460, l_1462, l_1471, l_1504, l_1510, l_1522, l_1550, l_2971, l_9999, l_10000, l_10979, l_65536, l_m1, p5, w_5, x2, b3', w_6, b4', b5', if_true, Option.bind_some]
    · refine Or.inr (Or.inl ⟨R2, M2, ?_, b_claim p3 (bd_bm p4), p4, mg_mh p6⟩)
      simp only [cb, fX8_readClaim, h4, n9, l_0, l_1, l_2, l_3, l_4, l_5, l_6, l_7, l_8, l_9, l_10, l_11, l_12, l_13, l_14, l_15, l_16, l_17, l_18, l_19, l_20, l_21, l_22, l_23, l_24, l_25, l_30, l_31, l_32, l_40, l_48, l_54, l_57, l_59, l_60, l_61, l_62, l_63, l_65, l_66, l_72, l_82, l_92, l_93, l_94, l_97, l_99, l_100, l_101, l_102, l_103, l_104, l_105, l_107, l_108, l_109, l_110, l_111, l_112, l_114, l_115, l_116, l_117, l_119, l_121, l_122, l_136, l_200, l_255, l_300, l_364, l_900, l_1000, l_1456, l_1458, l_1459, l_1460, l_1462, l_1471, l_1504, l_1510, l_1522, l_1550, l_2971, l_9999, l_10000, l_10979, l_65536, l_m1, p1, p2, if_true, if_false, Option.bind_some, Option.map_some]
end Q85
