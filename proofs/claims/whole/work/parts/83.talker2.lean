section Q83
variable {R B M T : ms_T} {g t : Nat → Nat} {n a e k wn : Nat}
theorem so_talker (h : rd B R M g n a e k wn) (ht : tt T R M t) (hk : k = 1) : so B R M T t g n a (fX8_readTalker R B T) (fX12_readTalker M) := by
  obtain ⟨w, hC, hN, ⟨m1, m2, m3⟩, ⟨z1, z2, z3⟩, hf, o, o1, o2, o3⟩ := id ht
  obtain ⟨w0, w1, w2, w3, w4, w5, w6, w7, w8, w9⟩ := id w
  have h1 := hC.2.1
  have h8 := hC.2.2.2.2.1
  have h12 := hC.2.2.2.2.2.2.2.2.2.2.2.2.1
  have ae := rd_ae h (by omega)
  have hc0 : ra M 5 (1456 + 2) = nI (t 2) := hN 2 (by omega)
  by_cases full : t 2 = 6
  · rw [full] at hc0 h8
    obtain ⟨R', M', q1, q2, q3, q4, q5⟩ := new_full h (by omega) (s := 2) (most := 6) (by omega) hc0
    refine Or.inr (Or.inl ⟨R', M', ?_, b_talker q2 (bd_bm q3), q3, mg_mh q5⟩)
    simp only [cb, fX8_readTalker, h8, l_0, l_1, l_2, l_3, l_4, l_5, l_6, l_7, l_8, l_9, l_10, l_11, l_12, l_13, l_14, l_15, l_16, l_17, l_18, l_19, l_20, l_21, l_22, l_23, l_24, l_25, l_30, l_31, l_32, l_40, l_48, l_54, l_57, l_59, l_60, l_61, l_62, l_63, l_65, l_66, l_72, l_82, l_92, l_93, l_94, l_97, l_99, l_100, l_101, l_102, l_103, l_104, l_105, l_107, l_108, l_109, l_110, l_111, l_112, l_114, l_115, l_116, l_117, l_119, l_121, l_122, l_136, l_200, l_255, l_300, l_364, l_900, l_1000, l_1456, l_1458, l_1459, l_1460, l_1462, l_1471, l_1504, l_1510, l_1522, l_1550, l_2971, l_9999, l_10000, l_10979, l_65536, l_m1, q1, q_z0, if_true, Option.bind_some, Option.map_some]
  · have n9 : (nI (t 2) = nI 6) = False := q_eqF full (by omega) (by omega)
    have i23 : inb (nI (17 + t 2)) 23 = true := q_inT (by omega) (by omega)
    have i6 : inb (nI (t 2)) 6 = true := q_inT (by omega) (by omega)
    have cl : (nI (t 2)).toNatClampNeg = t 2 := nI_clamp (by omega)
    have cl17 : (nI (17 + t 2)).toNatClampNeg = 17 + t 2 := nI_clamp (by omega)
    have le00 : (nI 0 ≤ nI 0) = True := q_leT (by omega) (by omega)
    have nmm : (nM = nM) = True := eq_self _
    have h60 : t (60 + t 2) = 0 := hf (t 2) (by omega) (by omega)
    rcases rd_new h ht (s := 2) (c := t 2) (most := 6) (by omega) hc0 (by omega) (by omega) (by show 17 + t 2 < 23; omega) with ⟨R1, R2, M2, a2, e2, k2, wn2, p1, p2, p3, p4, p5, p6, p7, p8, p9, p10, p11, p12, p13⟩ | ⟨R1, R2, M2, p1, p2, p3, p4, p5, p6⟩
    · have p13' : rl M2 7 = vp_updL (rl M 7) (92 + (17 + t 2)) (gl R1 8) := p13
      have mhM2 : mh M M2 := ⟨fun j hj => p9 j hj.1, p10, fun k _ => p11 k, fun i _ => by rw [p11], p12, fun i hi => by rw [p13']; exact pk_uLn (by omega)⟩
      rcases rd_word p6 (j := 9) (by omega) with ⟨x0, R3, M3, a3, e3, k3, wn3, x1, x2, x3, x4, x5, x6⟩ | ⟨x0, R3, M3, x1, x2, x3, x4, x5⟩
      · rcases rd_num x3 (lo := 0) (hi := 9) (by omega) (by omega) with ⟨v, v1, v2, v3, v4, v5, v6, v7⟩ | ⟨R4, M4, q1, q2, q3, q4, q5⟩
        · have m12 := x3.2.2.2.2.2.2.2.1
          have ra53 : ra M3 5 = ra M 5 := by rw [mg_ra x6, p11]
          obtain ⟨Rf, Mf, y1, y2, y3, y4, y5⟩ := rd_fail x3 (f := 5) (by omega) (by omega) (by omega)
          rcases free_seat (T := sR T 10 (vp_updL (rl T 10) (17 + t 2) (gl R1 8))) (M := M3) (R := R3) (v := v) (t := t) w2 (by omega) h8 (fun i hi => ⟨h12 i hi, (w7 i hi).1⟩) (by rw [ra53]; exact hc0) (fun i hi => by
            rw [ra53, show 1504 + i = 364 * 4 + (48 + i) by omega]; exact hN (48 + i) (by omega)) v4 y1 with ⟨fs1, fs2⟩ | ⟨fs1, fs2⟩
          · obtain ⟨R4, M4, a4, e4, k4, wn4, s1, s2, s3, s4, s5, s6⟩ := k_count x3 v5 v7
            rcases rd_word s3 (j := 10) (by omega) with ⟨b0, R5, M5, a5, e5, k5, wn5, b1, b3, b4, b5, b6, b7⟩ | ⟨b0, R5, M5, b1, b3, b4, b5, b6⟩
            · have mgA : mg M2 M5 := mg_tr (mg_tr x6 s6) b7
              have ra55 : ra M5 5 = ra M 5 := by rw [mg_ra mgA, p11]
              have rl57 : rl M5 7 = vp_updL (rl M 7) (92 + (17 + t 2)) (gl R1 8) := by rw [mg_rl mgA, p13']
              rcases rd_readTold (T := sr (sR T 10 (vp_updL (rl T 10) (17 + t 2) (gl R1 8))) 5 (upd (ra T 5) (t 2) (nI v))) b4 (b := 4) (s := 0) (cnt := t 0) (by omega) (by omega) (by show 0 + t 0 ≤ 23; omega) (by rw [ra55]; exact hN 0 (by omega)) (fun i hi => by
                rw [rl57]
                show vp_updL (rl T 10) (17 + t 2) (gl R1 8) (0 + i) = vp_updL (rl M 7) (92 + (17 + t 2)) (gl R1 8) (23 * 4 + (0 + i))
                rw [Nat.zero_add, pk_uLn (by omega), pk_uLn (by omega)]; exact m1 i hi) with ⟨x, R6, M6, a6, e6, k6, wn6, c0, c1, c2, c3, c4, c5, c6, c7, c8⟩ | ⟨R6, M6, c1, c3, c4, c5, c6⟩
              · have xm : (nI x = nM) = False := q_mne2 (by omega)
                have nf0 : nfr 0 = 0 := rfl
                rw [nf0] at c1
                have m126 := c4.2.2.2.2.2.2.2.1
                have mgB : mg M2 M6 := mg_tr mgA c8
                have rgB : rg R R6 := rg_tr (rg_tr (rg_tr (rg_tr p8 x5) s5) b6) c7
                have j1 : inb (nI (1504 + t 2)) 1820 = true := q_inT (by omega) (by omega)
                have j2 : inb (nI (1510 + t 2)) 1820 = true := q_inT (by omega) (by omega)
                have j3 : inb (nI (1522 + t 2)) 1820 = true := q_inT (by omega) (by omega)
                have cl1 : (nI (1504 + t 2)).toNatClampNeg = 1504 + t 2 := nI_clamp (by omega)
                have cl2 : (nI (1510 + t 2)).toNatClampNeg = 1510 + t 2 := nI_clamp (by omega)
                have cl3 : (nI (1522 + t 2)).toNatClampNeg = 1522 + t 2 := nI_clamp (by omega)
                have cl4 : (nI 1458).toNatClampNeg = 1458 := nI_clamp (by omega)
                -- the end, once all is read
                have fin : ∀ (R' M' : ms_T) (F : Nat → Int32) (u a' e' k' wn' : Nat), u ≤ 16 → F (t 2) = nI u → (∀ i, i < t 2 → F i = ra T 7 i) → mg M2 M' → rg R R' → rd B R' M' g n a' e' k' wn' → e6 ≤ a' ∨ R' = R6 ∧ a' = a6 → fX8_readTalker R B T = some (nI 1, R', si (sr (sr (sr (sR T 10 (vp_updL (rl T 10) (17 + t 2) (gl R1 8))) 5 (upd (ra T 5) (t 2) (nI v))) 6 (upd (ra T 6) (t 2) (nI (x + 1)))) 7 F) 8 (nI (t 2 + 1))) → fX12_readTalker M = fX12_readTalker_95 M' (nI (t 2)) (nI v) (nI x) (nI u) → so B R M T t g n a (fX8_readTalker R B T) (fX12_readTalker M) := by
                  intro R' M' F u a' e' k' wn' hu hF hF2 hmg hrg hrd hae hC1 hD1
                  have m12' := hrd.2.2.2.2.2.2.2.1
                  have ra5 : ra M' 5 = ra M 5 := by rw [mg_ra hmg, p11]
                  have gv : upd (upd (upd (ra M 5) (1504 + t 2) (nI v)) (1510 + t 2) (nI (x + 1))) (1522 + t 2) (nI u) 1458 = nI (t 2) := by
                    rw [up_n _ _ _ (by omega), up_n _ _ _ (by omega), up_n _ _ _ (by omega)]; exact hc0
                  refine Or.inl ⟨R', _, sr M' 5 (upd (upd (upd (upd (ra M 5) (1504 + t 2) (nI v)) (1510 + t 2) (nI (x + 1))) (1522 + t 2) (nI u)) 1458 (nI (t 2 + 1))), ttk t v x u, a', e', k', wn', hC1, ?_, hrd, ⟨W_ttk w (by omega) v2 c0 hu h60, C_ttk w hC (by omega) h60 hF hF2, ?_, ?_, ?_, ?_, o, o1, ?_, ?_⟩, ?_, ?_⟩
                  · rw [hD1]
                    simp only [fX12_readTalker_95, m12', le00, l_0, l_1, l_2, l_3, l_4, l_5, l_6, l_7, l_8, l_9, l_10, l_11, l_12, l_13, l_14, l_15, l_16, l_17, l_18, l_19, l_20, l_21, l_22, l_23, l_24, l_25, l_30, l_31, l_32, l_40, l_48, l_54, l_57, l_59, l_60, l_61, l_62, l_63, l_65, l_66, l_72, l_82, l_92, l_93, l_94, l_97, l_99, l_100, l_101, l_102, l_103, l_104, l_105, l_107, l_108, l_109, l_110, l_111, l_112, l_114, l_115, l_116, l_117, l_119, l_121, l_122, l_136, l_200, l_255, l_300, l_364, l_900, l_1000, l_1456, l_1458, l_1459, l_1460, l_1462, l_1471, l_1504, l_1510, l_1522, l_1550, l_2971, l_9999, l_10000, l_10979, l_65536, l_m1, nI_add, j1, j2, j3, sa, ia, cl1, cl2, cl3, cl4, q_ra, q_srsr, ra5, gv, if_true, reduceIte, Nat.reduceEqDiff]
                  · intro i hi
                    rw [q_ra, if_pos rfl]
                    by_cases d0 : i = 2
                    · subst d0; rw [up_e _ _ _ rfl, ttk_2]
                    · by_cases d1 : i = 66 + t 2
                      · subst d1; rw [up_n _ _ _ (by omega), up_e _ _ _ (by omega), ttk_c]
                      · by_cases d2 : i = 54 + t 2
                        · subst d2; rw [up_n _ _ _ (by omega), up_n _ _ _ (by omega), up_e _ _ _ (by omega), ttk_b]
                        · by_cases d3 : i = 48 + t 2
                          · subst d3; rw [up_n _ _ _ (by omega), up_n _ _ _ (by omega), up_n _ _ _ (by omega), up_e _ _ _ (by omega), ttk_a]
                          · rw [up_n _ _ _ (by omega), up_n _ _ _ (by omega), up_n _ _ _ (by omega), up_n _ _ _ (by omega), ttk_n d3 d2 d1 d0]; exact hN i hi
                  · have e7 : rl (sr M' 5 (upd (upd (upd (upd (ra M 5) (1504 + t 2) (nI v)) (1510 + t 2) (nI (x + 1))) (1522 + t 2) (nI u)) 1458 (nI (t 2 + 1)))) 7 = vp_updL (rl M 7) (92 + (17 + t 2)) (gl R1 8) := by rw [q_rlr, mg_rl hmg, p13']
                    unfold nms
                    rw [e7, ttk_2, ttk_n (by omega) (by omega) (by omega) (by omega), ttk_n (by omega) (by omega) (by omega) (by omega)]
                    refine ⟨fun i hi => ?_, fun i hi => ?_, fun i hi => ?_⟩
                    · show vp_updL _ _ _ i = _
                      rw [pk_uLn (by omega), pk_uLn (by omega)]; exact m1 i hi
                    · show vp_updL _ _ _ (9 + i) = _
                      rw [pk_uLn (by omega), pk_uLn (by omega)]; exact m2 i hi
                    · show vp_updL _ _ _ (17 + i) = _
                      by_cases c : i = t 2
                      · subst c; rw [pk_uLs, pk_uLs]
                      · rw [pk_uLn (by omega), pk_uLn (by omega)]; exact m3 i (by omega)
                  · rw [ttk_2, ttk_n (by omega) (by omega) (by omega) (by omega), ttk_n (by omega) (by omega) (by omega) (by omega)]
                    refine ⟨fun i q1 q2 => ?_, fun i q1 q2 => ?_, fun i q1 q2 => ?_⟩
                    · show vp_updL _ _ _ i = _
                      rw [pk_uLn (by omega)]; exact z1 i q1 q2
                    · show vp_updL _ _ _ (9 + i) = _
                      rw [pk_uLn (by omega)]; exact z2 i q1 q2
                    · show vp_updL _ _ _ (17 + i) = _
                      rw [pk_uLn (by omega)]; exact z3 i (by omega) q2
                  · rw [ttk_2]
                    intro i q1 q2
                    rw [ttk_n (by omega) (by omega) (by omega) (by omega)]; exact hf i (by omega) q2
                  · rw [hrg.1 12 (by omega)]; exact o2
                  · rw [q_gir, hmg.1 24 (by omega), p9 24 (by omega)]; exact o3
                  · refine mh_tr mhM2 (mh_tr (mg_mh hmg) (mh_5 (fun i hi => ?_)))
                    rw [up_n _ _ _ (by omega), up_n _ _ _ (by omega), up_n _ _ _ (by omega), up_n _ _ _ (by omega), ra5]
                  · have q1 := p6.2.2.1.2.2.2.2.2.2.1
                    have q2 := x3.2.2.1.2.2.2.2.2.2.1
                    have q3 := s3.2.2.1.2.2.2.2.2.2.1
                    have q4 := b4.2.2.1.2.2.2.2.2.2.1
                    have q5 := c4.2.2.1.2.2.2.2.2.2.1
                    omega
                -- what the reference has done up to here
                have upto : fX12_readTalker M = (fX12_perhaps M6 (bi (wb M6 11))).bind fun z10 => if z10.1 = nI 0 then fX12_readTalker_95 z10.2 (nI (t 2)) (nI v) (nI x) (nI 0) else (fX12_count z10.2 (nI 0) (nI 16)).bind fun z14 => fX12_readTalker_95 z14.2 (nI (t 2)) (nI v) (nI x) z14.1 := by
                  simp only [fX12_readTalker, fX12_readTalker_50, l_0, l_1, l_2, l_3, l_4, l_5, l_6, l_7, l_8, l_9, l_10, l_11, l_12, l_13, l_14, l_15, l_16, l_17, l_18, l_19, l_20, l_21, l_22, l_23, l_24, l_25, l_30, l_31, l_32, l_40, l_48, l_54, l_57, l_59, l_60, l_61, l_62, l_63, l_65, l_66, l_72, l_82, l_92, l_93, l_94, l_97, l_99, l_100, l_101, l_102, l_103, l_104, l_105, l_107, l_108, l_109, l_110, l_111, l_112, l_114, l_115, l_116, l_117, l_119, l_121, l_122, l_136, l_200, l_255, l_300, l_364, l_900, l_1000, l_1456, l_1458, l_1459, l_1460, l_1462, l_1471, l_1504, l_1510, l_1522, l_1550, l_2971, l_9999, l_10000, l_10979, l_65536, l_m1, p5, w_9, x2, v7, m12, v5, fs2, s2, w_10, b3, c3, w_11, if_true, Option.bind_some]
                  rfl
                rcases rd_w c4 (j := 11) (by omega) with ⟨d0, d1, d2⟩ | ⟨d0, d1, d2⟩
                · obtain ⟨R7, M7, a7, e7, k7, wn7, f1, f2, f3, f4, f5, f6⟩ := rd_adv c4
                  have pe : fX12_perhaps M6 (bi (wb M6 11)) = some (nI 1, M7) := by rw [d2, k_perh1 m126, f2, Option.bind_some]
                  rcases rd_num f3 (lo := 0) (hi := 16) (by omega) (by omega) with ⟨u, u1, u2, u3, u4, u5, u6, u7⟩ | ⟨R8, M8, q1, q2, q3, q4, q5⟩
                  · obtain ⟨R8, M8, a8, e8, k8, wn8, r1, r2, r3, r4, r5, r6⟩ := k_count f3 u5 u7
                    refine fin R8 M8 (upd (upd (ra T 7) (t 2) (nI 0)) (t 2) (nI u)) u a8 e8 k8 wn8 u2 (up_e _ _ _ rfl) (fun i hi => by rw [up_n _ _ _ (by omega), up_n _ _ _ (by omega)]) (mg_tr mgB (mg_tr f6 r6)) (rg_tr rgB (rg_tr f5 r5)) r3 (Or.inl (by have := f3.2.2.1.2.2.2.2.2.2.1; omega)) ?_ ?_
                    · simp only [fX8_readTalker, fX8_readTalker_161, fX8_readFails, fX8_isFreeSeatHere, fX4_topicNamedT, h8, h1, n9, l_0, l_1, l_2, l_3, l_4, l_5, l_6, l_7, l_8, l_9, l_10, l_11, l_12, l_13, l_14, l_15, l_16, l_17, l_18, l_19, l_20, l_21, l_22, l_23, l_24, l_25, l_30, l_31, l_32, l_40, l_48, l_54, l_57, l_59, l_60, l_61, l_62, l_63, l_65, l_66, l_72, l_82, l_92, l_93, l_94, l_97, l_99, l_100, l_101, l_102, l_103, l_104, l_105, l_107, l_108, l_109, l_110, l_111, l_112, l_114, l_115, l_116, l_117, l_119, l_121, l_122, l_136, l_200, l_255, l_300, l_364, l_900, l_1000, l_1456, l_1458, l_1459, l_1460, l_1462, l_1471, l_1504, l_1510, l_1522, l_1550, l_2971, l_9999, l_10000, l_10979, l_65536, l_m1, p1, p2, nI_add, i23, p4, x1, v6, fs1, sA, sa, cl, cl17, q_giR, q_gir, i6, s1, b1, c1, xm, c2, d1, f1, u6, u4, r1, v4, n_10, if_true, if_false, Option.bind_some, q_raR, q_ra, q_srsr, reduceIte, Nat.reduceEqDiff]
                    · rw [upto, pe]
                      simp only [n_10, if_false, r2, Option.bind_some]
                  · refine Or.inr (Or.inl ⟨R8, M8, ?_, ?_, q3, mh_tr mhM2 (mg_mh (mg_tr mgB (mg_tr f6 q5)))⟩)
                    · simp only [cb, fX8_readTalker, fX8_readFails, fX8_isFreeSeatHere, fX4_topicNamedT, h8, h1, n9, l_0, l_1, l_2, l_3, l_4, l_5, l_6, l_7, l_8, l_9, l_10, l_11, l_12, l_13, l_14, l_15, l_16, l_17, l_18, l_19, l_20, l_21, l_22, l_23, l_24, l_25, l_30, l_31, l_32, l_40, l_48, l_54, l_57, l_59, l_60, l_61, l_62, l_63, l_65, l_66, l_72, l_82, l_92, l_93, l_94, l_97, l_99, l_100, l_101, l_102, l_103, l_104, l_105, l_107, l_108, l_109, l_110, l_111, l_112, l_114, l_115, l_116, l_117, l_119, l_121, l_122, l_136, l_200, l_255, l_300, l_364, l_900, l_1000, l_1456, l_1458, l_1459, l_1460, l_1462, l_1471, l_1504, l_1510, l_1522, l_1550, l_2971, l_9999, l_10000, l_10979, l_65536, l_m1, p1, p2, nI_add, i23, p4, x1, v6, fs1, sA, sa, cl, cl17, q_giR, q_gir, i6, s1, b1, c1, xm, c2, d1, f1, q1, v4, n_10, if_true, if_false, Option.bind_some, Option.map_some, q_raR, q_ra, q_srsr, reduceIte, Nat.reduceEqDiff]
                    · have bc := b_count2 q2 (bd_bm q3)
                      have b95 := b_95 (bd_bm q3)
                      rw [upto, pe]
                      simp only [n_10, if_false, bc, b95, Option.bind_some]
                · have pe : fX12_perhaps M6 (bi (wb M6 11)) = some (nI 0, M6) := by rw [d2, k_perh0 m126]
                  refine fin R6 M6 (upd (ra T 7) (t 2) (nI 0)) 0 a6 e6 k6 wn6 (by omega) (up_e _ _ _ rfl) (fun i hi => by rw [up_n _ _ _ (by omega)]) mgB rgB c4 (Or.inr ⟨rfl, rfl⟩) ?_ ?_
                  · simp only [fX8_readTalker, fX8_readTalker_161, fX8_isFreeSeatHere, fX4_topicNamedT, h8, h1, n9, l_0, l_1, l_2, l_3, l_4, l_5, l_6, l_7, l_8, l_9, l_10, l_11, l_12, l_13, l_14, l_15, l_16, l_17, l_18, l_19, l_20, l_21, l_22, l_23, l_24, l_25, l_30, l_31, l_32, l_40, l_48, l_54, l_57, l_59, l_60, l_61, l_62, l_63, l_65, l_66, l_72, l_82, l_92, l_93, l_94, l_97, l_99, l_100, l_101, l_102, l_103, l_104, l_105, l_107, l_108, l_109, l_110, l_111, l_112, l_114, l_115, l_116, l_117, l_119, l_121, l_122, l_136, l_200, l_255, l_300, l_364, l_900, l_1000, l_1456, l_1458, l_1459, l_1460, l_1462, l_1471, l_1504, l_1510, l_1522, l_1550, l_2971, l_9999, l_10000, l_10979, l_65536, l_m1, p1, p2, nI_add, i23, p4, x1, v6, fs1, sA, sa, cl, cl17, q_giR, q_gir, i6, s1, b1, c1, xm, c2, d1, v4, n_10, if_true, if_false, Option.bind_some, q_raR, q_ra, q_srsr, reduceIte, Nat.reduceEqDiff]
                  · rw [upto, pe]
                    simp only [if_true, Option.bind_some]
              · have nf0 : nfr 0 = 0 := rfl
                rw [nf0] at c1
                refine Or.inr (Or.inl ⟨R6, M6, ?_, ?_, c4, mh_tr mhM2 (mg_mh (mg_tr mgA c6))⟩)
                · simp only [cb, fX8_readTalker, fX8_isFreeSeatHere, fX4_topicNamedT, h8, h1, n9, l_0, l_1, l_2, l_3, l_4, l_5, l_6, l_7, l_8, l_9, l_10, l_11, l_12, l_13, l_14, l_15, l_16, l_17, l_18, l_19, l_20, l_21, l_22, l_23, l_24, l_25, l_30, l_31, l_32, l_40, l_48, l_54, l_57, l_59, l_60, l_61, l_62, l_63, l_65, l_66, l_72, l_82, l_92, l_93, l_94, l_97, l_99, l_100, l_101, l_102, l_103, l_104, l_105, l_107, l_108, l_109, l_110, l_111, l_112, l_114, l_115, l_116, l_117, l_119, l_121, l_122, l_136, l_200, l_255, l_300, l_364, l_900, l_1000, l_1456, l_1458, l_1459, l_1460, l_1462, l_1471, l_1504, l_1510, l_1522, l_1550, l_2971, l_9999, l_10000, l_10979, l_65536, l_m1, p1, p2, nI_add, i23, p4, x1, v6, fs1, sA, sa, cl, cl17, q_giR, q_gir, i6, s1, b1, c1, nmm, v4, n_10, if_true, if_false, Option.bind_some, Option.map_some, q_raR, q_ra, reduceIte, Nat.reduceEqDiff]
                · have hb := bd_bm c4
                  have b5' := b_perhaps hb
                  have b95 := b_95 hb
                  simp only [fX12_readTalker, fX12_readTalker_50, l_0, l_1, l_2, l_3, l_4, l_5, l_6, l_7, l_8, l_9, l_10, l_11, l_12, l_13, l_14, l_15, l_16, l_17, l_18, l_19, l_20, l_21, l_22, l_23, l_24, l_25, l_30, l_31, l_32, l_40, l_48, l_54, l_57, l_59, l_60, l_61, l_62, l_63, l_65, l_66, l_72, l_82, l_92, l_93, l_94, l_97, l_99, l_100, l_101, l_102, l_103, l_104, l_105, l_107, l_108, l_109, l_110, l_111, l_112, l_114, l_115, l_116, l_117, l_119, l_121, l_122, l_136, l_200, l_255, l_300, l_364, l_900, l_1000, l_1456, l_1458, l_1459, l_1460, l_1462, l_1471, l_1504, l_1510, l_1522, l_1550, l_2971, l_9999, l_10000, l_10979, l_65536, l_m1, p5, w_9, x2, v7, m12, v5, fs2, s2, w_10, b3, c3, w_11, b5', b95, if_true, Option.bind_some]
            · refine Or.inr (Or.inl ⟨R5, M5, ?_, ?_, b4, mh_tr mhM2 (mg_mh (mg_tr (mg_tr x6 s6) b6))⟩)
              · simp only [cb, fX8_readTalker, fX8_isFreeSeatHere, h8, n9, l_0, l_1, l_2, l_3, l_4, l_5, l_6, l_7, l_8, l_9, l_10, l_11, l_12, l_13, l_14, l_15, l_16, l_17, l_18, l_19, l_20, l_21, l_22, l_23, l_24, l_25, l_30, l_31, l_32, l_40, l_48, l_54, l_57, l_59, l_60, l_61, l_62, l_63, l_65, l_66, l_72, l_82, l_92, l_93, l_94, l_97, l_99, l_100, l_101, l_102, l_103, l_104, l_105, l_107, l_108, l_109, l_110, l_111, l_112, l_114, l_115, l_116, l_117, l_119, l_121, l_122, l_136, l_200, l_255, l_300, l_364, l_900, l_1000, l_1456, l_1458, l_1459, l_1460, l_1462, l_1471, l_1504, l_1510, l_1522, l_1550, l_2971, l_9999, l_10000, l_10979, l_65536, l_m1, p1, p2, nI_add, i23, p4, x1, v6, fs1, sA, sa, cl, cl17, q_giR, q_gir, i6, s1, b1, v4, n_10, if_true, if_false, Option.bind_some, Option.map_some, q_raR, q_ra, reduceIte, Nat.reduceEqDiff]
              · have hb := bd_bm b4
                have b6' := b_readTold hb (nI 4) (nI 0)
                have b5' := b_perhaps hb
                have b95 := b_95 hb
                simp only [fX12_readTalker, fX12_readTalker_50, l_0, l_1, l_2, l_3, l_4, l_5, l_6, l_7, l_8, l_9, l_10, l_11, l_12, l_13, l_14, l_15, l_16, l_17, l_18, l_19, l_20, l_21, l_22, l_23, l_24, l_25, l_30, l_31, l_32, l_40, l_48, l_54, l_57, l_59, l_60, l_61, l_62, l_63, l_65, l_66, l_72, l_82, l_92, l_93, l_94, l_97, l_99, l_100, l_101, l_102, l_103, l_104, l_105, l_107, l_108, l_109, l_110, l_111, l_112, l_114, l_115, l_116, l_117, l_119, l_121, l_122, l_136, l_200, l_255, l_300, l_364, l_900, l_1000, l_1456, l_1458, l_1459, l_1460, l_1462, l_1471, l_1504, l_1510, l_1522, l_1550, l_2971, l_9999, l_10000, l_10979, l_65536, l_m1, p5, w_9, x2, v7, m12, v5, fs2, s2, w_10, b3, b6', w_11, b5', b95, if_true, Option.bind_some]
          · refine Or.inr (Or.inl ⟨Rf, Mf, ?_, ?_, y3, mh_tr mhM2 (mg_mh (mg_tr x6 y5))⟩)
            · simp only [cb, fX8_readTalker, fX8_isFreeSeatHere, h8, n9, l_0, l_1, l_2, l_3, l_4, l_5, l_6, l_7, l_8, l_9, l_10, l_11, l_12, l_13, l_14, l_15, l_16, l_17, l_18, l_19, l_20, l_21, l_22, l_23, l_24, l_25, l_30, l_31, l_32, l_40, l_48, l_54, l_57, l_59, l_60, l_61, l_62, l_63, l_65, l_66, l_72, l_82, l_92, l_93, l_94, l_97, l_99, l_100, l_101, l_102, l_103, l_104, l_105, l_107, l_108, l_109, l_110, l_111, l_112, l_114, l_115, l_116, l_117, l_119, l_121, l_122, l_136, l_200, l_255, l_300, l_364, l_900, l_1000, l_1456, l_1458, l_1459, l_1460, l_1462, l_1471, l_1504, l_1510, l_1522, l_1550, l_2971, l_9999, l_10000, l_10979, l_65536, l_m1, p1, p2, nI_add, i23, p4, x1, v6, fs1, sA, cl17, n_10, if_true, if_false, Option.bind_some, Option.map_some]
            · have b5' := b_50 (bd_bm y3)
              simp only [fX12_readTalker, l_0, l_1, l_2, l_3, l_4, l_5, l_6, l_7, l_8, l_9, l_10, l_11, l_12, l_13, l_14, l_15, l_16, l_17, l_18, l_19, l_20, l_21, l_22, l_23, l_24, l_25, l_30, l_31, l_32, l_40, l_48, l_54, l_57, l_59, l_60, l_61, l_62, l_63, l_65, l_66, l_72, l_82, l_92, l_93, l_94, l_97, l_99, l_100, l_101, l_102, l_103, l_104, l_105, l_107, l_108, l_109, l_110, l_111, l_112, l_114, l_115, l_116, l_117, l_119, l_121, l_122, l_136, l_200, l_255, l_300, l_364, l_900, l_1000, l_1456, l_1458, l_1459, l_1460, l_1462, l_1471, l_1504, l_1510, l_1522, l_1550, l_2971, l_9999, l_10000, l_10979, l_65536, l_m1, p5, w_9, x2, v7, m12, v5, fs2, n_10, y2, b5', if_true, if_false, Option.bind_some]
        · refine Or.inr (Or.inl ⟨R4, M4, ?_, ?_, q3, mh_tr mhM2 (mg_mh (mg_tr x6 q5))⟩)
          · simp only [cb, fX8_readTalker, fX8_isFreeSeatHere, h8, n9, l_0, l_1, l_2, l_3, l_4, l_5, l_6, l_7, l_8, l_9, l_10, l_11, l_12, l_13, l_14, l_15, l_16, l_17, l_18, l_19, l_20, l_21, l_22, l_23, l_24, l_25, l_30, l_31, l_32, l_40, l_48, l_54, l_57, l_59, l_60, l_61, l_62, l_63, l_65, l_66, l_72, l_82, l_92, l_93, l_94, l_97, l_99, l_100, l_101, l_102, l_103, l_104, l_105, l_107, l_108, l_109, l_110, l_111, l_112, l_114, l_115, l_116, l_117, l_119, l_121, l_122, l_136, l_200, l_255, l_300, l_364, l_900, l_1000, l_1456, l_1458, l_1459, l_1460, l_1462, l_1471, l_1504, l_1510, l_1522, l_1550, l_2971, l_9999, l_10000, l_10979, l_65536, l_m1, p1, p2, nI_add, i23, p4, x1, q1, sA, cl17, n_10, if_true, if_false, Option.bind_some, Option.map_some]
          · have b5' := b_50 (bd_bm q3)
            obtain ⟨f, f1, f2, f3⟩ := bd_bm q3
            have n0 : (nI f = nI 0) = False := q_eqF (by omega) (by omega) (by omega)
            simp only [fX12_readTalker, l_0, l_1, l_2, l_3, l_4, l_5, l_6, l_7, l_8, l_9, l_10, l_11, l_12, l_13, l_14, l_15, l_16, l_17, l_18, l_19, l_20, l_21, l_22, l_23, l_24, l_25, l_30, l_31, l_32, l_40, l_48, l_54, l_57, l_59, l_60, l_61, l_62, l_63, l_65, l_66, l_72, l_82, l_92, l_93, l_94, l_97, l_99, l_100, l_101, l_102, l_103, l_104, l_105, l_107, l_108, l_109, l_110, l_111, l_112, l_114, l_115, l_116, l_117, l_119, l_121, l_122, l_136, l_200, l_255, l_300, l_364, l_900, l_1000, l_1456, l_1458, l_1459, l_1460, l_1462, l_1471, l_1504, l_1510, l_1522, l_1550, l_2971, l_9999, l_10000, l_10979, l_65536, l_m1, p5, w_9, x2, q2, f3, n0, b5', if_false, Option.bind_some]
      · refine Or.inr (Or.inl ⟨R3, M3, ?_, ?_, x3, mh_tr mhM2 (mg_mh x5)⟩)
        · simp only [cb, fX8_readTalker, h8, n9, l_0, l_1, l_2, l_3, l_4, l_5, l_6, l_7, l_8, l_9, l_10, l_11, l_12, l_13, l_14, l_15, l_16, l_17, l_18, l_19, l_20, l_21, l_22, l_23, l_24, l_25, l_30, l_31, l_32, l_40, l_48, l_54, l_57, l_59, l_60, l_61, l_62, l_63, l_65, l_66, l_72, l_82, l_92, l_93, l_94, l_97, l_99, l_100, l_101, l_102, l_103, l_104, l_105, l_107, l_108, l_109, l_110, l_111, l_112, l_114, l_115, l_116, l_117, l_119, l_121, l_122, l_136, l_200, l_255, l_300, l_364, l_900, l_1000, l_1456, l_1458, l_1459, l_1460, l_1462, l_1471, l_1504, l_1510, l_1522, l_1550, l_2971, l_9999, l_10000, l_10979, l_65536, l_m1, p1, p2, nI_add, i23, p4, x1, sA, cl17, n_10, if_true, if_false, Option.bind_some, Option.map_some]
        · have hb := bd_bm x3
          have b4' := b_stands hb
          have b5' := b_50 hb
          obtain ⟨f, f1, f2, f3⟩ := hb
          have n0 : (nI f = nI 0) = False := q_eqF (by omega) (by omega) (by omega)
          simp only [fX12_readTalker, l_0, l_1, l_2, l_3, l_4, l_5, l_6, l_7, l_8, l_9, l_10, l_11, l_12, l_13, l_14, l_15, l_16, l_17, l_18, l_19, l_20, l_21, l_22, l_23, l_24, l_25, l_30, l_31, l_32, l_40, l_48, l_54, l_57, l_59, l_60, l_61, l_62, l_63, l_65, l_66, l_72, l_82, l_92, l_93, l_94, l_97, l_99, l_100, l_101, l_102, l_103, l_104, l_105, l_107, l_108, l_109, l_110, l_111, l_112, l_114, l_115, l_116, l_117, l_119, l_121, l_122, l_136, l_200, l_255, l_300, l_364, l_900, l_1000, l_1456, l_1458, l_1459, l_1460, l_1462, l_1471, l_1504, l_1510, l_1522, l_1550, l_2971, l_9999, l_10000, l_10979, l_65536, l_m1, p5, w_9, x2, b4', f3, n0, b5', if_false, Option.bind_some]
    · refine Or.inr (Or.inl ⟨R2, M2, ?_, b_talker p3 (bd_bm p4), p4, mg_mh p6⟩)
      simp only [cb, fX8_readTalker, h8, n9, l_0, l_1, l_2, l_3, l_4, l_5, l_6, l_7, l_8, l_9, l_10, l_11, l_12, l_13, l_14, l_15, l_16, l_17, l_18, l_19, l_20, l_21, l_22, l_23, l_24, l_25, l_30, l_31, l_32, l_40, l_48, l_54, l_57, l_59, l_60, l_61, l_62, l_63, l_65, l_66, l_72, l_82, l_92, l_93, l_94, l_97, l_99, l_100, l_101, l_102, l_103, l_104, l_105, l_107, l_108, l_109, l_110, l_111, l_112, l_114, l_115, l_116, l_117, l_119, l_121, l_122, l_136, l_200, l_255, l_300, l_364, l_900, l_1000, l_1456, l_1458, l_1459, l_1460, l_1462, l_1471, l_1504, l_1510, l_1522, l_1550, l_2971, l_9999, l_10000, l_10979, l_65536, l_m1, p1, p2, if_true, if_false, Option.bind_some, Option.map_some]
end Q83
