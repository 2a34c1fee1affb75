/-! a feud is read -/
section Q81
variable {R B M T : ms_T} {g t : Nat → Nat} {n a e k wn : Nat}
theorem b_feud23 (h : bm M) : fX12_readFeud_23 M = some M := by
  have b1 := b_must h (nI 1)
  have b2' := b_readTold h (nI 4) (nI 2)
  have b3 := b_told h (nI 4) (nI 2)
  obtain ⟨f, f1, f2, f3⟩ := h
  have n0 : (nI f = nI 0) = False := q_eqF (by omega) (by omega) (by omega)
  simp only [fX12_readFeud_23, fX12_readFeud_73, l_0, l_1, l_2, l_3, l_4, l_5, l_6, l_7, l_8, l_9, l_10, l_11, l_12, l_13, l_14, l_15, l_16, l_17, l_18, l_19, l_20, l_21, l_22, l_23, l_24, l_25, l_30, l_31, l_32, l_40, l_48, l_54, l_57, l_59, l_60, l_61, l_62, l_63, l_65, l_66, l_72, l_82, l_92, l_93, l_94, l_97, l_99, l_100, l_101, l_102, l_103, l_104, l_105, l_107, l_108, l_109, l_110, l_111, l_112, l_114, l_115, l_116, l_117, l_119, l_121, l_122, l_136, l_200, l_255, l_300, l_364, l_900, l_1000, l_1456, l_1458, l_1459, l_1460, l_1462, l_1471, l_1504, l_1510, l_1522, l_1550, l_2971, l_9999, l_10000, l_10979, l_65536, l_m1, b1, b2', b3, f3, n0, if_false, Option.bind_some]
theorem b_feud73 (h : bm M) (x y : Int32) : fX12_readFeud_73 M x y = some M := by
  have b1 := b_must h (nI 1)
  obtain ⟨f, f1, f2, f3⟩ := h
  have n0 : (nI f = nI 0) = False := q_eqF (by omega) (by omega) (by omega)
  simp only [fX12_readFeud_73, l_0, l_1, l_2, l_3, l_4, l_5, l_6, l_7, l_8, l_9, l_10, l_11, l_12, l_13, l_14, l_15, l_16, l_17, l_18, l_19, l_20, l_21, l_22, l_23, l_24, l_25, l_30, l_31, l_32, l_40, l_48, l_54, l_57, l_59, l_60, l_61, l_62, l_63, l_65, l_66, l_72, l_82, l_92, l_93, l_94, l_97, l_99, l_100, l_101, l_102, l_103, l_104, l_105, l_107, l_108, l_109, l_110, l_111, l_112, l_114, l_115, l_116, l_117, l_119, l_121, l_122, l_136, l_200, l_255, l_300, l_364, l_900, l_1000, l_1456, l_1458, l_1459, l_1460, l_1462, l_1471, l_1504, l_1510, l_1522, l_1550, l_2971, l_9999, l_10000, l_10979, l_65536, l_m1, b1, f3, n0, if_false, Option.bind_some]
theorem so_feud (h : rd B R M g n a e k wn) (ht : tt T R M t) (hk : k = 1) : so B R M T t g n a (fX8_readFeud R B T) (fX12_readFeud M) := by
  obtain ⟨w, hC, hN, hn, hz, hf, o, o1, o2, o3⟩ := id ht
  obtain ⟨w0, w1, w2, w3, w4, w5, w6, w7, w8, w9⟩ := id w
  have h6 := hC.2.2.2.2.2.2.1
  have h8 := hC.2.2.2.2.1
  have ae := rd_ae h (by omega)
  have e4 := h.2.2.2.2.2.2.2.1
  have hc3 : ra M 5 1459 = nI (t 3) := hN 3 (by omega)
  have cl3 : (nI 1459).toNatClampNeg = 1459 := nI_clamp (by omega)
  by_cases full : t 3 = 10
  · rw [full] at hc3 h6
    obtain ⟨R', M', q1, q2, q3, q4, q5⟩ := rd_fail h (f := 6) (by omega) (by omega) (by omega)
    refine Or.inr (Or.inl ⟨R', M', ?_, ?_, q3, mg_mh q5⟩)
    · simp only [cb, fX8_readFeud, h6, l_0, l_1, l_2, l_3, l_4, l_5, l_6, l_7, l_8, l_9, l_10, l_11, l_12, l_13, l_14, l_15, l_16, l_17, l_18, l_19, l_20, l_21, l_22, l_23, l_24, l_25, l_30, l_31, l_32, l_40, l_48, l_54, l_57, l_59, l_60, l_61, l_62, l_63, l_65, l_66, l_72, l_82, l_92, l_93, l_94, l_97, l_99, l_100, l_101, l_102, l_103, l_104, l_105, l_107, l_108, l_109, l_110, l_111, l_112, l_114, l_115, l_116, l_117, l_119, l_121, l_122, l_136, l_200, l_255, l_300, l_364, l_900, l_1000, l_1456, l_1458, l_1459, l_1460, l_1462, l_1471, l_1504, l_1510, l_1522, l_1550, l_2971, l_9999, l_10000, l_10979, l_65536, l_m1, q1, q_z0, if_true, Option.bind_some, Option.map_some]
    · have b23 := b_feud23 (bd_bm q3)
      simp only [fX12_readFeud, l_0, l_1, l_2, l_3, l_4, l_5, l_6, l_7, l_8, l_9, l_10, l_11, l_12, l_13, l_14, l_15, l_16, l_17, l_18, l_19, l_20, l_21, l_22, l_23, l_24, l_25, l_30, l_31, l_32, l_40, l_48, l_54, l_57, l_59, l_60, l_61, l_62, l_63, l_65, l_66, l_72, l_82, l_92, l_93, l_94, l_97, l_99, l_100, l_101, l_102, l_103, l_104, l_105, l_107, l_108, l_109, l_110, l_111, l_112, l_114, l_115, l_116, l_117, l_119, l_121, l_122, l_136, l_200, l_255, l_300, l_364, l_900, l_1000, l_1456, l_1458, l_1459, l_1460, l_1462, l_1471, l_1504, l_1510, l_1522, l_1550, l_2971, l_9999, l_10000, l_10979, l_65536, l_m1, ia, cl3, hc3, if_true, q2, b23, Option.bind_some]
  · have n10' : (nI (t 3) = nI 10) = False := q_eqF full (by omega) (by omega)
    have rstart : fX12_readFeud M = fX12_readFeud_23 M := by
      simp only [fX12_readFeud, l_0, l_1, l_2, l_3, l_4, l_5, l_6, l_7, l_8, l_9, l_10, l_11, l_12, l_13, l_14, l_15, l_16, l_17, l_18, l_19, l_20, l_21, l_22, l_23, l_24, l_25, l_30, l_31, l_32, l_40, l_48, l_54, l_57, l_59, l_60, l_61, l_62, l_63, l_65, l_66, l_72, l_82, l_92, l_93, l_94, l_97, l_99, l_100, l_101, l_102, l_103, l_104, l_105, l_107, l_108, l_109, l_110, l_111, l_112, l_114, l_115, l_116, l_117, l_119, l_121, l_122, l_136, l_200, l_255, l_300, l_364, l_900, l_1000, l_1456, l_1458, l_1459, l_1460, l_1462, l_1471, l_1504, l_1510, l_1522, l_1550, l_2971, l_9999, l_10000, l_10979, l_65536, l_m1, ia, cl3, hc3, n10', if_false]
    obtain ⟨R1, M1, a1, e1, k1, wn1, p1, p2, p3, p4, p5, p6⟩ := rd_adv h
    have m1 := k_must1 e4
    rw [p2] at m1
    have ht1 := tt_mg ht p6 p5
    rcases rd_readTold (T := T) p3 (b := 4) (s := 2) (cnt := t 2) (by omega) (by omega) (by show 17 + t 2 ≤ 23; omega) (ht1.2.2.1 2 (by omega)) (fun i hi => ht1.2.2.2.1.2.2 i hi) with ⟨p, R2, M2, a2, e2, k2, wn2, x0, x1, x2, x3, x4, x5, x6, x7, x8⟩ | ⟨R2, M2, x1, x3, x4, x5, x6⟩
    · have xm : (nI p = nM) = False := q_mne2 (by omega)
      have ht2 := tt_mg ht1 x8 x7
      have nf2 : nfr 2 = 17 := rfl
      rw [nf2] at x1
      rcases rd_told (T := T) x4 (b := 4) (s := 2) (cnt := t 2) (by omega) (by omega) (by show 17 + t 2 ≤ 23; omega) (ht2.2.2.1 2 (by omega)) (fun i hi => ht2.2.2.2.1.2.2 i hi) with ⟨q, y0, y1, y2, y3, y4⟩ | ⟨R3, M3, y3, y4, y5, y6, y7⟩
      · have ym : (nI q = nM) = False := q_mne2 (by omega)
        rw [nf2] at y3
        have m12 := x4.2.2.2.2.2.2.2.1
        have bad5 : ∃ R' M', fX4_refuseHereT R2 (nI 5) = some (nI 0, R') ∧ fX12_readFeud_64 M2 (nI p) (nI q) = some M' ∧ bd R' M' ∧ rg R2 R' ∧ mg M2 M' := by
          obtain ⟨R', M', q1, q2, q3, q4, q5⟩ := rd_fail x4 (f := 5) (by omega) (by omega) (by omega)
          have b73 := b_feud73 (bd_bm q3) (nI p) (nI q)
          exact ⟨R', M', q1, by simp only [fX12_readFeud_64, l_0, l_1, l_2, l_3, l_4, l_5, l_6, l_7, l_8, l_9, l_10, l_11, l_12, l_13, l_14, l_15, l_16, l_17, l_18, l_19, l_20, l_21, l_22, l_23, l_24, l_25, l_30, l_31, l_32, l_40, l_48, l_54, l_57, l_59, l_60, l_61, l_62, l_63, l_65, l_66, l_72, l_82, l_92, l_93, l_94, l_97, l_99, l_100, l_101, l_102, l_103, l_104, l_105, l_107, l_108, l_109, l_110, l_111, l_112, l_114, l_115, l_116, l_117, l_119, l_121, l_122, l_136, l_200, l_255, l_300, l_364, l_900, l_1000, l_1456, l_1458, l_1459, l_1460, l_1462, l_1471, l_1504, l_1510, l_1522, l_1550, l_2971, l_9999, l_10000, l_10979, l_65536, l_m1, q2, b73, Option.bind_some], q3, q4, q5⟩
        by_cases same : p = q
        · obtain ⟨R', M', q1, q2, q3, q4, q5⟩ := bad5
          have st : (nI p = nI q) = True := eq_true (congrArg nI same)
          refine Or.inr (Or.inl ⟨R', M', ?_, ?_, q3, mg_mh (mg_tr (mg_tr p6 x8) q5)⟩)
          · simp only [cb, fX8_readFeud, fX8_readFeud_76, fX4_talkerNamedT, h6, h8, n10', l_0, l_1, l_2, l_3, l_4, l_5, l_6, l_7, l_8, l_9, l_10, l_11, l_12, l_13, l_14, l_15, l_16, l_17, l_18, l_19, l_20, l_21, l_22, l_23, l_24, l_25, l_30, l_31, l_32, l_40, l_48, l_54, l_57, l_59, l_60, l_61, l_62, l_63, l_65, l_66, l_72, l_82, l_92, l_93, l_94, l_97, l_99, l_100, l_101, l_102, l_103, l_104, l_105, l_107, l_108, l_109, l_110, l_111, l_112, l_114, l_115, l_116, l_117, l_119, l_121, l_122, l_136, l_200, l_255, l_300, l_364, l_900, l_1000, l_1456, l_1458, l_1459, l_1460, l_1462, l_1471, l_1504, l_1510, l_1522, l_1550, l_2971, l_9999, l_10000, l_10979, l_65536, l_m1, p1, x1, xm, x2, y3, ym, st, q1, q_z0, if_true, if_false, Option.bind_some, Option.map_some]
          · rw [rstart]
            simp only [fX12_readFeud_23, l_0, l_1, l_2, l_3, l_4, l_5, l_6, l_7, l_8, l_9, l_10, l_11, l_12, l_13, l_14, l_15, l_16, l_17, l_18, l_19, l_20, l_21, l_22, l_23, l_24, l_25, l_30, l_31, l_32, l_40, l_48, l_54, l_57, l_59, l_60, l_61, l_62, l_63, l_65, l_66, l_72, l_82, l_92, l_93, l_94, l_97, l_99, l_100, l_101, l_102, l_103, l_104, l_105, l_107, l_108, l_109, l_110, l_111, l_112, l_114, l_115, l_116, l_117, l_119, l_121, l_122, l_136, l_200, l_255, l_300, l_364, l_900, l_1000, l_1456, l_1458, l_1459, l_1460, l_1462, l_1471, l_1504, l_1510, l_1522, l_1550, l_2971, l_9999, l_10000, l_10979, l_65536, l_m1, m1, x3, y4, m12, st, q2, if_true, Option.bind_some]
        · have st : (nI p = nI q) = False := q_eqF same (by omega) (by omega)
          have f1 := T_isFeud w hC (p := p) (q := q) (by omega) (by omega)
          have f2 := N_isFeudOf (M := M2) w (b := 4) (by omega) ht2.2.2.1 (p := p) (q := q) (by omega) (by omega)
          cases hb : anyb (fdb t p q) (t 3)
          · rw [hb] at f1 f2
            obtain ⟨T', g1, g2, g3, g4⟩ := T_addFeud w hC (p := p) (q := q) (by omega)
            obtain ⟨R3, M3, a3, e3, k3, wn3, s1, s2, s3, s4, s5, s6⟩ := rd_adv x4
            have m2 := k_must1 m12
            rw [s2] at m2
            have ht3 := tt_mg ht2 s6 s5
            obtain ⟨f, v1, v2, v3⟩ := N_angers (M := M3) w (b := 4) (p := p) (q := q) (by omega) (by omega) ht3.2.2.1
            have m123 := s3.2.2.2.2.2.2.2.1
            refine Or.inl ⟨R3, T', sr M3 5 f, tan t p q, a3, e3, k3, wn3, ?_, ?_, s3, ⟨W_tan w (by omega) x0 y0 same hb, g2, v2, ?_, ?_, ?_, o, o1, ?_, ?_⟩, ?_, ?_⟩
            · simp only [fX8_readFeud, fX4_talkerNamedT, h6, h8, n10', l_0, l_1, l_2, l_3, l_4, l_5, l_6, l_7, l_8, l_9, l_10, l_11, l_12, l_13, l_14, l_15, l_16, l_17, l_18, l_19, l_20, l_21, l_22, l_23, l_24, l_25, l_30, l_31, l_32, l_40, l_48, l_54, l_57, l_59, l_60, l_61, l_62, l_63, l_65, l_66, l_72, l_82, l_92, l_93, l_94, l_97, l_99, l_100, l_101, l_102, l_103, l_104, l_105, l_107, l_108, l_109, l_110, l_111, l_112, l_114, l_115, l_116, l_117, l_119, l_121, l_122, l_136, l_200, l_255, l_300, l_364, l_900, l_1000, l_1456, l_1458, l_1459, l_1460, l_1462, l_1471, l_1504, l_1510, l_1522, l_1550, l_2971, l_9999, l_10000, l_10979, l_65536, l_m1, p1, x1, xm, x2, y3, ym, st, f1, bi, b2_0, g1, s1, if_true, if_false, Option.bind_some]
            · rw [rstart]
              simp only [fX12_readFeud_23, fX12_readFeud_73, l_0, l_1, l_2, l_3, l_4, l_5, l_6, l_7, l_8, l_9, l_10, l_11, l_12, l_13, l_14, l_15, l_16, l_17, l_18, l_19, l_20, l_21, l_22, l_23, l_24, l_25, l_30, l_31, l_32, l_40, l_48, l_54, l_57, l_59, l_60, l_61, l_62, l_63, l_65, l_66, l_72, l_82, l_92, l_93, l_94, l_97, l_99, l_100, l_101, l_102, l_103, l_104, l_105, l_107, l_108, l_109, l_110, l_111, l_112, l_114, l_115, l_116, l_117, l_119, l_121, l_122, l_136, l_200, l_255, l_300, l_364, l_900, l_1000, l_1456, l_1458, l_1459, l_1460, l_1462, l_1471, l_1504, l_1510, l_1522, l_1550, l_2971, l_9999, l_10000, l_10979, l_65536, l_m1, m1, x3, y4, m12, st, f2, bi, b2_0, m2, m123, v1, if_true, if_false, Option.bind_some]
            · have n3 := ht3.2.2.2.1
              unfold nms at n3 ⊢
              rw [g3, tan_n (by omega) (by omega) (by omega), tan_n (by omega) (by omega) (by omega), tan_n (by omega) (by omega) (by omega)]
              exact n3
            · rw [g3, tan_n (by omega) (by omega) (by omega), tan_n (by omega) (by omega) (by omega), tan_n (by omega) (by omega) (by omega)]; exact hz
            · rw [tan_n (by omega) (by omega) (by omega)]
              intro i q1 q2
              rw [tan_n (by omega) (by omega) (by omega)]; exact hf i q1 q2
            · rw [(rg_tr (rg_tr p5 x7) s5).1 12 (by omega)]; exact o2
            · rw [q_gir, (mg_tr (mg_tr p6 x8) s6).1 24 (by omega)]; exact o3
            · exact mh_tr (mg_mh (mg_tr (mg_tr p6 x8) s6)) (mh_5 (fun i hi => v3 i (by omega)))
            · have q1 := x4.2.2.1.2.2.2.2.2.2.1
              omega
          · rw [hb] at f1 f2
            obtain ⟨R', M', q1, q2, q3, q4, q5⟩ := bad5
            refine Or.inr (Or.inl ⟨R', M', ?_, ?_, q3, mg_mh (mg_tr (mg_tr p6 x8) q5)⟩)
            · simp only [cb, fX8_readFeud, fX8_readFeud_76, fX4_talkerNamedT, h6, h8, n10', l_0, l_1, l_2, l_3, l_4, l_5, l_6, l_7, l_8, l_9, l_10, l_11, l_12, l_13, l_14, l_15, l_16, l_17, l_18, l_19, l_20, l_21, l_22, l_23, l_24, l_25, l_30, l_31, l_32, l_40, l_48, l_54, l_57, l_59, l_60, l_61, l_62, l_63, l_65, l_66, l_72, l_82, l_92, l_93, l_94, l_97, l_99, l_100, l_101, l_102, l_103, l_104, l_105, l_107, l_108, l_109, l_110, l_111, l_112, l_114, l_115, l_116, l_117, l_119, l_121, l_122, l_136, l_200, l_255, l_300, l_364, l_900, l_1000, l_1456, l_1458, l_1459, l_1460, l_1462, l_1471, l_1504, l_1510, l_1522, l_1550, l_2971, l_9999, l_10000, l_10979, l_65536, l_m1, p1, x1, xm, x2, y3, ym, st, f1, bi, b2_1, n_10, q1, q_z0, if_true, if_false, Option.bind_some, Option.map_some]
            · rw [rstart]
              simp only [fX12_readFeud_23, l_0, l_1, l_2, l_3, l_4, l_5, l_6, l_7, l_8, l_9, l_10, l_11, l_12, l_13, l_14, l_15, l_16, l_17, l_18, l_19, l_20, l_21, l_22, l_23, l_24, l_25, l_30, l_31, l_32, l_40, l_48, l_54, l_57, l_59, l_60, l_61, l_62, l_63, l_65, l_66, l_72, l_82, l_92, l_93, l_94, l_97, l_99, l_100, l_101, l_102, l_103, l_104, l_105, l_107, l_108, l_109, l_110, l_111, l_112, l_114, l_115, l_116, l_117, l_119, l_121, l_122, l_136, l_200, l_255, l_300, l_364, l_900, l_1000, l_1456, l_1458, l_1459, l_1460, l_1462, l_1471, l_1504, l_1510, l_1522, l_1550, l_2971, l_9999, l_10000, l_10979, l_65536, l_m1, m1, x3, y4, m12, st, f2, bi, b2_1, n_10, q2, if_true, if_false, Option.bind_some]
      · rw [nf2] at y3
        have nmm : (nM = nM) = True := eq_self _
        refine Or.inr (Or.inl ⟨R3, M3, ?_, ?_, y5, mg_mh (mg_tr (mg_tr p6 x8) y7)⟩)
        · simp only [cb, fX8_readFeud, fX4_talkerNamedT, h6, h8, n10', l_0, l_1, l_2, l_3, l_4, l_5, l_6, l_7, l_8, l_9, l_10, l_11, l_12, l_13, l_14, l_15, l_16, l_17, l_18, l_19, l_20, l_21, l_22, l_23, l_24, l_25, l_30, l_31, l_32, l_40, l_48, l_54, l_57, l_59, l_60, l_61, l_62, l_63, l_65, l_66, l_72, l_82, l_92, l_93, l_94, l_97, l_99, l_100, l_101, l_102, l_103, l_104, l_105, l_107, l_108, l_109, l_110, l_111, l_112, l_114, l_115, l_116, l_117, l_119, l_121, l_122, l_136, l_200, l_255, l_300, l_364, l_900, l_1000, l_1456, l_1458, l_1459, l_1460, l_1462, l_1471, l_1504, l_1510, l_1522, l_1550, l_2971, l_9999, l_10000, l_10979, l_65536, l_m1, p1, x1, xm, x2, y3, nmm, if_true, if_false, Option.bind_some, Option.map_some]
        · rw [rstart]
          have b73 := b_feud73 (bd_bm y5) (nI p) (nI 0)
          obtain ⟨f, f1, f2, f3⟩ := bd_bm y5
          have n0 : (nI f = nI 0) = False := q_eqF (by omega) (by omega) (by omega)
          simp only [fX12_readFeud_23, l_0, l_1, l_2, l_3, l_4, l_5, l_6, l_7, l_8, l_9, l_10, l_11, l_12, l_13, l_14, l_15, l_16, l_17, l_18, l_19, l_20, l_21, l_22, l_23, l_24, l_25, l_30, l_31, l_32, l_40, l_48, l_54, l_57, l_59, l_60, l_61, l_62, l_63, l_65, l_66, l_72, l_82, l_92, l_93, l_94, l_97, l_99, l_100, l_101, l_102, l_103, l_104, l_105, l_107, l_108, l_109, l_110, l_111, l_112, l_114, l_115, l_116, l_117, l_119, l_121, l_122, l_136, l_200, l_255, l_300, l_364, l_900, l_1000, l_1456, l_1458, l_1459, l_1460, l_1462, l_1471, l_1504, l_1510, l_1522, l_1550, l_2971, l_9999, l_10000, l_10979, l_65536, l_m1, m1, x3, y4, f3, n0, b73, if_true, if_false, Option.bind_some]
    · have nf2 : nfr 2 = 17 := rfl
      rw [nf2] at x1
      have nmm : (nM = nM) = True := eq_self _
      refine Or.inr (Or.inl ⟨R2, M2, ?_, ?_, x4, mg_mh (mg_tr p6 x6)⟩)
      · simp only [cb, fX8_readFeud, fX4_talkerNamedT, h6, h8, n10', l_0, l_1, l_2, l_3, l_4, l_5, l_6, l_7, l_8, l_9, l_10, l_11, l_12, l_13, l_14, l_15, l_16, l_17, l_18, l_19, l_20, l_21, l_22, l_23, l_24, l_25, l_30, l_31, l_32, l_40, l_48, l_54, l_57, l_59, l_60, l_61, l_62, l_63, l_65, l_66, l_72, l_82, l_92, l_93, l_94, l_97, l_99, l_100, l_101, l_102, l_103, l_104, l_105, l_107, l_108, l_109, l_110, l_111, l_112, l_114, l_115, l_116, l_117, l_119, l_121, l_122, l_136, l_200, l_255, l_300, l_364, l_900, l_1000, l_1456, l_1458, l_1459, l_1460, l_1462, l_1471, l_1504, l_1510, l_1522, l_1550, l_2971, l_9999, l_10000, l_10979, l_65536, l_m1, p1, x1, nmm, if_true, if_false, Option.bind_some, Option.map_some]
      · rw [rstart]
        have hb := bd_bm x4
        have bt := b_told hb (nI 4) (nI 2)
        have b73 := b_feud73 hb (nI 0) (nI 0)
        obtain ⟨f, f1, f2, f3⟩ := hb
        have n0 : (nI f = nI 0) = False := q_eqF (by omega) (by omega) (by omega)
        simp only [fX12_readFeud_23, l_0, l_1, l_2, l_3, l_4, l_5, l_6, l_7, l_8, l_9, l_10, l_11, l_12, l_13, l_14, l_15, l_16, l_17, l_18, l_19, l_20, l_21, l_22, l_23, l_24, l_25, l_30, l_31, l_32, l_40, l_48, l_54, l_57, l_59, l_60, l_61, l_62, l_63, l_65, l_66, l_72, l_82, l_92, l_93, l_94, l_97, l_99, l_100, l_101, l_102, l_103, l_104, l_105, l_107, l_108, l_109, l_110, l_111, l_112, l_114, l_115, l_116, l_117, l_119, l_121, l_122, l_136, l_200, l_255, l_300, l_364, l_900, l_1000, l_1456, l_1458, l_1459, l_1460, l_1462, l_1471, l_1504, l_1510, l_1522, l_1550, l_2971, l_9999, l_10000, l_10979, l_65536, l_m1, m1, x3, bt, f3, n0, b73, if_true, if_false, Option.bind_some]
end Q81
