section Q93
variable {R B M T E : ms_T} {g t : Nat → Nat} {n a e k wn p s w : Nat}
theorem fl_no {i fu : Nat} (h : rd B R M g n a e k wn) (hk : k ≠ 0) (hi : i ≤ a) (w24 : wn ≠ 24) : fX2_readEvenings_30 B T (fu + 1) R E (nI i) = (fX2_readStep R B T E).bind fun z4 => fX2_readEvenings_65 B T (fX2_readEvenings_30 B T fu) z4.2.1 z4.2.2 (nI i) z4.1 := by
  have hw := h.2.2.2.1
  have e3 := h.2.2.2.2.1
  obtain ⟨t1, t2, t3, t4, t5, t6, t7, t8, t9, t10, t11, t12⟩ := h.2.2.1
  have n9 := h.2.1
  have k4 : k ≤ 4 := by rcases t12 with q | q | q | q | q <;> omega
  have lt9 : (nI 900 < nI i) = False := q_ltF (by omega) (by omega)
  have kn : (nI k = nI 0) = False := q_eqF hk (by omega) (by omega)
  have y24 : (wnI wn = nI 24) = False := by rw [wnI_eq hw (by omega)]; exact eq_false w24
  rw [fX2_readEvenings_30]
  simp only [l_0, l_1, l_2, l_3, l_4, l_5, l_6, l_7, l_8, l_9, l_10, l_11, l_12, l_13, l_14, l_15, l_16, l_17, l_18, l_19, l_20, l_21, l_22, l_23, l_24, l_25, l_30, l_31, l_32, l_40, l_48, l_54, l_57, l_59, l_60, l_61, l_62, l_63, l_65, l_66, l_72, l_82, l_92, l_93, l_94, l_97, l_99, l_100, l_101, l_102, l_103, l_104, l_105, l_107, l_108, l_109, l_110, l_111, l_112, l_114, l_115, l_116, l_117, l_119, l_121, l_122, l_136, l_200, l_255, l_300, l_364, l_900, l_1000, l_1456, l_1458, l_1459, l_1460, l_1462, l_1471, l_1504, l_1510, l_1522, l_1550, l_2971, l_9999, l_10000, l_10979, l_65536, l_m1, lt9, t9, kn, e3, y24, if_false]
set_option maxHeartbeats 3000000 in
theorem PS_all : ∀ q, PS B T t g n q := by
  -- where the text is at its end, within a step
  have atend : ∀ i fu D R M E a e wn s p w, i ≤ a → n < a + fu → 4 ≤ D + w → rd B R M g n a e 0 wn → es R M E s p w → 1 ≤ w → zo B T R M E t g n a s p w fu i (fX12_readStep D M (nI w)) := by
    intro i fu D R M E a e wn s p w hi hf hD h he hw1
    obtain ⟨s1, s2, s3, s4, s5, s6, s7, s8⟩ := id he
    obtain ⟨t1, t2, t3, t4, t5, t6, t7, t8, t9, t10, t11, t12⟩ := h.2.2.1
    have n9 := h.2.1
    obtain ⟨fu, rfl⟩ : ∃ y, fu = y + 1 := ⟨fu - 1, by omega⟩
    obtain ⟨D, rfl⟩ : ∃ y, D = y + 1 := ⟨D - 1, by omega⟩
    have w26 : wn = 26 := by
      have := h.2.2.2.1
      refine Classical.byContradiction (fun q => ?_)
      have := h.2.2.2.2.2.2.1 (by omega)
      omega
    obtain ⟨R', M', q1, q2, q3, q4⟩ := step_no (T := T) h he (D := D) (Or.inl (by rw [w26]; decide))
    obtain ⟨R2, M2, v1, v2, v3, v4, v5⟩ := rd_amiss h
    -- both give up here, at the same place
    have same : fX12_readStep (D + 1) M (nI w) = some M2 := by
      have sw := M_stepWord h.2.2.2.2.2.1 h.2.2.2.1
      have st : stw wn = 9 := by rw [w26]; decide
      rw [st, if_pos rfl] at sw
      have b31 := fun rc x y z => b_31 (rc := rc) (bd_bm v3) x y z
      have n6 : (nM = nI 6) = False := q_mne (by omega)
      have n7 : (nM = nI 7) = False := q_mne (by omega)
      have lm : (nI 0 ≤ nM) = False := eq_false (by decide)
      show fX12_readStep_0 (fX12_readStep D) M (nI w) = _
      simp only [fX12_readStep_0, fX12_readStep_22, sw, l_0, l_1, l_2, l_3, l_4, l_5, l_6, l_7, l_8, l_9, l_10, l_11, l_12, l_13, l_14, l_15, l_16, l_17, l_18, l_19, l_20, l_21, l_22, l_23, l_24, l_25, l_30, l_31, l_32, l_40, l_48, l_54, l_57, l_59, l_60, l_61, l_62, l_63, l_65, l_66, l_72, l_82, l_92, l_93, l_94, l_97, l_99, l_100, l_101, l_102, l_103, l_104, l_105, l_107, l_108, l_109, l_110, l_111, l_112, l_114, l_115, l_116, l_117, l_119, l_121, l_122, l_136, l_200, l_255, l_300, l_364, l_900, l_1000, l_1456, l_1458, l_1459, l_1460, l_1462, l_1471, l_1504, l_1510, l_1522, l_1550, l_2971, l_9999, l_10000, l_10979, l_65536, l_m1, n6, n7, lm, v2, b31, if_false, Option.bind_some]
    have lt9 : (nI 900 < nI i) = False := q_ltF (by omega) (by omega)
    have wl : (nI w ≤ nI 0) = False := q_leF (by omega) (by omega)
    have z00 : (nI 0 &&& nI 1 = nI 0) = True := q_z0
    refine Or.inr ⟨R2, M2, E, same, ?_, v3, mg_mz v5⟩
    rw [fX2_readEvenings_30]
    simp only [fX2_readEvenings_87, l_0, l_1, l_2, l_3, l_4, l_5, l_6, l_7, l_8, l_9, l_10, l_11, l_12, l_13, l_14, l_15, l_16, l_17, l_18, l_19, l_20, l_21, l_22, l_23, l_24, l_25, l_30, l_31, l_32, l_40, l_48, l_54, l_57, l_59, l_60, l_61, l_62, l_63, l_65, l_66, l_72, l_82, l_92, l_93, l_94, l_97, l_99, l_100, l_101, l_102, l_103, l_104, l_105, l_107, l_108, l_109, l_110, l_111, l_112, l_114, l_115, l_116, l_117, l_119, l_121, l_122, l_136, l_200, l_255, l_300, l_364, l_900, l_1000, l_1456, l_1458, l_1459, l_1460, l_1462, l_1471, l_1504, l_1510, l_1522, l_1550, l_2971, l_9999, l_10000, l_10979, l_65536, l_m1, lt9, t9, s6, wl, v_ref, v1, z00, if_true, if_false, Option.bind_some]
  intro q
  induction q with
  | zero =>
    intro i fu D R M E a e k wn s p w hq hi hf hD h ht he hk0 hw0
    obtain ⟨t1, t2, t3, t4, t5, t6, t7, t8, t9, t10, t11, t12⟩ := h.2.2.1
    have k0 : k = 0 := by
      rcases Nat.eq_zero_or_pos k with q | q
      · exact q
      · have := t11 (by omega); omega
    subst k0
    exact atend i fu D R M E a e wn s p w hi hf hD h he (by omega)
  | succ q ihq =>
    intro i fu D R M E a e k wn s p w hq hi hf hD h ht he hk0 hw0
    by_cases k0 : k = 0
    · subst k0
      exact atend i fu D R M E a e wn s p w hi hf hD h he (by omega)
    · obtain ⟨s1, s2, s3, s4, s5, s6, s7, s8⟩ := id he
      have ae := rd_ae h k0
      have en := h.2.2.1.2.2.2.2.2.2.2.1
      obtain ⟨fu, rfl⟩ : ∃ y, fu = y + 1 := ⟨fu - 1, by omega⟩
      obtain ⟨D, rfl⟩ : ∃ y, D = y + 1 := ⟨D - 1, by omega⟩
      by_cases w24 : wn = 24
      · -- an end with nothing begun
        have w0 : w = 0 := by omega
        subst w0
        obtain ⟨R2, M2, v1, v2, v3, v4, v5⟩ := rd_amiss h
        have same : fX12_readStep (D + 1) M (nI 0) = some M2 := by
          have sw := M_stepWord h.2.2.2.2.2.1 h.2.2.2.1
          have st : stw wn = 9 := by rw [w24]; decide
          rw [st, if_pos rfl] at sw
          have b31 := fun rc x y z => b_31 (rc := rc) (bd_bm v3) x y z
          have n6 : (nM = nI 6) = False := q_mne (by omega)
          have n7 : (nM = nI 7) = False := q_mne (by omega)
          have lm : (nI 0 ≤ nM) = False := eq_false (by decide)
          show fX12_readStep_0 (fX12_readStep D) M (nI 0) = _
          simp only [fX12_readStep_0, fX12_readStep_22, sw, l_0, l_1, l_2, l_3, l_4, l_5, l_6, l_7, l_8, l_9, l_10, l_11, l_12, l_13, l_14, l_15, l_16, l_17, l_18, l_19, l_20, l_21, l_22, l_23, l_24, l_25, l_30, l_31, l_32, l_40, l_48, l_54, l_57, l_59, l_60, l_61, l_62, l_63, l_65, l_66, l_72, l_82, l_92, l_93, l_94, l_97, l_99, l_100, l_101, l_102, l_103, l_104, l_105, l_107, l_108, l_109, l_110, l_111, l_112, l_114, l_115, l_116, l_117, l_119, l_121, l_122, l_136, l_200, l_255, l_300, l_364, l_900, l_1000, l_1456, l_1458, l_1459, l_1460, l_1462, l_1471, l_1504, l_1510, l_1522, l_1550, l_2971, l_9999, l_10000, l_10979, l_65536, l_m1, n6, n7, lm, v2, b31, if_false, Option.bind_some]
        obtain ⟨t1, t2, t3, t4, t5, t6, t7, t8, t9, t10, t11, t12⟩ := h.2.2.1
        have n9 := h.2.1
        have k4 : k ≤ 4 := by rcases t12 with q | q | q | q | q <;> omega
        have lt9 : (nI 900 < nI i) = False := q_ltF (by omega) (by omega)
        have kn : (nI k = nI 0) = False := q_eqF k0 (by omega) (by omega)
        have e3 := h.2.2.2.2.1
        have y24 : (wnI wn = nI 24) = True := by rw [wnI_eq h.2.2.2.1 (by omega)]; exact eq_true w24
        have z00 : (nI 0 &&& nI 1 = nI 0) = True := q_z0
        refine Or.inr ⟨R2, M2, E, same, ?_, v3, mg_mz v5⟩
        rw [fX2_readEvenings_30]
        simp only [fX2_readEnd, fX2_readEvenings_65, l_0, l_1, l_2, l_3, l_4, l_5, l_6, l_7, l_8, l_9, l_10, l_11, l_12, l_13, l_14, l_15, l_16, l_17, l_18, l_19, l_20, l_21, l_22, l_23, l_24, l_25, l_30, l_31, l_32, l_40, l_48, l_54, l_57, l_59, l_60, l_61, l_62, l_63, l_65, l_66, l_72, l_82, l_92, l_93, l_94, l_97, l_99, l_100, l_101, l_102, l_103, l_104, l_105, l_107, l_108, l_109, l_110, l_111, l_112, l_114, l_115, l_116, l_117, l_119, l_121, l_122, l_136, l_200, l_255, l_300, l_364, l_900, l_1000, l_1456, l_1458, l_1459, l_1460, l_1462, l_1471, l_1504, l_1510, l_1522, l_1550, l_2971, l_9999, l_10000, l_10979, l_65536, l_m1, lt9, t9, kn, e3, y24, s6, v_ref, v1, z00, if_true, if_false, Option.bind_some]
      · have fl := fl_no (T := T) (E := E) (i := i) (fu := fu) h k0 hi w24
        by_cases hno : stw wn = 9 ∨ s = 30 ∨ ((wn = 19 ∨ wn = 23) ∧ w = 3)
        · obtain ⟨R', M', q1, q2, q3, q4⟩ := step_no (T := T) h he (D := D) hno
          obtain ⟨E', q5⟩ := readStep_bad (B := B) (T := T) (fu := fu) (i := i) (K := fX2_readEvenings_30 B T fu) q1
          exact Or.inr ⟨R', M', E', q2, by rw [fl, q5], q3, mg_mz q4⟩
        · have h9 : stw wn ≠ 9 := fun q => hno (Or.inl q)
          have h30 : s ≠ 30 := fun q => hno (Or.inr (Or.inl q))
          obtain ⟨y1, y2, y3⟩ := step_yes (T := T) h he (D := D) h9 h30
          by_cases hb : wn = 19 ∨ wn = 23
          · -- a step that nests others
            have w3 : w < 3 := by
              have : ¬ w = 3 := fun q => hno (Or.inr (Or.inr ⟨hb, q⟩))
              omega
            have hR0 : rd B (si (sr R 1 (upd (ra R 1) w (nI p))) 13 (nI (w + 1))) M g n a e k wn := h
            have yM := y3 (Or.inr w3)
            rw [if_pos hb] at yM
            rcases step_body (E := E) hR0 ht s4 (by omega) (s := s) (by omega) s2 h9 with ⟨R1, E1, M1, a1, e1, k1, wn1, b1, b3, b4, b5, b6, b7, b8, b9, b10⟩ | ⟨R1, M1, b1, b3, b4, b5⟩
            · have yM1 := yM M1 b3
              obtain ⟨z, z1, z2⟩ := rd_semi b4
              rw [z1, Option.bind_some] at yM1
              have aa := b4.2.2.1.2.2.2.2.2.2.1
              rcases z2 with ⟨R2, M2, a2, e2, k2, wn2, c1, c2, c3, c4, c5, c6, c7⟩ | ⟨R2, M2, c1, c2, c3, c4, c5⟩
              · rw [c2, Option.bind_some] at yM1
                have g1 : gi E1 1 = nI s := by rw [b9.1 1]; exact s1
                have g0 : gi E1 0 = nI 0 := by rw [b9.1 0]; exact s8
                rw [g1, nI_add] at b1
                have m25 : gi M2 25 = nI (s + 1) := by rw [c7.1 25 (by omega)]; exact b8
                have r13 : gi R2 13 = nI (w + 1) := by rw [c6.1 13 (by omega), b6.1 13 (by omega)]; rfl
                have ra1 : ∀ j, ra R2 1 j = upd (ra R 1) w (nI p) j := fun j => by
                  have q1 : ra R2 1 = ra R1 1 := congrFun (congrArg Prod.fst c6.2) 1
                  have q2 : ra R1 1 = upd (ra R 1) w (nI p) := congrFun (congrArg Prod.fst b6.2) 1
                  rw [q1, q2]
                have he2 : es R2 M2 (si (si E1 1 (nI (s + 1))) 2 (nI (p + 1))) (s + 1) (p + 1) (w + 1) := ⟨rfl, m25, by omega, rfl, by omega, r13, by omega, g0⟩
                have mz2 : mz s M M2 := mz_tr b7 (mg_mz c7)
                have fl2 : fX2_readEvenings_30 B T (fu + 1) R E (nI i) = fX2_readEvenings_30 B T fu R2 (si (si E1 1 (nI (s + 1))) 2 (nI (p + 1))) (nI (i + 1)) := by
                  rw [fl, y2 hb w3, b1, Option.bind_some]
                  simp only [fX2_readEvenings_65, l_0, l_1, l_2, l_3, l_4, l_5, l_6, l_7, l_8, l_9, l_10, l_11, l_12, l_13, l_14, l_15, l_16, l_17, l_18, l_19, l_20, l_21, l_22, l_23, l_24, l_25, l_30, l_31, l_32, l_40, l_48, l_54, l_57, l_59, l_60, l_61, l_62, l_63, l_65, l_66, l_72, l_82, l_92, l_93, l_94, l_97, l_99, l_100, l_101, l_102, l_103, l_104, l_105, l_107, l_108, l_109, l_110, l_111, l_112, l_114, l_115, l_116, l_117, l_119, l_121, l_122, l_136, l_200, l_255, l_300, l_364, l_900, l_1000, l_1456, l_1458, l_1459, l_1460, l_1462, l_1471, l_1504, l_1510, l_1522, l_1550, l_2971, l_9999, l_10000, l_10979, l_65536, l_m1, n_10, v_semi, c1, nI_add, if_false, Option.bind_some]
                rcases BL ihq (s0 := s) (D := D) (w := w) (by omega) w3 (by omega) q (i + 1) fu FU R2 M2 (si (si E1 1 (nI (s + 1))) 2 (nI (p + 1))) a2 e2 k2 wn2 (s + 1) (p + 1) (Nat.le_refl _) (by omega) (by omega) (by omega) (by have := h.2.1; unfold FU; omega) c3 (et_mz ht mz2) he2 (by omega) with ⟨R3, M3, E3, a3, e3, k3, sx, px, i3, fu3, v1, v2, v3, v4, v5, v6, v7, v8, v9, v10, v11, v12, v13⟩ | ⟨R3, M3, E3, v1, v2, v3, v4⟩
                · -- the end of it
                  obtain ⟨x1, x2, x3, x4, x5, x6, x7, x8⟩ := id v7
                  have ae3 := rd_ae v3 (fun q => by have := v3.2.2.2.2.2.2.1 (by omega); omega)
                  have k31 : k3 = 1 := v3.2.2.2.2.2.2.1 (by omega)
                  have en3 := v3.2.2.1.2.2.2.2.2.2.2.1
                  obtain ⟨fu3, rfl⟩ : ∃ y, fu3 = y + 1 := ⟨fu3 - 1, by omega⟩
                  obtain ⟨t1, t2, t3, t4, t5, t6, t7, t8, t9, t10, t11, t12⟩ := v3.2.2.1
                  have n9 := v3.2.1
                  have m123 := v3.2.2.2.2.2.2.2.1
                  have lt9 : (nI 900 < nI i3) = False := q_ltF (by omega) (by omega)
                  have kn : (nI k3 = nI 0) = False := by rw [k31]; exact n_10
                  have e73 := v3.2.2.2.2.1
                  have y24 : (wnI 24 = nI 24) = True := eq_true rfl
                  have bw : ra R3 1 w = nI p := by rw [v11 w (by omega), ra1, up_e _ _ _ rfl]
                  have u24 : wb M3 24 = true := by rw [v3.2.2.2.2.2.1 24 (by omega)]; rfl
                  obtain ⟨R4, M4, a4, e4, k4, wn4, f1, f2, f3, f4, f5, f6⟩ := rd_adv (R := si R3 13 (nI w)) v3
                  have mu := k_must1 m123
                  rw [f2] at mu
                  have wn0 : (nI (w + 1) = nI 0) = False := q_eqF (by omega) (by omega) (by omega)
                  have wsub : nI (w + 1) - nI 1 = nI w := q_pre w
                  have iw : inb (nI w) 3 = true := q_inT w3 (by omega)
                  have cw : (nI w).toNatClampNeg = w := nI_clamp (by omega)
                  have px6 : px < 60 := by omega
                  have ipx : inb (nI px) 60 = true := q_inT px6 (by omega)
                  have cpx : (nI px).toNatClampNeg = px := nI_clamp (by omega)
                  have ip : inb (nI p) 60 = true := q_inT (by omega) (by omega)
                  have cp : (nI p).toNatClampNeg = p := nI_clamp (by omega)
                  have hEnd : fX2_readEnd R3 B E3 = some (nI 1, R4, si (sr (sr E3 1 (upd (ra E3 1) px (nI 24))) 5 (upd (upd (ra E3 5) px (nI p)) p (nI px))) 2 (nI (px + 1))) := by
                    simp only [fX2_readEnd, x6, wn0, l_0, l_1, l_2, l_3, l_4, l_5, l_6, l_7, l_8, l_9, l_10, l_11, l_12, l_13, l_14, l_15, l_16, l_17, l_18, l_19, l_20, l_21, l_22, l_23, l_24, l_25, l_30, l_31, l_32, l_40, l_48, l_54, l_57, l_59, l_60, l_61, l_62, l_63, l_65, l_66, l_72, l_82, l_92, l_93, l_94, l_97, l_99, l_100, l_101, l_102, l_103, l_104, l_105, l_107, l_108, l_109, l_110, l_111, l_112, l_114, l_115, l_116, l_117, l_119, l_121, l_122, l_136, l_200, l_255, l_300, l_364, l_900, l_1000, l_1456, l_1458, l_1459, l_1460, l_1462, l_1471, l_1504, l_1510, l_1522, l_1550, l_2971, l_9999, l_10000, l_10979, l_65536, l_m1, wsub, q_gi, q_rai, ia, iw, cw, bw, x4, ipx, sa, cpx, q_gir, ip, cp, v_adv, f1, nI_add, q_ra, q_srsr, reduceIte, Nat.reduceEqDiff, if_true, if_false, Option.bind_some]
                  obtain ⟨z', z1', z2'⟩ := rd_semi f3
                  have ab := f3.2.2.1.2.2.2.2.2.2.1
                  have e170 : fX12_readStep_170 (fX12_readStep D) M3 (nI 1) (nI (1550 + 9 * s)) = (fX12_must M4 z').bind fun z11 => fX12_readStep_192 (fX12_readStep D) z11 (nI (1550 + 9 * s)) := by
                    simp only [fX12_readStep_170, l_0, l_1, l_2, l_3, l_4, l_5, l_6, l_7, l_8, l_9, l_10, l_11, l_12, l_13, l_14, l_15, l_16, l_17, l_18, l_19, l_20, l_21, l_22, l_23, l_24, l_25, l_30, l_31, l_32, l_40, l_48, l_54, l_57, l_59, l_60, l_61, l_62, l_63, l_65, l_66, l_72, l_82, l_92, l_93, l_94, l_97, l_99, l_100, l_101, l_102, l_103, l_104, l_105, l_107, l_108, l_109, l_110, l_111, l_112, l_114, l_115, l_116, l_117, l_119, l_121, l_122, l_136, l_200, l_255, l_300, l_364, l_900, l_1000, l_1456, l_1458, l_1459, l_1460, l_1462, l_1471, l_1504, l_1510, l_1522, l_1550, l_2971, l_9999, l_10000, l_10979, l_65536, l_m1, n_10, w_24, u24, bi, b2_1, mu, z1', if_false, Option.bind_some]
                  have j8 : inb (nI (1550 + 9 * s + 8)) 1820 = true := q_inT (by omega) (by omega)
                  have c8' : (nI (1550 + 9 * s + 8)).toNatClampNeg = 1550 + 9 * s + 8 := nI_clamp (by omega)
                  have e192 : ∀ X, fX12_readStep_192 (fX12_readStep D) X (nI (1550 + 9 * s)) = some (sr X 5 (upd (ra X 5) (1550 + 9 * s + 8) (gi X 25))) := fun X => by
                    simp only [fX12_readStep_192, l_0, l_1, l_2, l_3, l_4, l_5, l_6, l_7, l_8, l_9, l_10, l_11, l_12, l_13, l_14, l_15, l_16, l_17, l_18, l_19, l_20, l_21, l_22, l_23, l_24, l_25, l_30, l_31, l_32, l_40, l_48, l_54, l_57, l_59, l_60, l_61, l_62, l_63, l_65, l_66, l_72, l_82, l_92, l_93, l_94, l_97, l_99, l_100, l_101, l_102, l_103, l_104, l_105, l_107, l_108, l_109, l_110, l_111, l_112, l_114, l_115, l_116, l_117, l_119, l_121, l_122, l_136, l_200, l_255, l_300, l_364, l_900, l_1000, l_1456, l_1458, l_1459, l_1460, l_1462, l_1471, l_1504, l_1510, l_1522, l_1550, l_2971, l_9999, l_10000, l_10979, l_65536, l_m1, nI_add, j8, sa, c8', if_true]
                  have flE : fX2_readEvenings_30 B T (fu3 + 1) R3 E3 (nI i3) = fX2_readEvenings_65 B T (fX2_readEvenings_30 B T fu3) R4 (si (sr (sr E3 1 (upd (ra E3 1) px (nI 24))) 5 (upd (upd (ra E3 5) px (nI p)) p (nI px))) 2 (nI (px + 1))) (nI i3) (nI 1) := by
                    rw [fX2_readEvenings_30]
                    simp only [l_0, l_1, l_2, l_3, l_4, l_5, l_6, l_7, l_8, l_9, l_10, l_11, l_12, l_13, l_14, l_15, l_16, l_17, l_18, l_19, l_20, l_21, l_22, l_23, l_24, l_25, l_30, l_31, l_32, l_40, l_48, l_54, l_57, l_59, l_60, l_61, l_62, l_63, l_65, l_66, l_72, l_82, l_92, l_93, l_94, l_97, l_99, l_100, l_101, l_102, l_103, l_104, l_105, l_107, l_108, l_109, l_110, l_111, l_112, l_114, l_115, l_116, l_117, l_119, l_121, l_122, l_136, l_200, l_255, l_300, l_364, l_900, l_1000, l_1456, l_1458, l_1459, l_1460, l_1462, l_1471, l_1504, l_1510, l_1522, l_1550, l_2971, l_9999, l_10000, l_10979, l_65536, l_m1, lt9, t9, kn, e73, y24, hEnd, if_true, if_false, Option.bind_some]
                  have mz3 : mz s M M3 := mz_tr mz2 (mz_le v10 (by omega))
                  rcases z2' with ⟨R5, M5, a5, e5, k5, wn5, r1, r2, r3, r4, r5, r6, r7⟩ | ⟨R5, M5, r1, r2, r3, r4, r5⟩
                  · have g25 : gi M5 25 = nI sx := by rw [r7.1 25 (by omega), f6.1 25 (by omega)]; exact x2
                    have r135 : gi R5 13 = nI w := by rw [r6.1 13 (by omega), f5.1 13 (by omega)]; rfl
                    have ra15 : ∀ j, ra R5 1 j = ra R3 1 j := fun j => by
                      have q1 : ra R5 1 = ra R4 1 := congrFun (congrArg Prod.fst r6.2) 1
                      have q2 : ra R4 1 = ra R3 1 := congrFun (congrArg Prod.fst f5.2) 1
                      rw [q1, q2]
                    refine Or.inl ⟨R5, sr M5 5 (upd (ra M5 5) (1550 + 9 * s + 8) (nI sx)), si (sr (sr E3 1 (upd (ra E3 1) px (nI 24))) 5 (upd (upd (ra E3 5) px (nI p)) p (nI px))) 2 (nI (px + 1)), a5, e5, k5, wn5, sx, px + 1, i3 + 1, fu3, ?_, ?_, r3, by omega, by omega, by omega, ⟨x1, g25, x3, rfl, by omega, r135, by omega, x8⟩, by omega, by omega, ?_, fun j hj => ?_, fun kk j hj => ?_, ?_⟩
                    · rw [yM1, v1, e170, r2, Option.bind_some, e192, g25]
                    · rw [fl2, v2, flE]
                      simp only [fX2_readEvenings_65, l_0, l_1, l_2, l_3, l_4, l_5, l_6, l_7, l_8, l_9, l_10, l_11, l_12, l_13, l_14, l_15, l_16, l_17, l_18, l_19, l_20, l_21, l_22, l_23, l_24, l_25, l_30, l_31, l_32, l_40, l_48, l_54, l_57, l_59, l_60, l_61, l_62, l_63, l_65, l_66, l_72, l_82, l_92, l_93, l_94, l_97, l_99, l_100, l_101, l_102, l_103, l_104, l_105, l_107, l_108, l_109, l_110, l_111, l_112, l_114, l_115, l_116, l_117, l_119, l_121, l_122, l_136, l_200, l_255, l_300, l_364, l_900, l_1000, l_1456, l_1458, l_1459, l_1460, l_1462, l_1471, l_1504, l_1510, l_1522, l_1550, l_2971, l_9999, l_10000, l_10979, l_65536, l_m1, n_10, v_semi, r1, nI_add, if_false, Option.bind_some]
                    · exact mz_tr mz3 (mz_tr (mg_mz (mg_tr f6 r7)) (mz_5 (by omega)))
                    · rw [ra15, v11 j (by omega), ra1, up_n _ _ _ (by omega)]
                    · have base : ra E3 kk j = ra E kk j := by
                        rw [v12 kk j (by omega)]
                        show ra E1 kk j = _
                        exact b9.2 kk j (by omega)
                      show ra (sr (sr E3 1 (upd (ra E3 1) px (nI 24))) 5 (upd (upd (ra E3 5) px (nI p)) p (nI px))) kk j = _
                      rw [q_ra]
                      split
                      · next qq => rw [up_n _ _ _ (by omega), up_n _ _ _ (by omega), ← qq]; exact base
                      · rw [q_ra]
                        split
                        · next qq => rw [up_n _ _ _ (by omega), ← qq]; exact base
                        · exact base
                    · -- what was built
                      have cc : ∀ i, 94 + 9 * (s + 1) ≤ i → i < 94 + 9 * sx → cM (sr M5 5 (upd (ra M5 5) (1550 + 9 * s + 8) (nI sx))) i = cM M3 i := fun i q1 q2 => by
                        show ra (sr M5 5 (upd (ra M5 5) (1550 + 9 * s + 8) (nI sx))) 5 (1456 + i) = ra M3 5 (1456 + i)
                        rw [q_ra, if_pos rfl, up_n _ _ _ (by omega), mg_ra r7, mg_ra f6]
                      have cs : ∀ j, j < 8 → cM (sr M5 5 (upd (ra M5 5) (1550 + 9 * s + 8) (nI sx))) (94 + 9 * s + j) = cM M1 (94 + 9 * s + j) := fun j hj => by
                        rw [cM_j, cM_j, q_ra, if_pos rfl, up_n _ _ _ (by omega), mg_ra r7, mg_ra f6, v10.2.2.2.1 _ (by omega), mg_ra c7]
                      have Ep : ∀ kk, kk ≠ 5 → ra (si (sr (sr E3 1 (upd (ra E3 1) px (nI 24))) 5 (upd (upd (ra E3 5) px (nI p)) p (nI px))) 2 (nI (px + 1))) kk p = ra E1 kk p := fun kk hk5 => by
                        have base : ra E3 kk p = ra E1 kk p := by rw [v12 kk p (by omega)]; rfl
                        show ra (sr (sr E3 1 (upd (ra E3 1) px (nI 24))) 5 (upd (upd (ra E3 5) px (nI p)) p (nI px))) kk p = _
                        rw [q_ra, if_neg hk5, q_ra]
                        split
                        · next qq => rw [up_n _ _ _ (by omega), ← qq]; exact base
                        · exact base
                      refine Or.inr ⟨?_, px, 3 - (w + 1), by omega, by omega, by omega, rfl, ?_, ?_, ?_, ?_, ?_⟩
                      · have h0 := cs 0 (by decide)
                        have h1 := cs 1 (by decide)
                        have h5 := cs 5 (by decide)
                        have h6 := cs 6 (by decide)
                        have h7 := cs 7 (by decide)
                        have h0' : cM (sr M5 5 (upd (ra M5 5) (1550 + 9 * s + 8) (nI sx))) (94 + 9 * s) = cM M1 (94 + 9 * s) := h0
                        rcases b10 with ⟨q1, q2, _⟩ | ⟨_, qL⟩ | ⟨_, qH⟩
                        · exact (hb.elim q1 q2).elim
                        · left
                          unfold ev_L at qL ⊢
                          rw [h0', h1, Ep 1 (by decide), Ep 3 (by decide)]; exact qL
                        · right
                          unfold ev_H at qH ⊢
                          rw [h0', h1, h5, h6, h7, Ep 1 (by decide), Ep 2 (by decide), Ep 3 (by decide), Ep 4 (by decide)]; exact qH
                      · rw [cM_j, q_ra, if_pos rfl, up_e _ _ _ rfl]
                      · show upd (ra E3 1) px (nI 24) px = _
                        exact up_e _ _ _ rfl
                      · show upd (upd (ra E3 5) px (nI p)) p (nI px) px = _
                        rw [up_n _ _ _ (by omega), up_e _ _ _ rfl]
                      · show upd (upd (ra E3 5) px (nI p)) p (nI px) p = _
                        exact up_e _ _ _ rfl
                      · have v13' : ev_B E3 (cM M3) (t 1) (t 2) (sx - s) (3 - (w + 1)) (s + 1) sx (p + 1) px := ev_B_up _ _ _ _ _ _ _ (by omega) v13
                        refine ev_B_keep _ _ _ _ _ _ (fun kk j q1 q2 => ?_) cc v13'
                        show ra (sr (sr E3 1 (upd (ra E3 1) px (nI 24))) 5 (upd (upd (ra E3 5) px (nI p)) p (nI px))) kk j = _
                        rw [q_ra]
                        split
                        · next qq => rw [up_n _ _ _ (by omega), up_n _ _ _ (by omega), ← qq]
                        · rw [q_ra]
                          split
                          · next qq => rw [up_n _ _ _ (by omega), ← qq]
                          · rfl
                  · refine Or.inr ⟨R5, sr M5 5 (upd (ra M5 5) (1550 + 9 * s + 8) (gi M5 25)), si (sr (sr E3 1 (upd (ra E3 1) px (nI 24))) 5 (upd (upd (ra E3 5) px (nI p)) p (nI px))) 2 (nI (px + 1)), ?_, ?_, r3, mz_tr mz3 (mz_tr (mg_mz (mg_tr f6 r5)) (mz_5 (by omega)))⟩
                    · rw [yM1, v1, e170, r2, Option.bind_some, e192]
                    · rw [fl2, v2, flE]
                      simp only [fX2_readEvenings_65, l_0, l_1, l_2, l_3, l_4, l_5, l_6, l_7, l_8, l_9, l_10, l_11, l_12, l_13, l_14, l_15, l_16, l_17, l_18, l_19, l_20, l_21, l_22, l_23, l_24, l_25, l_30, l_31, l_32, l_40, l_48, l_54, l_57, l_59, l_60, l_61, l_62, l_63, l_65, l_66, l_72, l_82, l_92, l_93, l_94, l_97, l_99, l_100, l_101, l_102, l_103, l_104, l_105, l_107, l_108, l_109, l_110, l_111, l_112, l_114, l_115, l_116, l_117, l_119, l_121, l_122, l_136, l_200, l_255, l_300, l_364, l_900, l_1000, l_1456, l_1458, l_1459, l_1460, l_1462, l_1471, l_1504, l_1510, l_1522, l_1550, l_2971, l_9999, l_10000, l_10979, l_65536, l_m1, n_10, v_semi, r1, if_true, if_false, Option.bind_some]
                · exact Or.inr ⟨R3, M3, E3, by rw [yM1, v1], by rw [fl2, v2], v3, mz_tr mz2 v4⟩
              · rw [c2, Option.bind_some] at yM1
                have b142 := b_142 (rc := fX12_readStep D) (bd_bm c3) (s := s) (by omega) 999999 (nI w) (nI 1)
                refine Or.inr ⟨R2, sr M2 5 (upd (ra M2 5) (1550 + 9 * s + 8) (gi M2 25)), si (si E1 1 (gi E1 1 + nI 1)) 2 (nI (p + 1)), by rw [yM1]; exact b142, ?_, c3, mz_tr b7 (mz_tr (mg_mz c5) (mz_5 (by omega)))⟩
                rw [fl, y2 hb w3, b1, Option.bind_some]
                simp only [fX2_readEvenings_65, l_0, l_1, l_2, l_3, l_4, l_5, l_6, l_7, l_8, l_9, l_10, l_11, l_12, l_13, l_14, l_15, l_16, l_17, l_18, l_19, l_20, l_21, l_22, l_23, l_24, l_25, l_30, l_31, l_32, l_40, l_48, l_54, l_57, l_59, l_60, l_61, l_62, l_63, l_65, l_66, l_72, l_82, l_92, l_93, l_94, l_97, l_99, l_100, l_101, l_102, l_103, l_104, l_105, l_107, l_108, l_109, l_110, l_111, l_112, l_114, l_115, l_116, l_117, l_119, l_121, l_122, l_136, l_200, l_255, l_300, l_364, l_900, l_1000, l_1456, l_1458, l_1459, l_1460, l_1462, l_1471, l_1504, l_1510, l_1522, l_1550, l_2971, l_9999, l_10000, l_10979, l_65536, l_m1, n_10, v_semi, c1, if_true, if_false, Option.bind_some]
            · have yM1 := yM M1 b3
              obtain ⟨z, z1⟩ := M_isSign (M := M1) (nI 59)
              rw [z1, Option.bind_some, b_must (bd_bm b4), Option.bind_some] at yM1
              have b142 := b_142 (rc := fX12_readStep D) (bd_bm b4) (s := s) (by omega) 999999 (nI w) (nI 1)
              rw [← y2 hb w3] at b1
              obtain ⟨E', q5⟩ := readStep_bad (B := B) (T := T) (fu := fu) (i := i) (K := fX2_readEvenings_30 B T fu) b1
              exact Or.inr ⟨R1, sr M1 5 (upd (ra M1 5) (1550 + 9 * s + 8) (gi M1 25)), E', by rw [yM1]; exact b142, by rw [fl, q5], b4, mz_tr b5 (mz_5 (by omega))⟩
          · -- a step that nests nothing
            have yM := y3 (Or.inl hb)
            rw [if_neg hb] at yM
            rcases step_body (E := E) h ht s4 (by omega) (s := s) (by omega) s2 h9 with ⟨R1, E1, M1, a1, e1, k1, wn1, b1, b3, b4, b5, b6, b7, b8, b9, b10⟩ | ⟨R1, M1, b1, b3, b4, b5⟩
            · have yM1 := yM M1 b3
              obtain ⟨z, z1, z2⟩ := rd_semi b4
              rw [z1, Option.bind_some] at yM1
              have aa := b4.2.2.1.2.2.2.2.2.2.1
              have j8 : inb (nI (1550 + 9 * s + 8)) 1820 = true := q_inT (by omega) (by omega)
              have c8' : (nI (1550 + 9 * s + 8)).toNatClampNeg = 1550 + 9 * s + 8 := nI_clamp (by omega)
              have e142 : ∀ X, fX12_readStep_142 (fX12_readStep D) FU X (nI w) (nI 0) (nI (1550 + 9 * s)) = some (sr X 5 (upd (ra X 5) (1550 + 9 * s + 8) (gi X 25))) := fun X => by
                obtain ⟨y, hy⟩ : ∃ y, FU = y + 1 := ⟨999999, rfl⟩
                rw [hy, fX12_readStep_142]
                simp only [fX12_readStep_170, fX12_readStep_192, l_0, l_1, l_2, l_3, l_4, l_5, l_6, l_7, l_8, l_9, l_10, l_11, l_12, l_13, l_14, l_15, l_16, l_17, l_18, l_19, l_20, l_21, l_22, l_23, l_24, l_25, l_30, l_31, l_32, l_40, l_48, l_54, l_57, l_59, l_60, l_61, l_62, l_63, l_65, l_66, l_72, l_82, l_92, l_93, l_94, l_97, l_99, l_100, l_101, l_102, l_103, l_104, l_105, l_107, l_108, l_109, l_110, l_111, l_112, l_114, l_115, l_116, l_117, l_119, l_121, l_122, l_136, l_200, l_255, l_300, l_364, l_900, l_1000, l_1456, l_1458, l_1459, l_1460, l_1462, l_1471, l_1504, l_1510, l_1522, l_1550, l_2971, l_9999, l_10000, l_10979, l_65536, l_m1, nI_add, j8, sa, c8', if_true]
              rcases z2 with ⟨R2, M2, a2, e2, k2, wn2, c1, c2, c3, c4, c5, c6, c7⟩ | ⟨R2, M2, c1, c2, c3, c4, c5⟩
              · rw [c2, Option.bind_some, e142] at yM1
                have g1 : gi E1 1 = nI s := by rw [b9.1 1]; exact s1
                have g0 : gi E1 0 = nI 0 := by rw [b9.1 0]; exact s8
                rw [g1, nI_add] at b1
                have m25 : gi M2 25 = nI (s + 1) := by rw [c7.1 25 (by omega)]; exact b8
                have r13 : gi R2 13 = nI w := by rw [c6.1 13 (by omega), b6.1 13 (by omega)]; exact s6
                have ra1 : ∀ j, ra R2 1 j = ra R 1 j := fun j => by
                  have q1 : ra R2 1 = ra R1 1 := congrFun (congrArg Prod.fst c6.2) 1
                  have q2 : ra R1 1 = ra R 1 := congrFun (congrArg Prod.fst b6.2) 1
                  rw [q1, q2]
                rw [m25] at yM1
                refine Or.inl ⟨R2, sr M2 5 (upd (ra M2 5) (1550 + 9 * s + 8) (nI (s + 1))), si (si E1 1 (nI (s + 1))) 2 (nI (p + 1)), a2, e2, k2, wn2, s + 1, p + 1, i + 1, fu, yM1, ?_, c3, by omega, by omega, by omega, ⟨rfl, m25, by omega, rfl, by omega, r13, by omega, g0⟩, by omega, by omega, mz_tr b7 (mz_tr (mg_mz c7) (mz_5 (by omega))), fun j _ => ra1 j, fun kk j hj => b9.2 kk j (by omega), ?_⟩
                · rw [fl, y1 hb, b1, Option.bind_some]
                  simp only [fX2_readEvenings_65, l_0, l_1, l_2, l_3, l_4, l_5, l_6, l_7, l_8, l_9, l_10, l_11, l_12, l_13, l_14, l_15, l_16, l_17, l_18, l_19, l_20, l_21, l_22, l_23, l_24, l_25, l_30, l_31, l_32, l_40, l_48, l_54, l_57, l_59, l_60, l_61, l_62, l_63, l_65, l_66, l_72, l_82, l_92, l_93, l_94, l_97, l_99, l_100, l_101, l_102, l_103, l_104, l_105, l_107, l_108, l_109, l_110, l_111, l_112, l_114, l_115, l_116, l_117, l_119, l_121, l_122, l_136, l_200, l_255, l_300, l_364, l_900, l_1000, l_1456, l_1458, l_1459, l_1460, l_1462, l_1471, l_1504, l_1510, l_1522, l_1550, l_2971, l_9999, l_10000, l_10979, l_65536, l_m1, n_10, v_semi, c1, nI_add, if_false, Option.bind_some]
                · refine Or.inl ⟨rfl, rfl, ?_, by rw [cM_j, q_ra, if_pos rfl, up_e _ _ _ rfl]⟩
                  have cs : ∀ j, j < 8 → cM (sr M2 5 (upd (ra M2 5) (1550 + 9 * s + 8) (nI (s + 1)))) (94 + 9 * s + j) = cM M1 (94 + 9 * s + j) := fun j hj => by
                    rw [cM_j, cM_j, q_ra, if_pos rfl, up_n _ _ _ (by omega), mg_ra c7]
                  rcases b10 with ⟨_, _, qS⟩ | ⟨q1, _⟩ | ⟨q1, _⟩
                  · have h0 : cM (sr M2 5 (upd (ra M2 5) (1550 + 9 * s + 8) (nI (s + 1)))) (94 + 9 * s) = cM M1 (94 + 9 * s) := cs 0 (by omega)
                    have h1 := cs 1 (by decide)
                    have h2 := cs 2 (by omega)
                    unfold ev_S at *
                    rw [h0, h1, h2]; exact qS
                  · exact absurd (Or.inr q1) hb
                  · exact absurd (Or.inl q1) hb
              · rw [c2, Option.bind_some, e142] at yM1
                refine Or.inr ⟨R2, _, si (si E1 1 (gi E1 1 + nI 1)) 2 (nI (p + 1)), yM1, ?_, c3, mz_tr b7 (mz_tr (mg_mz c5) (mz_5 (by omega)))⟩
                rw [fl, y1 hb, b1, Option.bind_some]
                simp only [fX2_readEvenings_65, l_0, l_1, l_2, l_3, l_4, l_5, l_6, l_7, l_8, l_9, l_10, l_11, l_12, l_13, l_14, l_15, l_16, l_17, l_18, l_19, l_20, l_21, l_22, l_23, l_24, l_25, l_30, l_31, l_32, l_40, l_48, l_54, l_57, l_59, l_60, l_61, l_62, l_63, l_65, l_66, l_72, l_82, l_92, l_93, l_94, l_97, l_99, l_100, l_101, l_102, l_103, l_104, l_105, l_107, l_108, l_109, l_110, l_111, l_112, l_114, l_115, l_116, l_117, l_119, l_121, l_122, l_136, l_200, l_255, l_300, l_364, l_900, l_1000, l_1456, l_1458, l_1459, l_1460, l_1462, l_1471, l_1504, l_1510, l_1522, l_1550, l_2971, l_9999, l_10000, l_10979, l_65536, l_m1, n_10, v_semi, c1, if_true, if_false, Option.bind_some]
            · have yM1 := yM M1 b3
              obtain ⟨z, z1⟩ := M_isSign (M := M1) (nI 59)
              rw [z1, Option.bind_some, b_must (bd_bm b4), Option.bind_some] at yM1
              have b142 := b_142 (rc := fX12_readStep D) (bd_bm b4) (s := s) (by omega) 999999 (nI w) (nI 0)
              rw [← y1 hb] at b1
              obtain ⟨E', q5⟩ := readStep_bad (B := B) (T := T) (fu := fu) (i := i) (K := fX2_readEvenings_30 B T fu) b1
              exact Or.inr ⟨R1, sr M1 5 (upd (ra M1 5) (1550 + 9 * s + 8) (gi M1 25)), E', by rw [yM1]; exact b142, by rw [fl, q5], b4, mz_tr b5 (mz_5 (by omega))⟩
end Q93
