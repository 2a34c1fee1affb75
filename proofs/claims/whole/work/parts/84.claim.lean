/-! a claim is read -/
section Q84
variable {R B M T : ms_T} {g t : Nat → Nat} {n a e k wn : Nat}
theorem b_116 (h : bm M) (x y z : Int32) : fX12_readClaim_116 M x y z = some M := by
  obtain ⟨f, f1, f2, f3⟩ := h
  have n0 : (nI f = nI 0) = False := q_eqF (by omega) (by omega) (by omega)
  simp only [fX12_readClaim_116, l_0, l_1, l_2, l_3, l_4, l_5, l_6, l_7, l_8, l_9, l_10, l_11, l_12, l_13, l_14, l_15, l_16, l_17, l_18, l_19, l_20, l_21, l_22, l_23, l_24, l_25, l_30, l_31, l_32, l_40, l_48, l_54, l_57, l_59, l_60, l_61, l_62, l_63, l_65, l_66, l_72, l_82, l_92, l_93, l_94, l_97, l_99, l_100, l_101, l_102, l_103, l_104, l_105, l_107, l_108, l_109, l_110, l_111, l_112, l_114, l_115, l_116, l_117, l_119, l_121, l_122, l_136, l_200, l_255, l_300, l_364, l_900, l_1000, l_1456, l_1458, l_1459, l_1460, l_1462, l_1471, l_1504, l_1510, l_1522, l_1550, l_2971, l_9999, l_10000, l_10979, l_65536, l_m1, f3, n0, if_false]
theorem b_53 (h : bm M) (f : Nat) (x y z : Int32) : fX12_readClaim_53 (f + 1) M x y z = some M := by
  have b1 := b_116 h x y z
  obtain ⟨f', f1, f2, f3⟩ := h
  have n0 : (nI f' = nI 0) = False := q_eqF (by omega) (by omega) (by omega)
  simp only [fX12_readClaim_53, l_0, l_1, l_2, l_3, l_4, l_5, l_6, l_7, l_8, l_9, l_10, l_11, l_12, l_13, l_14, l_15, l_16, l_17, l_18, l_19, l_20, l_21, l_22, l_23, l_24, l_25, l_30, l_31, l_32, l_40, l_48, l_54, l_57, l_59, l_60, l_61, l_62, l_63, l_65, l_66, l_72, l_82, l_92, l_93, l_94, l_97, l_99, l_100, l_101, l_102, l_103, l_104, l_105, l_107, l_108, l_109, l_110, l_111, l_112, l_114, l_115, l_116, l_117, l_119, l_121, l_122, l_136, l_200, l_255, l_300, l_364, l_900, l_1000, l_1456, l_1458, l_1459, l_1460, l_1462, l_1471, l_1504, l_1510, l_1522, l_1550, l_2971, l_9999, l_10000, l_10979, l_65536, l_m1, f3, n0, if_false, b1]
theorem b_101 (h : bm M) (f : Nat) (x y z u : Int32) : fX12_readClaim_101 (fX12_readClaim_53 (f + 1)) M x y z u = some M := by
  have b1 := b_must h (nI 1)
  have b3 := b_53 h f
  simp only [fX12_readClaim_101, l_0, l_1, l_2, l_3, l_4, l_5, l_6, l_7, l_8, l_9, l_10, l_11, l_12, l_13, l_14, l_15, l_16, l_17, l_18, l_19, l_20, l_21, l_22, l_23, l_24, l_25, l_30, l_31, l_32, l_40, l_48, l_54, l_57, l_59, l_60, l_61, l_62, l_63, l_65, l_66, l_72, l_82, l_92, l_93, l_94, l_97, l_99, l_100, l_101, l_102, l_103, l_104, l_105, l_107, l_108, l_109, l_110, l_111, l_112, l_114, l_115, l_116, l_117, l_119, l_121, l_122, l_136, l_200, l_255, l_300, l_364, l_900, l_1000, l_1456, l_1458, l_1459, l_1460, l_1462, l_1471, l_1504, l_1510, l_1522, l_1550, l_2971, l_9999, l_10000, l_10979, l_65536, l_m1, b1, b3, Option.bind_some]
/-- the needs, on both sides at once -/
theorem needs_loop (w : tb_W t) (hC : tb_C T t) {x pr : Int32} : ∀ d i fu1 fu2 s R M a e k wn, n ≤ a + d → i ≤ a → d < fu1 → d + 1 < fu2 → s < 2 ^ t 1 → rd B R M g n a e k wn → ra M 5 (364 * 4 + 1) = nI (t 1) → (∀ i, i < t 1 → rl T 10 (9 + i) = rl M 7 (23 * 4 + (9 + i))) →
    (∃ s' R' M' a' e' k' wn', s' < 2 ^ t 1 ∧ fX8_readNeeds_8 B T fu1 R (nI s) (nI i) = some (nI s', R') ∧ fX12_readClaim_53 fu2 M x pr (nI s) = fX12_readClaim_116 M' x pr (nI s') ∧ rd B R' M' g n a' e' k' wn' ∧ a ≤ a' ∧ rg R R' ∧ mg M M') ∨
    (∃ R' M', fX8_readNeeds_8 B T fu1 R (nI s) (nI i) = some (nM, R') ∧ fX12_readClaim_53 fu2 M x pr (nI s) = some M' ∧ bd R' M' ∧ rg R R' ∧ mg M M') ∨
    (∃ s' R' M' R'', fX8_readNeeds_8 B T fu1 R (nI s) (nI i) = some (nI s', R') ∧ s' < 2 ^ t 1 ∧ fX12_readClaim_53 fu2 M x pr (nI s) = some M' ∧ fX4_passSemicolonT R' B = some (nI 0, R'') ∧ bd R'' M' ∧ mg M M') := by
  have w1 := w.2.1
  have h2 := hC.2.2.1
  intro d
  induction d with
  | zero =>
    intro i fu1 fu2 s R M a e k wn hd hi hf1 hf2 hs h hc hr
    obtain ⟨fu1, rfl⟩ : ∃ y, fu1 = y + 1 := ⟨fu1 - 1, by omega⟩
    obtain ⟨fu2, rfl⟩ : ∃ y, fu2 = y + 1 := ⟨fu2 - 1, by omega⟩
    obtain ⟨t1, t2, t3, t4, t5, t6, t7, t8, t9, t10, t11, t12⟩ := h.2.2.1
    have n9 := h.2.1
    have e4 := h.2.2.2.2.2.2.2.1
    have k0 : k = 0 := by
      rcases Nat.eq_zero_or_pos k with q | q
      · exact q
      · have := t11 (by omega); omega
    subst k0
    obtain ⟨bb, n1, n2, n3, n4⟩ := rd_name h
    have bf : bb = false := by
      cases bb
      · rfl
      · have := (n3 rfl).1; omega
    subst bf
    have lt9 : (nI 900 < nI i) = False := q_ltF (by omega) (by omega)
    have n01 : (nI 0 = nI 1) = False := q_eqF (by omega) (by omega) (by omega)
    refine Or.inl ⟨s, R, M, a, e, 0, wn, hs, ?_, ?_, h, Nat.le_refl _, rg_id R, mg_id M⟩
    · simp only [fX8_readNeeds_8, l_0, l_1, l_2, l_3, l_4, l_5, l_6, l_7, l_8, l_9, l_10, l_11, l_12, l_13, l_14, l_15, l_16, l_17, l_18, l_19, l_20, l_21, l_22, l_23, l_24, l_25, l_30, l_31, l_32, l_40, l_48, l_54, l_57, l_59, l_60, l_61, l_62, l_63, l_65, l_66, l_72, l_82, l_92, l_93, l_94, l_97, l_99, l_100, l_101, l_102, l_103, l_104, l_105, l_107, l_108, l_109, l_110, l_111, l_112, l_114, l_115, l_116, l_117, l_119, l_121, l_122, l_136, l_200, l_255, l_300, l_364, l_900, l_1000, l_1456, l_1458, l_1459, l_1460, l_1462, l_1471, l_1504, l_1510, l_1522, l_1550, l_2971, l_9999, l_10000, l_10979, l_65536, l_m1, lt9, n1, bi, b2_0, if_true, if_false, Option.bind_some]
    · simp only [fX12_readClaim_53, l_0, l_1, l_2, l_3, l_4, l_5, l_6, l_7, l_8, l_9, l_10, l_11, l_12, l_13, l_14, l_15, l_16, l_17, l_18, l_19, l_20, l_21, l_22, l_23, l_24, l_25, l_30, l_31, l_32, l_40, l_48, l_54, l_57, l_59, l_60, l_61, l_62, l_63, l_65, l_66, l_72, l_82, l_92, l_93, l_94, l_97, l_99, l_100, l_101, l_102, l_103, l_104, l_105, l_107, l_108, l_109, l_110, l_111, l_112, l_114, l_115, l_116, l_117, l_119, l_121, l_122, l_136, l_200, l_255, l_300, l_364, l_900, l_1000, l_1456, l_1458, l_1459, l_1460, l_1462, l_1471, l_1504, l_1510, l_1522, l_1550, l_2971, l_9999, l_10000, l_10979, l_65536, l_m1, e4, t10, n01, if_true, if_false]
  | succ d ih =>
    intro i fu1 fu2 s R M a e k wn hd hi hf1 hf2 hs h hc hr
    obtain ⟨fu1, rfl⟩ : ∃ y, fu1 = y + 1 := ⟨fu1 - 1, by omega⟩
    obtain ⟨fu2, rfl⟩ : ∃ y, fu2 = y + 1 + 1 := ⟨fu2 - 2, by omega⟩
    obtain ⟨t1, t2, t3, t4, t5, t6, t7, t8, t9, t10, t11, t12⟩ := h.2.2.1
    have n9 := h.2.1
    have e4 := h.2.2.2.2.2.2.2.1
    have k4 : k ≤ 4 := by rcases t12 with q | q | q | q | q <;> omega
    have lt9 : (nI 900 < nI i) = False := q_ltF (by omega) (by omega)
    obtain ⟨bb, n1, n2, n3, n4⟩ := rd_name h
    cases bb
    · by_cases c : k = 1
      · subst c
        obtain ⟨R', M', q1, q2, q3, q4, q5⟩ := rd_amiss h
        have hb := bd_bm q3
        have n13 : (nI 1 = nI 3) = False := q_eqF (by omega) (by omega) (by omega)
        refine Or.inr (Or.inr ⟨s, R, M', R', ?_, hs, ?_, ?_, q3, q5⟩)
        · simp only [fX8_readNeeds_8, l_0, l_1, l_2, l_3, l_4, l_5, l_6, l_7, l_8, l_9, l_10, l_11, l_12, l_13, l_14, l_15, l_16, l_17, l_18, l_19, l_20, l_21, l_22, l_23, l_24, l_25, l_30, l_31, l_32, l_40, l_48, l_54, l_57, l_59, l_60, l_61, l_62, l_63, l_65, l_66, l_72, l_82, l_92, l_93, l_94, l_97, l_99, l_100, l_101, l_102, l_103, l_104, l_105, l_107, l_108, l_109, l_110, l_111, l_112, l_114, l_115, l_116, l_117, l_119, l_121, l_122, l_136, l_200, l_255, l_300, l_364, l_900, l_1000, l_1456, l_1458, l_1459, l_1460, l_1462, l_1471, l_1504, l_1510, l_1522, l_1550, l_2971, l_9999, l_10000, l_10979, l_65536, l_m1, lt9, n1, bi, b2_0, if_true, if_false, Option.bind_some]
        · have tl : fX12_told M (nI 4) (nI 1) = some (nI 0, M') := by
            have b2' : fX12_told_18 M' (nI 4) (nI 1) = some (nI 0, M') := by
              obtain ⟨f, f1, f2, f3⟩ := hb
              have nle : (nI f ≤ nI 0) = False := q_leF (by omega) (by omega)
              simp only [fX12_told_18, f3, l_0, l_1, l_2, l_3, l_4, l_5, l_6, l_7, l_8, l_9, l_10, l_11, l_12, l_13, l_14, l_15, l_16, l_17, l_18, l_19, l_20, l_21, l_22, l_23, l_24, l_25, l_30, l_31, l_32, l_40, l_48, l_54, l_57, l_59, l_60, l_61, l_62, l_63, l_65, l_66, l_72, l_82, l_92, l_93, l_94, l_97, l_99, l_100, l_101, l_102, l_103, l_104, l_105, l_107, l_108, l_109, l_110, l_111, l_112, l_114, l_115, l_116, l_117, l_119, l_121, l_122, l_136, l_200, l_255, l_300, l_364, l_900, l_1000, l_1456, l_1458, l_1459, l_1460, l_1462, l_1471, l_1504, l_1510, l_1522, l_1550, l_2971, l_9999, l_10000, l_10979, l_65536, l_m1, nle, if_false]
            simp only [fX12_told, e4, n2, q2, b2', bi, b2_0, l_0, l_1, l_2, l_3, l_4, l_5, l_6, l_7, l_8, l_9, l_10, l_11, l_12, l_13, l_14, l_15, l_16, l_17, l_18, l_19, l_20, l_21, l_22, l_23, l_24, l_25, l_30, l_31, l_32, l_40, l_48, l_54, l_57, l_59, l_60, l_61, l_62, l_63, l_65, l_66, l_72, l_82, l_92, l_93, l_94, l_97, l_99, l_100, l_101, l_102, l_103, l_104, l_105, l_107, l_108, l_109, l_110, l_111, l_112, l_114, l_115, l_116, l_117, l_119, l_121, l_122, l_136, l_200, l_255, l_300, l_364, l_900, l_1000, l_1456, l_1458, l_1459, l_1460, l_1462, l_1471, l_1504, l_1510, l_1522, l_1550, l_2971, l_9999, l_10000, l_10979, l_65536, l_m1, if_true, Option.bind_some]
          have b1 := b_101 hb fu2
          obtain ⟨f, f1, f2, f3⟩ := hb
          have n0 : (nI f = nI 0) = False := q_eqF (by omega) (by omega) (by omega)
          rw [fX12_readClaim_53]
          simp only [l_0, l_1, l_2, l_3, l_4, l_5, l_6, l_7, l_8, l_9, l_10, l_11, l_12, l_13, l_14, l_15, l_16, l_17, l_18, l_19, l_20, l_21, l_22, l_23, l_24, l_25, l_30, l_31, l_32, l_40, l_48, l_54, l_57, l_59, l_60, l_61, l_62, l_63, l_65, l_66, l_72, l_82, l_92, l_93, l_94, l_97, l_99, l_100, l_101, l_102, l_103, l_104, l_105, l_107, l_108, l_109, l_110, l_111, l_112, l_114, l_115, l_116, l_117, l_119, l_121, l_122, l_136, l_200, l_255, l_300, l_364, l_900, l_1000, l_1456, l_1458, l_1459, l_1460, l_1462, l_1471, l_1504, l_1510, l_1522, l_1550, l_2971, l_9999, l_10000, l_10979, l_65536, l_m1, e4, t10, tl, f3, n0, b1, if_true, if_false, Option.bind_some]
        · simp only [fX4_passSemicolonT, fX4_passSemicolonT_17, t9, n13, q1, q_z0, l_0, l_1, l_2, l_3, l_4, l_5, l_6, l_7, l_8, l_9, l_10, l_11, l_12, l_13, l_14, l_15, l_16, l_17, l_18, l_19, l_20, l_21, l_22, l_23, l_24, l_25, l_30, l_31, l_32, l_40, l_48, l_54, l_57, l_59, l_60, l_61, l_62, l_63, l_65, l_66, l_72, l_82, l_92, l_93, l_94, l_97, l_99, l_100, l_101, l_102, l_103, l_104, l_105, l_107, l_108, l_109, l_110, l_111, l_112, l_114, l_115, l_116, l_117, l_119, l_121, l_122, l_136, l_200, l_255, l_300, l_364, l_900, l_1000, l_1456, l_1458, l_1459, l_1460, l_1462, l_1471, l_1504, l_1510, l_1522, l_1550, l_2971, l_9999, l_10000, l_10979, l_65536, l_m1, if_true, if_false, Option.bind_some]
      · have n01 : (nI k = nI 1) = False := q_eqF c (by omega) (by omega)
        refine Or.inl ⟨s, R, M, a, e, k, wn, hs, ?_, ?_, h, Nat.le_refl _, rg_id R, mg_id M⟩
        · simp only [fX8_readNeeds_8, l_0, l_1, l_2, l_3, l_4, l_5, l_6, l_7, l_8, l_9, l_10, l_11, l_12, l_13, l_14, l_15, l_16, l_17, l_18, l_19, l_20, l_21, l_22, l_23, l_24, l_25, l_30, l_31, l_32, l_40, l_48, l_54, l_57, l_59, l_60, l_61, l_62, l_63, l_65, l_66, l_72, l_82, l_92, l_93, l_94, l_97, l_99, l_100, l_101, l_102, l_103, l_104, l_105, l_107, l_108, l_109, l_110, l_111, l_112, l_114, l_115, l_116, l_117, l_119, l_121, l_122, l_136, l_200, l_255, l_300, l_364, l_900, l_1000, l_1456, l_1458, l_1459, l_1460, l_1462, l_1471, l_1504, l_1510, l_1522, l_1550, l_2971, l_9999, l_10000, l_10979, l_65536, l_m1, lt9, n1, bi, b2_0, if_true, if_false, Option.bind_some]
        · rw [fX12_readClaim_53]
          simp only [l_0, l_1, l_2, l_3, l_4, l_5, l_6, l_7, l_8, l_9, l_10, l_11, l_12, l_13, l_14, l_15, l_16, l_17, l_18, l_19, l_20, l_21, l_22, l_23, l_24, l_25, l_30, l_31, l_32, l_40, l_48, l_54, l_57, l_59, l_60, l_61, l_62, l_63, l_65, l_66, l_72, l_82, l_92, l_93, l_94, l_97, l_99, l_100, l_101, l_102, l_103, l_104, l_105, l_107, l_108, l_109, l_110, l_111, l_112, l_114, l_115, l_116, l_117, l_119, l_121, l_122, l_136, l_200, l_255, l_300, l_364, l_900, l_1000, l_1456, l_1458, l_1459, l_1460, l_1462, l_1471, l_1504, l_1510, l_1522, l_1550, l_2971, l_9999, l_10000, l_10979, l_65536, l_m1, e4, t10, n01, if_true, if_false]
    · obtain ⟨c1, c2, c3, c4, c5⟩ := n3 rfl
      subst c1
      have nmm : (nM = nM) = True := eq_self _
      rcases rd_told (T := T) h (b := 4) (s := 1) (cnt := t 1) (by omega) (by omega) (by show 9 + t 1 ≤ 23; omega) hc (fun i hi => hr i hi) with ⟨y, y0, y1, y2, y3, y4⟩ | ⟨R', M', y3, y4, y5, y6, y7⟩
      · have nf1 : nfr 1 = 9 := rfl
        rw [nf1] at y3
        have ym : (nI y = nM) = False := q_mne2 (by omega)
        have p8 : (2 : Nat) ^ t 1 ≤ 2 ^ 8 := Nat.pow_le_pow_right (by decide) w1
        have hs2 : s < 2147483648 := by omega
        have eb := q_bit (a := s) (k := y) hs2 (by omega)
        have eh := N_has (x := s) (k := y) hs2 (by omega)
        cases hb : s.testBit y
        · rw [hb] at eb eh
          obtain ⟨R1, M1, a1, e1, k1, wn1, p1, p2, p3, p4, p5, p6⟩ := rd_adv h
          have m1 := k_must1 e4
          rw [p2] at m1
          have ys : (2 : Nat) ^ y < 2 ^ t 1 := Nat.pow_lt_pow_right (by decide) y0
          have hs' : s ||| 2 ^ y < 2 ^ t 1 := Nat.or_lt_two_pow hs ys
          have es : nI s ||| ((nI 1) <<< (nI y &&& nI 31)) = nI (s ||| 2 ^ y) := by
            rw [q_shl (by omega) (by omega), q_or, Nat.one_mul]
          have nx := ih (i + 1) fu1 (fu2 + 1) (s ||| 2 ^ y) R1 M1 a1 e1 k1 wn1 (by omega) (by omega) (by omega) (by omega) hs' p3 (by rw [mg_ra p6]; exact hc) (fun i hi => by rw [mg_rl p6]; exact hr i hi)
          have cC : fX8_readNeeds_8 B T (fu1 + 1) R (nI s) (nI i) = fX8_readNeeds_8 B T fu1 R1 (nI (s ||| 2 ^ y)) (nI (i + 1)) := by
            rw [fX8_readNeeds_8]
            simp only [fX4_claimNamedT, h2, l_0, l_1, l_2, l_3, l_4, l_5, l_6, l_7, l_8, l_9, l_10, l_11, l_12, l_13, l_14, l_15, l_16, l_17, l_18, l_19, l_20, l_21, l_22, l_23, l_24, l_25, l_30, l_31, l_32, l_40, l_48, l_54, l_57, l_59, l_60, l_61, l_62, l_63, l_65, l_66, l_72, l_82, l_92, l_93, l_94, l_97, l_99, l_100, l_101, l_102, l_103, l_104, l_105, l_107, l_108, l_109, l_110, l_111, l_112, l_114, l_115, l_116, l_117, l_119, l_121, l_122, l_136, l_200, l_255, l_300, l_364, l_900, l_1000, l_1456, l_1458, l_1459, l_1460, l_1462, l_1471, l_1504, l_1510, l_1522, l_1550, l_2971, l_9999, l_10000, l_10979, l_65536, l_m1, lt9, n1, bi, b2_1, n_10, y3, ym, eb, b2_0, p1, es, nI_add, if_true, if_false, Option.bind_some]
          have cM : fX12_readClaim_53 (fu2 + 1 + 1) M x pr (nI s) = fX12_readClaim_53 (fu2 + 1) M1 x pr (nI (s ||| 2 ^ y)) := by
            rw [fX12_readClaim_53]
            simp only [fX12_readClaim_101, l_0, l_1, l_2, l_3, l_4, l_5, l_6, l_7, l_8, l_9, l_10, l_11, l_12, l_13, l_14, l_15, l_16, l_17, l_18, l_19, l_20, l_21, l_22, l_23, l_24, l_25, l_30, l_31, l_32, l_40, l_48, l_54, l_57, l_59, l_60, l_61, l_62, l_63, l_65, l_66, l_72, l_82, l_92, l_93, l_94, l_97, l_99, l_100, l_101, l_102, l_103, l_104, l_105, l_107, l_108, l_109, l_110, l_111, l_112, l_114, l_115, l_116, l_117, l_119, l_121, l_122, l_136, l_200, l_255, l_300, l_364, l_900, l_1000, l_1456, l_1458, l_1459, l_1460, l_1462, l_1471, l_1504, l_1510, l_1522, l_1550, l_2971, l_9999, l_10000, l_10979, l_65536, l_m1, e4, t10, y4, eh, bi, b2_0, m1, es, if_true, Option.bind_some]
          rw [cC, cM]
          rcases nx with ⟨s', R', M', a', e', k', wn', v1, v2, v3, v4, v5, v6, v7⟩ | ⟨R', M', v2, v3, v4, v5, v6⟩ | ⟨s', R', M', R'', v2, v1, v3, v4, v5, v6⟩
          · exact Or.inl ⟨s', R', M', a', e', k', wn', v1, v2, v3, v4, by omega, rg_tr p5 v6, mg_tr p6 v7⟩
          · exact Or.inr (Or.inl ⟨R', M', v2, v3, v4, rg_tr p5 v5, mg_tr p6 v6⟩)
          · exact Or.inr (Or.inr ⟨s', R', M', R'', v2, v1, v3, v4, v5, mg_tr p6 v6⟩)
        · rw [hb] at eb eh
          obtain ⟨R', M', q1, q2, q3, q4, q5⟩ := rd_fail h (f := 5) (by omega) (by omega) (by omega)
          refine Or.inr (Or.inl ⟨R', M', ?_, ?_, q3, q4, q5⟩)
          · rw [fX8_readNeeds_8]
            simp only [fX4_claimNamedT, h2, l_0, l_1, l_2, l_3, l_4, l_5, l_6, l_7, l_8, l_9, l_10, l_11, l_12, l_13, l_14, l_15, l_16, l_17, l_18, l_19, l_20, l_21, l_22, l_23, l_24, l_25, l_30, l_31, l_32, l_40, l_48, l_54, l_57, l_59, l_60, l_61, l_62, l_63, l_65, l_66, l_72, l_82, l_92, l_93, l_94, l_97, l_99, l_100, l_101, l_102, l_103, l_104, l_105, l_107, l_108, l_109, l_110, l_111, l_112, l_114, l_115, l_116, l_117, l_119, l_121, l_122, l_136, l_200, l_255, l_300, l_364, l_900, l_1000, l_1456, l_1458, l_1459, l_1460, l_1462, l_1471, l_1504, l_1510, l_1522, l_1550, l_2971, l_9999, l_10000, l_10979, l_65536, l_m1, lt9, n1, bi, b2_1, n_10, y3, ym, eb, q1, if_true, if_false, Option.bind_some]
          · have b1 := b_101 (bd_bm q3) fu2
            rw [fX12_readClaim_53]
            simp only [l_0, l_1, l_2, l_3, l_4, l_5, l_6, l_7, l_8, l_9, l_10, l_11, l_12, l_13, l_14, l_15, l_16, l_17, l_18, l_19, l_20, l_21, l_22, l_23, l_24, l_25, l_30, l_31, l_32, l_40, l_48, l_54, l_57, l_59, l_60, l_61, l_62, l_63, l_65, l_66, l_72, l_82, l_92, l_93, l_94, l_97, l_99, l_100, l_101, l_102, l_103, l_104, l_105, l_107, l_108, l_109, l_110, l_111, l_112, l_114, l_115, l_116, l_117, l_119, l_121, l_122, l_136, l_200, l_255, l_300, l_364, l_900, l_1000, l_1456, l_1458, l_1459, l_1460, l_1462, l_1471, l_1504, l_1510, l_1522, l_1550, l_2971, l_9999, l_10000, l_10979, l_65536, l_m1, e4, t10, y4, eh, bi, b2_1, n_10, q2, b1, if_true, if_false, Option.bind_some]
      · have nf1 : nfr 1 = 9 := rfl
        rw [nf1] at y3
        refine Or.inr (Or.inl ⟨R', M', ?_, ?_, y5, y6, y7⟩)
        · rw [fX8_readNeeds_8]
          simp only [fX4_claimNamedT, h2, l_0, l_1, l_2, l_3, l_4, l_5, l_6, l_7, l_8, l_9, l_10, l_11, l_12, l_13, l_14, l_15, l_16, l_17, l_18, l_19, l_20, l_21, l_22, l_23, l_24, l_25, l_30, l_31, l_32, l_40, l_48, l_54, l_57, l_59, l_60, l_61, l_62, l_63, l_65, l_66, l_72, l_82, l_92, l_93, l_94, l_97, l_99, l_100, l_101, l_102, l_103, l_104, l_105, l_107, l_108, l_109, l_110, l_111, l_112, l_114, l_115, l_116, l_117, l_119, l_121, l_122, l_136, l_200, l_255, l_300, l_364, l_900, l_1000, l_1456, l_1458, l_1459, l_1460, l_1462, l_1471, l_1504, l_1510, l_1522, l_1550, l_2971, l_9999, l_10000, l_10979, l_65536, l_m1, lt9, n1, bi, b2_1, n_10, y3, nmm, if_true, if_false, Option.bind_some]
        · have b1 := b_101 (bd_bm y5) fu2
          obtain ⟨f, f1, f2, f3⟩ := bd_bm y5
          have n0 : (nI f = nI 0) = False := q_eqF (by omega) (by omega) (by omega)
          rw [fX12_readClaim_53]
          simp only [l_0, l_1, l_2, l_3, l_4, l_5, l_6, l_7, l_8, l_9, l_10, l_11, l_12, l_13, l_14, l_15, l_16, l_17, l_18, l_19, l_20, l_21, l_22, l_23, l_24, l_25, l_30, l_31, l_32, l_40, l_48, l_54, l_57, l_59, l_60, l_61, l_62, l_63, l_65, l_66, l_72, l_82, l_92, l_93, l_94, l_97, l_99, l_100, l_101, l_102, l_103, l_104, l_105, l_107, l_108, l_109, l_110, l_111, l_112, l_114, l_115, l_116, l_117, l_119, l_121, l_122, l_136, l_200, l_255, l_300, l_364, l_900, l_1000, l_1456, l_1458, l_1459, l_1460, l_1462, l_1471, l_1504, l_1510, l_1522, l_1550, l_2971, l_9999, l_10000, l_10979, l_65536, l_m1, e4, t10, y4, f3, n0, b1, if_true, if_false, Option.bind_some]
end Q84
