/-! evenings: steps within steps -/
section Q92
variable {R B M T E : ms_T} {g t : Nat → Nat} {n a e k wn p s w : Nat}
theorem step_yes (h : rd B R M g n a e k wn) (he : es R M E s p w) {D : Nat} (h9 : stw wn ≠ 9) (h30 : s ≠ 30) :
    (¬ (wn = 19 ∨ wn = 23) → fX2_readStep R B T E = fX2_readStep_129 B T R E) ∧ ((wn = 19 ∨ wn = 23) → w < 3 → fX2_readStep R B T E = fX2_readStep_129 B T (si (sr R 1 (upd (ra R 1) w (nI p))) 13 (nI (w + 1))) E) ∧
    (¬ (wn = 19 ∨ wn = 23) ∨ w < 3 → ∀ M', ((fX12_advance (si M 25 (nI (s + 1)))).bind fun z2 => fX12_readRest (sa z2 5 (nI (1550 + 9 * s)) (nI (stw wn))) (nI (1550 + 9 * s))) = some M' → fX12_readStep (D + 1) M (nI w) = (fX12_isSign M' (nI 59)).bind fun z5 => (fX12_must M' z5).bind fun z6 => fX12_readStep_142 (fX12_readStep D) FU z6 (nI w) (if wn = 19 ∨ wn = 23 then nI 1 else nI 0) (nI (1550 + 9 * s))) := by
  have hw := h.2.2.2.1
  have e3 := h.2.2.2.2.1
  have e4 := h.2.2.2.2.2.2.2.1
  have sw := M_stepWord h.2.2.2.2.2.1 hw
  obtain ⟨s1, s2, s3, s4, s5, s6, s7, s8⟩ := he
  have x19 := wnI_eq (wn := wn) (j := 19) hw (by omega)
  have x23 := wnI_eq (wn := wn) (j := 23) hw (by omega)
  have x25 := wnI_eq (wn := wn) (j := 25) hw (by omega)
  have n30 : (nI s = nI 30) = False := q_eqF h30 (by omega) (by omega)
  have st8 : stw wn ≤ 9 := by unfold stw; split <;> (try split) <;> (try split) <;> omega
  have bl : (stw wn = 6 ∨ stw wn = 7) ↔ (wn = 19 ∨ wn = 23) := by
    unfold stw at h9 ⊢
    split
    · omega
    · split
      · omega
      · split <;> omega
  refine ⟨fun nb => ?_, fun hb w3 => ?_, fun hnb M' hM' => ?_⟩
  · have y19 : (wnI wn = nI 19) = False := by rw [x19]; exact eq_false (by omega)
    have y23 : (wnI wn = nI 23) = False := by rw [x23]; exact eq_false (by omega)
    have c61 : fX2_readStep_61 B T R E (nI 0) = fX2_readStep_129 B T R E := by
      simp only [fX2_readStep_61, fX2_readStep_99, s1, n30, l_0, l_1, l_2, l_3, l_4, l_5, l_6, l_7, l_8, l_9, l_10, l_11, l_12, l_13, l_14, l_15, l_16, l_17, l_18, l_19, l_20, l_21, l_22, l_23, l_24, l_25, l_30, l_31, l_32, l_40, l_48, l_54, l_57, l_59, l_60, l_61, l_62, l_63, l_65, l_66, l_72, l_82, l_92, l_93, l_94, l_97, l_99, l_100, l_101, l_102, l_103, l_104, l_105, l_107, l_108, l_109, l_110, l_111, l_112, l_114, l_115, l_116, l_117, l_119, l_121, l_122, l_136, l_200, l_255, l_300, l_364, l_900, l_1000, l_1456, l_1458, l_1459, l_1460, l_1462, l_1471, l_1504, l_1510, l_1522, l_1550, l_2971, l_9999, l_10000, l_10979, l_65536, l_m1, if_true, if_false]
    unfold fX2_readStep
    simp only [l_0, l_1, l_2, l_3, l_4, l_5, l_6, l_7, l_8, l_9, l_10, l_11, l_12, l_13, l_14, l_15, l_16, l_17, l_18, l_19, l_20, l_21, l_22, l_23, l_24, l_25, l_30, l_31, l_32, l_40, l_48, l_54, l_57, l_59, l_60, l_61, l_62, l_63, l_65, l_66, l_72, l_82, l_92, l_93, l_94, l_97, l_99, l_100, l_101, l_102, l_103, l_104, l_105, l_107, l_108, l_109, l_110, l_111, l_112, l_114, l_115, l_116, l_117, l_119, l_121, l_122, l_136, l_200, l_255, l_300, l_364, l_900, l_1000, l_1456, l_1458, l_1459, l_1460, l_1462, l_1471, l_1504, l_1510, l_1522, l_1550, l_2971, l_9999, l_10000, l_10979, l_65536, l_m1, e3, y19, y23, if_false]
    unfold fX2_readStep_23
    by_cases n25 : wn = 25
    · have y25 : (wnI wn = nI 25) = True := by rw [x25]; exact eq_true n25
      simp only [l_0, l_1, l_2, l_3, l_4, l_5, l_6, l_7, l_8, l_9, l_10, l_11, l_12, l_13, l_14, l_15, l_16, l_17, l_18, l_19, l_20, l_21, l_22, l_23, l_24, l_25, l_30, l_31, l_32, l_40, l_48, l_54, l_57, l_59, l_60, l_61, l_62, l_63, l_65, l_66, l_72, l_82, l_92, l_93, l_94, l_97, l_99, l_100, l_101, l_102, l_103, l_104, l_105, l_107, l_108, l_109, l_110, l_111, l_112, l_114, l_115, l_116, l_117, l_119, l_121, l_122, l_136, l_200, l_255, l_300, l_364, l_900, l_1000, l_1456, l_1458, l_1459, l_1460, l_1462, l_1471, l_1504, l_1510, l_1522, l_1550, l_2971, l_9999, l_10000, l_10979, l_65536, l_m1, e3, y25, if_true, c61]
    · have y25 : (wnI wn = nI 25) = False := by rw [x25]; exact eq_false n25
      have ew : wnI wn = nI wn := by unfold wnI; rw [if_neg (fun q => h9 (by rw [q]; decide))]
      have rng : 13 ≤ wn ∧ wn ≤ 18 := by
        refine Classical.byContradiction (fun q => h9 ?_)
        unfold stw; rw [if_neg (by omega), if_neg (by omega), if_neg n25]
      simp only [l_0, l_1, l_2, l_3, l_4, l_5, l_6, l_7, l_8, l_9, l_10, l_11, l_12, l_13, l_14, l_15, l_16, l_17, l_18, l_19, l_20, l_21, l_22, l_23, l_24, l_25, l_30, l_31, l_32, l_40, l_48, l_54, l_57, l_59, l_60, l_61, l_62, l_63, l_65, l_66, l_72, l_82, l_92, l_93, l_94, l_97, l_99, l_100, l_101, l_102, l_103, l_104, l_105, l_107, l_108, l_109, l_110, l_111, l_112, l_114, l_115, l_116, l_117, l_119, l_121, l_122, l_136, l_200, l_255, l_300, l_364, l_900, l_1000, l_1456, l_1458, l_1459, l_1460, l_1462, l_1471, l_1504, l_1510, l_1522, l_1550, l_2971, l_9999, l_10000, l_10979, l_65536, l_m1, e3, y25, if_true, if_false]
      rw [ew, if_neg (nI_nlt rng.1 (by omega)), if_pos (nI_le rng.2 (by omega)), c61]
  · have n3 : (nI w = nI 3) = False := q_eqF (by omega) (by omega) (by omega)
    have iw : inb (nI w) 3 = true := q_inT w3 (by omega)
    have cw : (nI w).toNatClampNeg = w := nI_clamp (by omega)
    have c61 : fX2_readStep_61 B T R E (nI 1) = fX2_readStep_129 B T (si (sr R 1 (upd (ra R 1) w (nI p))) 13 (nI (w + 1))) E := by
      simp only [fX2_readStep_61, fX2_readStep_99, s1, n30, s6, n3, n_10, iw, cw, s4, sa, q_gir, nI_add, l_0, l_1, l_2, l_3, l_4, l_5, l_6, l_7, l_8, l_9, l_10, l_11, l_12, l_13, l_14, l_15, l_16, l_17, l_18, l_19, l_20, l_21, l_22, l_23, l_24, l_25, l_30, l_31, l_32, l_40, l_48, l_54, l_57, l_59, l_60, l_61, l_62, l_63, l_65, l_66, l_72, l_82, l_92, l_93, l_94, l_97, l_99, l_100, l_101, l_102, l_103, l_104, l_105, l_107, l_108, l_109, l_110, l_111, l_112, l_114, l_115, l_116, l_117, l_119, l_121, l_122, l_136, l_200, l_255, l_300, l_364, l_900, l_1000, l_1456, l_1458, l_1459, l_1460, l_1462, l_1471, l_1504, l_1510, l_1522, l_1550, l_2971, l_9999, l_10000, l_10979, l_65536, l_m1, if_true, if_false]
    unfold fX2_readStep
    by_cases n19 : wn = 19
    · have y19 : (wnI wn = nI 19) = True := by rw [x19]; exact eq_true n19
      simp only [l_0, l_1, l_2, l_3, l_4, l_5, l_6, l_7, l_8, l_9, l_10, l_11, l_12, l_13, l_14, l_15, l_16, l_17, l_18, l_19, l_20, l_21, l_22, l_23, l_24, l_25, l_30, l_31, l_32, l_40, l_48, l_54, l_57, l_59, l_60, l_61, l_62, l_63, l_65, l_66, l_72, l_82, l_92, l_93, l_94, l_97, l_99, l_100, l_101, l_102, l_103, l_104, l_105, l_107, l_108, l_109, l_110, l_111, l_112, l_114, l_115, l_116, l_117, l_119, l_121, l_122, l_136, l_200, l_255, l_300, l_364, l_900, l_1000, l_1456, l_1458, l_1459, l_1460, l_1462, l_1471, l_1504, l_1510, l_1522, l_1550, l_2971, l_9999, l_10000, l_10979, l_65536, l_m1, e3, y19, if_true]
      simp only [fX2_readStep_23, l_0, l_1, l_2, l_3, l_4, l_5, l_6, l_7, l_8, l_9, l_10, l_11, l_12, l_13, l_14, l_15, l_16, l_17, l_18, l_19, l_20, l_21, l_22, l_23, l_24, l_25, l_30, l_31, l_32, l_40, l_48, l_54, l_57, l_59, l_60, l_61, l_62, l_63, l_65, l_66, l_72, l_82, l_92, l_93, l_94, l_97, l_99, l_100, l_101, l_102, l_103, l_104, l_105, l_107, l_108, l_109, l_110, l_111, l_112, l_114, l_115, l_116, l_117, l_119, l_121, l_122, l_136, l_200, l_255, l_300, l_364, l_900, l_1000, l_1456, l_1458, l_1459, l_1460, l_1462, l_1471, l_1504, l_1510, l_1522, l_1550, l_2971, l_9999, l_10000, l_10979, l_65536, l_m1, n_10, if_false, c61]
    · have y19 : (wnI wn = nI 19) = False := by rw [x19]; exact eq_false n19
      have y23 : (wnI wn = nI 23) = True := by rw [x23]; exact eq_true (by omega)
      simp only [l_0, l_1, l_2, l_3, l_4, l_5, l_6, l_7, l_8, l_9, l_10, l_11, l_12, l_13, l_14, l_15, l_16, l_17, l_18, l_19, l_20, l_21, l_22, l_23, l_24, l_25, l_30, l_31, l_32, l_40, l_48, l_54, l_57, l_59, l_60, l_61, l_62, l_63, l_65, l_66, l_72, l_82, l_92, l_93, l_94, l_97, l_99, l_100, l_101, l_102, l_103, l_104, l_105, l_107, l_108, l_109, l_110, l_111, l_112, l_114, l_115, l_116, l_117, l_119, l_121, l_122, l_136, l_200, l_255, l_300, l_364, l_900, l_1000, l_1456, l_1458, l_1459, l_1460, l_1462, l_1471, l_1504, l_1510, l_1522, l_1550, l_2971, l_9999, l_10000, l_10979, l_65536, l_m1, e3, y19, y23, if_true, if_false]
      simp only [fX2_readStep_23, l_0, l_1, l_2, l_3, l_4, l_5, l_6, l_7, l_8, l_9, l_10, l_11, l_12, l_13, l_14, l_15, l_16, l_17, l_18, l_19, l_20, l_21, l_22, l_23, l_24, l_25, l_30, l_31, l_32, l_40, l_48, l_54, l_57, l_59, l_60, l_61, l_62, l_63, l_65, l_66, l_72, l_82, l_92, l_93, l_94, l_97, l_99, l_100, l_101, l_102, l_103, l_104, l_105, l_107, l_108, l_109, l_110, l_111, l_112, l_114, l_115, l_116, l_117, l_119, l_121, l_122, l_136, l_200, l_255, l_300, l_364, l_900, l_1000, l_1456, l_1458, l_1459, l_1460, l_1462, l_1471, l_1504, l_1510, l_1522, l_1550, l_2971, l_9999, l_10000, l_10979, l_65536, l_m1, n_10, if_false, c61]
  · cases hadv : fX12_advance (si M 25 (nI (s + 1))) with
    | none => rw [hadv] at hM'; cases hM'
    | some z2 =>
      rw [hadv, Option.bind_some] at hM'
      have le0 : (nI 0 ≤ nI (stw wn)) = True := q_leT (by omega) (by omega)
      have le00 : (nI 0 ≤ nI 0) = True := q_leT (by omega) (by omega)
      have j0 : inb (nI (1550 + 9 * s)) 1820 = true := q_inT (by omega) (by omega)
      have go : ∀ v, fX12_readStep_83 (fX12_readStep D) M (nI w) (nI (stw wn)) v = (fX12_isSign M' (nI 59)).bind fun z5 => (fX12_must M' z5).bind fun z6 => fX12_readStep_142 (fX12_readStep D) FU z6 (nI w) v (nI (1550 + 9 * s)) := by
        intro v
        simp only [fX12_readStep_83, e4, le00, s2, l_0, l_1, l_2, l_3, l_4, l_5, l_6, l_7, l_8, l_9, l_10, l_11, l_12, l_13, l_14, l_15, l_16, l_17, l_18, l_19, l_20, l_21, l_22, l_23, l_24, l_25, l_30, l_31, l_32, l_40, l_48, l_54, l_57, l_59, l_60, l_61, l_62, l_63, l_65, l_66, l_72, l_82, l_92, l_93, l_94, l_97, l_99, l_100, l_101, l_102, l_103, l_104, l_105, l_107, l_108, l_109, l_110, l_111, l_112, l_114, l_115, l_116, l_117, l_119, l_121, l_122, l_136, l_200, l_255, l_300, l_364, l_900, l_1000, l_1456, l_1458, l_1459, l_1460, l_1462, l_1471, l_1504, l_1510, l_1522, l_1550, l_2971, l_9999, l_10000, l_10979, l_65536, l_m1, nI_add, pk_mul, hadv, j0, hM', if_true, Option.bind_some]
      show fX12_readStep_0 (fX12_readStep D) M (nI w) = _
      unfold fX12_readStep_0
      rw [sw, Option.bind_some, if_neg h9]
      by_cases hb : wn = 19 ∨ wn = 23
      · rw [if_pos hb]
        have w3 : w < 3 := by
          rcases hnb with q | q
          · exact absurd hb q
          · exact q
        have n3 : (nI w = nI 3) = False := q_eqF (by omega) (by omega) (by omega)
        have c22 : fX12_readStep_22 (fX12_readStep D) M (nI w) (nI (stw wn)) (nI 1) = fX12_readStep_83 (fX12_readStep D) M (nI w) (nI (stw wn)) (nI 1) := by
          simp only [fX12_readStep_22, fX12_readStep_31, fX12_readStep_57, l_0, l_1, l_2, l_3, l_4, l_5, l_6, l_7, l_8, l_9, l_10, l_11, l_12, l_13, l_14, l_15, l_16, l_17, l_18, l_19, l_20, l_21, l_22, l_23, l_24, l_25, l_30, l_31, l_32, l_40, l_48, l_54, l_57, l_59, l_60, l_61, l_62, l_63, l_65, l_66, l_72, l_82, l_92, l_93, l_94, l_97, l_99, l_100, l_101, l_102, l_103, l_104, l_105, l_107, l_108, l_109, l_110, l_111, l_112, l_114, l_115, l_116, l_117, l_119, l_121, l_122, l_136, l_200, l_255, l_300, l_364, l_900, l_1000, l_1456, l_1458, l_1459, l_1460, l_1462, l_1471, l_1504, l_1510, l_1522, l_1550, l_2971, l_9999, l_10000, l_10979, l_65536, l_m1, le0, e4, s2, n30, n_10, n3, if_true, if_false]
        rcases bl.mpr hb with q | q
        · have t6 : (nI (stw wn) = nI 6) = True := by rw [q]; exact eq_self _
          simp only [l_0, l_1, l_2, l_3, l_4, l_5, l_6, l_7, l_8, l_9, l_10, l_11, l_12, l_13, l_14, l_15, l_16, l_17, l_18, l_19, l_20, l_21, l_22, l_23, l_24, l_25, l_30, l_31, l_32, l_40, l_48, l_54, l_57, l_59, l_60, l_61, l_62, l_63, l_65, l_66, l_72, l_82, l_92, l_93, l_94, l_97, l_99, l_100, l_101, l_102, l_103, l_104, l_105, l_107, l_108, l_109, l_110, l_111, l_112, l_114, l_115, l_116, l_117, l_119, l_121, l_122, l_136, l_200, l_255, l_300, l_364, l_900, l_1000, l_1456, l_1458, l_1459, l_1460, l_1462, l_1471, l_1504, l_1510, l_1522, l_1550, l_2971, l_9999, l_10000, l_10979, l_65536, l_m1, t6, if_true]
          rw [c22, go]
        · have t6 : (nI (stw wn) = nI 6) = False := by rw [q]; exact q_eqF (by omega) (by omega) (by omega)
          have t7 : (nI (stw wn) = nI 7) = True := by rw [q]; exact eq_self _
          simp only [l_0, l_1, l_2, l_3, l_4, l_5, l_6, l_7, l_8, l_9, l_10, l_11, l_12, l_13, l_14, l_15, l_16, l_17, l_18, l_19, l_20, l_21, l_22, l_23, l_24, l_25, l_30, l_31, l_32, l_40, l_48, l_54, l_57, l_59, l_60, l_61, l_62, l_63, l_65, l_66, l_72, l_82, l_92, l_93, l_94, l_97, l_99, l_100, l_101, l_102, l_103, l_104, l_105, l_107, l_108, l_109, l_110, l_111, l_112, l_114, l_115, l_116, l_117, l_119, l_121, l_122, l_136, l_200, l_255, l_300, l_364, l_900, l_1000, l_1456, l_1458, l_1459, l_1460, l_1462, l_1471, l_1504, l_1510, l_1522, l_1550, l_2971, l_9999, l_10000, l_10979, l_65536, l_m1, t6, t7, if_true, if_false]
          rw [c22, go]
      · rw [if_neg hb]
        have nb : ¬ (stw wn = 6 ∨ stw wn = 7) := fun q => hb (bl.mp q)
        have t6 : (nI (stw wn) = nI 6) = False := q_eqF (by omega) (by omega) (by omega)
        have t7 : (nI (stw wn) = nI 7) = False := q_eqF (by omega) (by omega) (by omega)
        have c22 : fX12_readStep_22 (fX12_readStep D) M (nI w) (nI (stw wn)) (nI 0) = fX12_readStep_83 (fX12_readStep D) M (nI w) (nI (stw wn)) (nI 0) := by
          simp only [fX12_readStep_22, fX12_readStep_31, fX12_readStep_57, l_0, l_1, l_2, l_3, l_4, l_5, l_6, l_7, l_8, l_9, l_10, l_11, l_12, l_13, l_14, l_15, l_16, l_17, l_18, l_19, l_20, l_21, l_22, l_23, l_24, l_25, l_30, l_31, l_32, l_40, l_48, l_54, l_57, l_59, l_60, l_61, l_62, l_63, l_65, l_66, l_72, l_82, l_92, l_93, l_94, l_97, l_99, l_100, l_101, l_102, l_103, l_104, l_105, l_107, l_108, l_109, l_110, l_111, l_112, l_114, l_115, l_116, l_117, l_119, l_121, l_122, l_136, l_200, l_255, l_300, l_364, l_900, l_1000, l_1456, l_1458, l_1459, l_1460, l_1462, l_1471, l_1504, l_1510, l_1522, l_1550, l_2971, l_9999, l_10000, l_10979, l_65536, l_m1, le0, e4, s2, n30, if_true, if_false]
        simp only [l_0, l_1, l_2, l_3, l_4, l_5, l_6, l_7, l_8, l_9, l_10, l_11, l_12, l_13, l_14, l_15, l_16, l_17, l_18, l_19, l_20, l_21, l_22, l_23, l_24, l_25, l_30, l_31, l_32, l_40, l_48, l_54, l_57, l_59, l_60, l_61, l_62, l_63, l_65, l_66, l_72, l_82, l_92, l_93, l_94, l_97, l_99, l_100, l_101, l_102, l_103, l_104, l_105, l_107, l_108, l_109, l_110, l_111, l_112, l_114, l_115, l_116, l_117, l_119, l_121, l_122, l_136, l_200, l_255, l_300, l_364, l_900, l_1000, l_1456, l_1458, l_1459, l_1460, l_1462, l_1471, l_1504, l_1510, l_1522, l_1550, l_2971, l_9999, l_10000, l_10979, l_65536, l_m1, t6, t7, if_false]
        rw [c22, go]
def PS (B T : ms_T) (t g : Nat → Nat) (n q : Nat) : Prop := ∀ i fu D R M E a e k wn s p w, n ≤ a + q → i ≤ a → n < a + fu → 4 ≤ D + w → rd B R M g n a e k wn → et T M t → es R M E s p w → (k ≠ 0 ∨ 1 ≤ w) → (wn ≠ 24 ∨ w = 0) → zo B T R M E t g n a s p w fu i (fX12_readStep D M (nI w))
/-- how the steps within one go -/
def zl (B T R M E : ms_T) (t g : Nat → Nat) (n a s p w fu i s0 : Nat) (rc : ms_T → Int32 → Option ms_T) (D : Option ms_T) : Prop :=
  (∃ R' M' E' a' e' k' s1 p1 i' fu', D = fX12_readStep_170 rc M' (nI 1) (nI (1550 + 9 * s0)) ∧ fX2_readEvenings_30 B T fu R E (nI i) = fX2_readEvenings_30 B T fu' R' E' (nI i') ∧ rd B R' M' g n a' e' k' 24 ∧ a ≤ a' ∧ i' ≤ a' ∧ n < a' + fu' ∧ es R' M' E' s1 p1 (w + 1) ∧ s ≤ s1 ∧ p ≤ p1 ∧ mz s M M' ∧ (∀ j, j < w + 1 → ra R' 1 j = ra R 1 j) ∧ (∀ k j, j < p → ra E' k j = ra E k j) ∧ ev_B E' (cM M') (t 1) (t 2) (s1 - s + 1) (3 - (w + 1)) s s1 p p1) ∨
  (∃ R' M' E', D = some M' ∧ fX2_readEvenings_30 B T fu R E (nI i) = some (nI 0, R', E') ∧ bd R' M' ∧ mz s0 M M')
theorem BL {q : Nat} (hPS : PS B T t g n q) {s0 D : Nat} (hs0 : s0 < 30) (hw2 : w < 3) (hD : 4 ≤ D + (w + 1)) : ∀ d i fu fuL R M E a e k wn s p, d ≤ q → n ≤ a + d → i ≤ a → n < a + fu → n + 1 < a + fuL → rd B R M g n a e k wn → et T M t → es R M E s p (w + 1) → s0 < s → zl B T R M E t g n a s p w fu i s0 (fX12_readStep D) (fX12_readStep_142 (fX12_readStep D) fuL M (nI w) (nI 1) (nI (1550 + 9 * s0))) := by
  intro d
  induction d with
  | zero =>
    intro i fu fuL R M E a e k wn s p hdq hd hi hf hfl h ht he hss
    have an : a ≤ n := by have := h.2.2.1.2.2.2.2.2.2.1; have := h.2.2.1.2.2.2.2.2.2.2.1; omega
    obtain ⟨fuL, rfl⟩ : ∃ y, fuL = y + 1 := ⟨fuL - 1, by omega⟩
    obtain ⟨t1, t2, t3, t4, t5, t6, t7, t8, t9, t10, t11, t12⟩ := h.2.2.1
    have k0 : k = 0 := by
      rcases Nat.eq_zero_or_pos k with q | q
      · exact q
      · have := t11 (by omega); omega
    have w26 : wn ≠ 24 := fun q => by have := h.2.2.2.2.2.2.1 (by omega); omega
    have e4 := h.2.2.2.2.2.2.2.1
    have u24 := h.2.2.2.2.2.1 24 (by omega)
    rw [decide_eq_false w26] at u24
    have zz := hPS i fu D R M E a e k wn s p (w + 1) (by omega) hi hf hD h ht he (Or.inr (by omega)) (Or.inl w26)
    have e1 : fX12_readStep_142 (fX12_readStep D) (fuL + 1) M (nI w) (nI 1) (nI (1550 + 9 * s0)) = (fX12_readStep D M (nI (w + 1))).bind fun z13 => fX12_readStep_142 (fX12_readStep D) fuL z13 (nI w) (nI 1) (nI (1550 + 9 * s0)) := by
      rw [fX12_readStep_142]
      simp only [l_0, l_1, l_2, l_3, l_4, l_5, l_6, l_7, l_8, l_9, l_10, l_11, l_12, l_13, l_14, l_15, l_16, l_17, l_18, l_19, l_20, l_21, l_22, l_23, l_24, l_25, l_30, l_31, l_32, l_40, l_48, l_54, l_57, l_59, l_60, l_61, l_62, l_63, l_65, l_66, l_72, l_82, l_92, l_93, l_94, l_97, l_99, l_100, l_101, l_102, l_103, l_104, l_105, l_107, l_108, l_109, l_110, l_111, l_112, l_114, l_115, l_116, l_117, l_119, l_121, l_122, l_136, l_200, l_255, l_300, l_364, l_900, l_1000, l_1456, l_1458, l_1459, l_1460, l_1462, l_1471, l_1504, l_1510, l_1522, l_1550, l_2971, l_9999, l_10000, l_10979, l_65536, l_m1, n_10, e4, w_24, u24, bi, b2_0, nI_add, if_true, if_false, Option.bind_some]
    rw [e1]
    rcases zz with ⟨R', M', E', a', e', k', wn', s1, p1, i', fu', q1, q2, q3, q4, -⟩ | ⟨R', M', E', q1, q2, q3, q4⟩
    · have := q3.2.2.1.2.2.2.2.2.2.1
      have := q3.2.2.1.2.2.2.2.2.2.2.1
      omega
    · rcases Nat.eq_zero_or_pos fuL with z | z
      · omega
      · obtain ⟨fuL, rfl⟩ : ∃ y, fuL = y + 1 := ⟨fuL - 1, by omega⟩
        rw [q1, Option.bind_some, b_142 (bd_bm q3) hs0]
        exact Or.inr ⟨R', _, E', rfl, q2, q3, mz_tr (mz_le q4 (by omega)) (mz_5 (by omega))⟩
  | succ d ih =>
    intro i fu fuL R M E a e k wn s p hdq hd hi hf hfl h ht he hss
    have an : a ≤ n := by have := h.2.2.1.2.2.2.2.2.2.1; have := h.2.2.1.2.2.2.2.2.2.2.1; omega
    obtain ⟨fuL, rfl⟩ : ∃ y, fuL = y + 1 := ⟨fuL - 1, by omega⟩
    have e4 := h.2.2.2.2.2.2.2.1
    have u24 := h.2.2.2.2.2.1 24 (by omega)
    by_cases w24 : wn = 24
    · subst w24
      refine Or.inl ⟨R, M, E, a, e, k, s, p, i, fu, ?_, rfl, h, Nat.le_refl _, hi, hf, he, Nat.le_refl _, Nat.le_refl _, mz_id _ _, fun _ _ => rfl, fun _ _ _ => rfl, Or.inl ⟨rfl, rfl⟩⟩
      rw [fX12_readStep_142]
      have u24' : wb M 24 = true := by rw [u24]; rfl
      simp only [l_0, l_1, l_2, l_3, l_4, l_5, l_6, l_7, l_8, l_9, l_10, l_11, l_12, l_13, l_14, l_15, l_16, l_17, l_18, l_19, l_20, l_21, l_22, l_23, l_24, l_25, l_30, l_31, l_32, l_40, l_48, l_54, l_57, l_59, l_60, l_61, l_62, l_63, l_65, l_66, l_72, l_82, l_92, l_93, l_94, l_97, l_99, l_100, l_101, l_102, l_103, l_104, l_105, l_107, l_108, l_109, l_110, l_111, l_112, l_114, l_115, l_116, l_117, l_119, l_121, l_122, l_136, l_200, l_255, l_300, l_364, l_900, l_1000, l_1456, l_1458, l_1459, l_1460, l_1462, l_1471, l_1504, l_1510, l_1522, l_1550, l_2971, l_9999, l_10000, l_10979, l_65536, l_m1, n_10, e4, w_24, u24', bi, b2_1, if_true, if_false, Option.bind_some]
    · rw [decide_eq_false w24] at u24
      have zz := hPS i fu D R M E a e k wn s p (w + 1) (by omega) hi hf hD h ht he (Or.inr (by omega)) (Or.inl w24)
      have e1 : fX12_readStep_142 (fX12_readStep D) (fuL + 1) M (nI w) (nI 1) (nI (1550 + 9 * s0)) = (fX12_readStep D M (nI (w + 1))).bind fun z13 => fX12_readStep_142 (fX12_readStep D) fuL z13 (nI w) (nI 1) (nI (1550 + 9 * s0)) := by
        rw [fX12_readStep_142]
        simp only [l_0, l_1, l_2, l_3, l_4, l_5, l_6, l_7, l_8, l_9, l_10, l_11, l_12, l_13, l_14, l_15, l_16, l_17, l_18, l_19, l_20, l_21, l_22, l_23, l_24, l_25, l_30, l_31, l_32, l_40, l_48, l_54, l_57, l_59, l_60, l_61, l_62, l_63, l_65, l_66, l_72, l_82, l_92, l_93, l_94, l_97, l_99, l_100, l_101, l_102, l_103, l_104, l_105, l_107, l_108, l_109, l_110, l_111, l_112, l_114, l_115, l_116, l_117, l_119, l_121, l_122, l_136, l_200, l_255, l_300, l_364, l_900, l_1000, l_1456, l_1458, l_1459, l_1460, l_1462, l_1471, l_1504, l_1510, l_1522, l_1550, l_2971, l_9999, l_10000, l_10979, l_65536, l_m1, n_10, e4, w_24, u24, bi, b2_0, nI_add, if_true, if_false, Option.bind_some]
      rw [e1]
      rcases zz with ⟨R', M', E', a', e', k', wn', s1, p1, i', fu', q1, q2, q3, q4, q5, q6, q7, q8, q9, q10, q11, q12, q13⟩ | ⟨R', M', E', q1, q2, q3, q4⟩
      · rw [q1, Option.bind_some]
        have nx := ih i' fu' fuL R' M' E' a' e' k' wn' s1 p1 (by omega) (by omega) q5 q6 (by omega) q3 (et_mz ht q10) q7 (by omega)
        rcases nx with ⟨R2, M2, E2, a2, e2, k2, s2, p2, i2, fu2, v1, v2, v3, v4, v5, v6, v7, v8, v9, v10, v11, v12, v13⟩ | ⟨R2, M2, E2, v1, v2, v3, v4⟩
        · refine Or.inl ⟨R2, M2, E2, a2, e2, k2, s2, p2, i2, fu2, v1, by rw [q2, v2], v3, by omega, v5, v6, v7, by omega, by omega, mz_tr q10 (mz_le v10 (by omega)), fun j hj => (v11 j hj).trans (q11 j hj), fun k j hj => (v12 k j (by omega)).trans (q12 k j hj), ?_⟩
          refine ev_cons v8 v9 (ev_1_keep (fun k j _ hj => v12 k j hj) (fun i q1 q2 => ?_) q13) v13
          show ra M2 5 (1456 + i) = ra M' 5 (1456 + i)
          exact v10.2.2.2.1 _ (by omega)
        · exact Or.inr ⟨R2, M2, E2, v1, by rw [q2, v2], v3, mz_tr (mz_le q10 (by omega)) v4⟩
      · rcases Nat.eq_zero_or_pos fuL with z | z
        · omega
        · obtain ⟨fuL, rfl⟩ : ∃ y, fuL = y + 1 := ⟨fuL - 1, by omega⟩
          rw [q1, Option.bind_some, b_142 (bd_bm q3) hs0]
          exact Or.inr ⟨R', _, E', rfl, q2, q3, mz_tr (mz_le q4 (by omega)) (mz_5 (by omega))⟩
end Q92
