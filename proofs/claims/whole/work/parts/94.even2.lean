/-! evenings -/
section Q94
variable {B T : ms_T} {g t : Nat → Nat} {n : Nat}
theorem b_28 {M : ms_T} (h : bm M) (f : Nat) : fX12_evenings_28 (f + 1) M = fX12_evenings_50 M := by
  obtain ⟨f', f1, f2, f3⟩ := h
  have n0 : (nI f' = nI 0) = False := q_eqF (by omega) (by omega) (by omega)
  simp only [fX12_evenings_28, l_0, l_1, l_2, l_3, l_4, l_5, l_6, l_7, l_8, l_9, l_10, l_11, l_12, l_13, l_14, l_15, l_16, l_17, l_18, l_19, l_20, l_21, l_22, l_23, l_24, l_25, l_30, l_31, l_32, l_40, l_48, l_54, l_57, l_59, l_60, l_61, l_62, l_63, l_65, l_66, l_72, l_82, l_92, l_93, l_94, l_97, l_99, l_100, l_101, l_102, l_103, l_104, l_105, l_107, l_108, l_109, l_110, l_111, l_112, l_114, l_115, l_116, l_117, l_119, l_121, l_122, l_136, l_200, l_255, l_300, l_364, l_900, l_1000, l_1456, l_1458, l_1459, l_1460, l_1462, l_1471, l_1504, l_1510, l_1522, l_1550, l_2971, l_9999, l_10000, l_10979, l_65536, l_m1, f3, n0, if_false]
theorem even_loop : ∀ d i fu fuL R M E a e k wn s p, n ≤ a + d → i ≤ a → n < a + fu → n + 1 < a + fuL → rd B R M g n a e k wn → et T M t → es R M E s p 0 →
    (∃ R' M' E' s1 p1 a' e' wn', fX12_evenings_28 fuL M = fX12_evenings_50 M' ∧ fX2_readEvenings_30 B T fu R E (nI i) = some (nI 1, R', si E' 0 (nI 1)) ∧ rd B R' M' g n a' e' 0 wn' ∧ es R' M' E' s1 p1 0 ∧ s ≤ s1 ∧ p ≤ p1 ∧ mz s M M' ∧ (∀ k j, j < p → ra E' k j = ra E k j) ∧ ev_B E' (cM M') (t 1) (t 2) (s1 - s + 1) 3 s s1 p p1) ∨
    (∃ R' M' E', fX12_evenings_28 fuL M = fX12_evenings_50 M' ∧ fX2_readEvenings_30 B T fu R E (nI i) = some (nI 0, R', E') ∧ bd R' M' ∧ mz s M M') := by
  have stop : ∀ i fu fuL R M E a e wn s p, i ≤ a → rd B R M g n a e 0 wn → es R M E s p 0 →
      (∃ R' M' E' s1 p1 a' e' wn', fX12_evenings_28 (fuL + 1) M = fX12_evenings_50 M' ∧ fX2_readEvenings_30 B T (fu + 1) R E (nI i) = some (nI 1, R', si E' 0 (nI 1)) ∧ rd B R' M' g n a' e' 0 wn' ∧ es R' M' E' s1 p1 0 ∧ s ≤ s1 ∧ p ≤ p1 ∧ mz s M M' ∧ (∀ k j, j < p → ra E' k j = ra E k j) ∧ ev_B E' (cM M') (t 1) (t 2) (s1 - s + 1) 3 s s1 p p1) := by
    intro i fu fuL R M E a e wn s p hi h he
    obtain ⟨t1, t2, t3, t4, t5, t6, t7, t8, t9, t10, t11, t12⟩ := h.2.2.1
    have n9 := h.2.1
    have e4 := h.2.2.2.2.2.2.2.1
    have s6 := he.2.2.2.2.2.1
    have lt9 : (nI 900 < nI i) = False := q_ltF (by omega) (by omega)
    have le00 : (nI 0 ≤ nI 0) = True := q_leT (by omega) (by omega)
    refine ⟨R, M, E, s, p, a, e, wn, ?_, ?_, h, he, Nat.le_refl _, Nat.le_refl _, mz_id _ _, fun _ _ _ => rfl, Or.inl ⟨rfl, rfl⟩⟩
    · rw [fX12_evenings_28]
      simp only [l_0, l_1, l_2, l_3, l_4, l_5, l_6, l_7, l_8, l_9, l_10, l_11, l_12, l_13, l_14, l_15, l_16, l_17, l_18, l_19, l_20, l_21, l_22, l_23, l_24, l_25, l_30, l_31, l_32, l_40, l_48, l_54, l_57, l_59, l_60, l_61, l_62, l_63, l_65, l_66, l_72, l_82, l_92, l_93, l_94, l_97, l_99, l_100, l_101, l_102, l_103, l_104, l_105, l_107, l_108, l_109, l_110, l_111, l_112, l_114, l_115, l_116, l_117, l_119, l_121, l_122, l_136, l_200, l_255, l_300, l_364, l_900, l_1000, l_1456, l_1458, l_1459, l_1460, l_1462, l_1471, l_1504, l_1510, l_1522, l_1550, l_2971, l_9999, l_10000, l_10979, l_65536, l_m1, e4, t10, if_true]
    · rw [fX2_readEvenings_30]
      simp only [fX2_readEvenings_87, l_0, l_1, l_2, l_3, l_4, l_5, l_6, l_7, l_8, l_9, l_10, l_11, l_12, l_13, l_14, l_15, l_16, l_17, l_18, l_19, l_20, l_21, l_22, l_23, l_24, l_25, l_30, l_31, l_32, l_40, l_48, l_54, l_57, l_59, l_60, l_61, l_62, l_63, l_65, l_66, l_72, l_82, l_92, l_93, l_94, l_97, l_99, l_100, l_101, l_102, l_103, l_104, l_105, l_107, l_108, l_109, l_110, l_111, l_112, l_114, l_115, l_116, l_117, l_119, l_121, l_122, l_136, l_200, l_255, l_300, l_364, l_900, l_1000, l_1456, l_1458, l_1459, l_1460, l_1462, l_1471, l_1504, l_1510, l_1522, l_1550, l_2971, l_9999, l_10000, l_10979, l_65536, l_m1, lt9, t9, s6, le00, if_true, if_false]
  intro d
  induction d with
  | zero =>
    intro i fu fuL R M E a e k wn s p hd hi hf hfl h ht he
    obtain ⟨t1, t2, t3, t4, t5, t6, t7, t8, t9, t10, t11, t12⟩ := h.2.2.1
    obtain ⟨fu, rfl⟩ : ∃ y, fu = y + 1 := ⟨fu - 1, by omega⟩
    obtain ⟨fuL, rfl⟩ : ∃ y, fuL = y + 1 := ⟨fuL - 1, by omega⟩
    have k0 : k = 0 := by
      rcases Nat.eq_zero_or_pos k with q | q
      · exact q
      · have := t11 (by omega); omega
    subst k0
    exact Or.inl (stop i fu fuL R M E a e wn s p hi h he)
  | succ d ih =>
    intro i fu fuL R M E a e k wn s p hd hi hf hfl h ht he
    obtain ⟨t1, t2, t3, t4, t5, t6, t7, t8, t9, t10, t11, t12⟩ := h.2.2.1
    have e4 := h.2.2.2.2.2.2.2.1
    have k4 : k ≤ 4 := by rcases t12 with q | q | q | q | q <;> omega
    obtain ⟨fuL, rfl⟩ : ∃ y, fuL = y + 1 := ⟨fuL - 1, by omega⟩
    by_cases k0 : k = 0
    · subst k0
      obtain ⟨fu, rfl⟩ : ∃ y, fu = y + 1 := ⟨fu - 1, by omega⟩
      exact Or.inl (stop i fu fuL R M E a e wn s p hi h he)
    · have kn : (nI k = nI 0) = False := q_eqF k0 (by omega) (by omega)
      have e1 : fX12_evenings_28 (fuL + 1) M = (fX12_readStep 6 M (nI 0)).bind fun z5 => fX12_evenings_28 fuL z5 := by
        rw [fX12_evenings_28]
        simp only [l_0, l_1, l_2, l_3, l_4, l_5, l_6, l_7, l_8, l_9, l_10, l_11, l_12, l_13, l_14, l_15, l_16, l_17, l_18, l_19, l_20, l_21, l_22, l_23, l_24, l_25, l_30, l_31, l_32, l_40, l_48, l_54, l_57, l_59, l_60, l_61, l_62, l_63, l_65, l_66, l_72, l_82, l_92, l_93, l_94, l_97, l_99, l_100, l_101, l_102, l_103, l_104, l_105, l_107, l_108, l_109, l_110, l_111, l_112, l_114, l_115, l_116, l_117, l_119, l_121, l_122, l_136, l_200, l_255, l_300, l_364, l_900, l_1000, l_1456, l_1458, l_1459, l_1460, l_1462, l_1471, l_1504, l_1510, l_1522, l_1550, l_2971, l_9999, l_10000, l_10979, l_65536, l_m1, e4, t10, kn, if_true, if_false]
      have zz := PS_all (B := B) (T := T) (t := t) (g := g) (n := n) n i fu 6 R M E a e k wn s p 0 (by omega) hi hf (by omega) h ht he (Or.inl k0) (Or.inr rfl)
      rw [e1]
      rcases zz with ⟨R', M', E', a', e', k', wn', s1, p1, i', fu', q1, q2, q3, q4, q5, q6, q7, q8, q9, q10, q11, q12, q13⟩ | ⟨R', M', E', q1, q2, q3, q4⟩
      · rw [q1, Option.bind_some, q2]
        rcases ih i' fu' fuL R' M' E' a' e' k' wn' s1 p1 (by omega) q5 q6 (by omega) q3 (et_mz ht q10) q7 with ⟨R2, M2, E2, s2, p2, a2, e2, wn2, v1, v2, v3, v4, v5, v6, v7, v8, v9⟩ | ⟨R2, M2, E2, v1, v2, v3, v4⟩
        · refine Or.inl ⟨R2, M2, E2, s2, p2, a2, e2, wn2, v1, v2, v3, v4, by omega, by omega, mz_tr q10 (mz_le v7 (by omega)), fun k j hj => (v8 k j (by omega)).trans (q12 k j hj), ?_⟩
          refine ev_cons v5 v6 (ev_1_keep (fun k j _ hj => v8 k j hj) (fun i q1 q2 => ?_) q13) v9
          show ra M2 5 (1456 + i) = ra M' 5 (1456 + i)
          exact v7.2.2.2.1 _ (by omega)
        · exact Or.inr ⟨R2, M2, E2, v1, v2, v3, mz_tr q10 (mz_le v4 (by omega))⟩
      · have an : a ≤ n := by omega
        obtain ⟨fuL, rfl⟩ : ∃ y, fuL = y + 1 := ⟨fuL - 1, by omega⟩
        rw [q1, Option.bind_some, b_28 (bd_bm q3)]
        exact Or.inr ⟨R', M', E', rfl, q2, q3, q4⟩
/-- the steps laid where they belong -/
theorem even_copy (W : ms_T) {s1 : Nat} (hs : s1 ≤ 30) (h25 : gi W 25 = nI s1) : ∃ f, fX12_evenings_80 FU W (nI 0) = some (nI s1, sr W 5 f) ∧ (∀ i, 94 ≤ i → i < 94 + 9 * s1 → f i = ra W 5 (1456 + i)) ∧ ∀ i, i < 94 ∨ 94 + 9 * s1 ≤ i → f i = ra W 5 i := by
  obtain ⟨r, e, f, rfl, h1, h2⟩ := lp_up (fun x k f => fX12_evenings_80 x (sr W 5 f) k) (9 * s1) (fun k f => (∀ i, 94 ≤ i → i < 94 + k → f i = ra W 5 (1456 + i)) ∧ ∀ i, i < 94 ∨ 94 + k ≤ i → f i = ra W 5 i) (fun r => ∃ f, r = (nI s1, sr W 5 f) ∧ (∀ i, 94 ≤ i → i < 94 + 9 * s1 → f i = ra W 5 (1456 + i)) ∧ ∀ i, i < 94 ∨ 94 + 9 * s1 ≤ i → f i = ra W 5 i)
    (fun x f hf => ⟨_, by simp (disch := omega) only [fX12_evenings_80, h25, l_0, l_1, l_2, l_3, l_4, l_5, l_6, l_7, l_8, l_9, l_10, l_11, l_12, l_13, l_14, l_15, l_16, l_17, l_18, l_19, l_20, l_21, l_22, l_23, l_24, l_25, l_30, l_31, l_32, l_40, l_48, l_54, l_57, l_59, l_60, l_61, l_62, l_63, l_65, l_66, l_72, l_82, l_92, l_93, l_94, l_97, l_99, l_100, l_101, l_102, l_103, l_104, l_105, l_107, l_108, l_109, l_110, l_111, l_112, l_114, l_115, l_116, l_117, l_119, l_121, l_122, l_136, l_200, l_255, l_300, l_364, l_900, l_1000, l_1456, l_1458, l_1459, l_1460, l_1462, l_1471, l_1504, l_1510, l_1522, l_1550, l_2971, l_9999, l_10000, l_10979, l_65536, l_m1, nI_add, pk_mul, q_sub, q_ltT, q_ltF, q_leT, q_leF, q_eqT, q_eqF, q_inT, q_inF, nI_clamp, q_mlt, q_mle, q_mne, q_mne2, q_mnlt, q_mnle, q_gi, q_gil, q_gir, q_giR, q_gl, q_gli, q_glr, q_glR, q_ra, q_rai, q_ral, q_raR, q_rl, q_rli, q_rll, q_rlr, sa, sA, ia, la, q_srsr, q_sRsR, Option.bind_some, if_true, if_false, reduceIte, ite_not, not_true_eq_false, not_false_eq_true, q_z1, Nat.reduceEqDiff], f, rfl, hf.1, hf.2⟩)
    (fun x k f hk hf => by
      left
      have er : f (1550 + k) = ra W 5 (1456 + (94 + k)) := by
        rw [hf.2 _ (by omega), show 1456 + (94 + k) = 1550 + k by omega]
      refine ⟨upd f (94 + k) (ra W 5 (1456 + (94 + k))), ⟨fun i q1 q2 => ?_, fun i q1 => ?_⟩, ?_⟩
      · by_cases c : i = 94 + k
        · rw [up_e _ _ _ c, c]
        · rw [up_n _ _ _ c]; exact hf.1 i q1 (by omega)
      · rw [up_n _ _ _ (by omega)]; exact hf.2 i (by omega)
      · simp (disch := omega) only [fX12_evenings_80, h25, er, l_0, l_1, l_2, l_3, l_4, l_5, l_6, l_7, l_8, l_9, l_10, l_11, l_12, l_13, l_14, l_15, l_16, l_17, l_18, l_19, l_20, l_21, l_22, l_23, l_24, l_25, l_30, l_31, l_32, l_40, l_48, l_54, l_57, l_59, l_60, l_61, l_62, l_63, l_65, l_66, l_72, l_82, l_92, l_93, l_94, l_97, l_99, l_100, l_101, l_102, l_103, l_104, l_105, l_107, l_108, l_109, l_110, l_111, l_112, l_114, l_115, l_116, l_117, l_119, l_121, l_122, l_136, l_200, l_255, l_300, l_364, l_900, l_1000, l_1456, l_1458, l_1459, l_1460, l_1462, l_1471, l_1504, l_1510, l_1522, l_1550, l_2971, l_9999, l_10000, l_10979, l_65536, l_m1, nI_add, pk_mul, q_sub, q_ltT, q_ltF, q_leT, q_leF, q_eqT, q_eqF, q_inT, q_inF, nI_clamp, q_mlt, q_mle, q_mne, q_mne2, q_mnlt, q_mnle, q_gi, q_gil, q_gir, q_giR, q_gl, q_gli, q_glr, q_glR, q_ra, q_rai, q_ral, q_raR, q_rl, q_rli, q_rll, q_rlr, sa, sA, ia, la, q_srsr, q_sRsR, Option.bind_some, if_true, if_false, reduceIte, ite_not, not_true_eq_false, not_false_eq_true, q_z1, Nat.reduceEqDiff]) 0 (ra W 5) FU (by omega) ⟨fun i q1 q2 => by omega, fun i _ => rfl⟩ (by unfold FU; omega)
  refine ⟨f, ?_, h1, h2⟩
  rw [← e]
  exact congrArg (fun m => fX12_evenings_80 FU m (nI 0)) (sr_self W 5)
end Q94
theorem o_evenings : op_evenings Rl := by
  intro SC SY0 SY1 SY2 SY3 SB ST0 SE0 ST2 SE2 ST3 SE3 ST4 SE4 SV0 SM SG SP0 SP1 SE1 hR a1
  obtain ⟨hs, hF, hU, hT, ⟨hY0, hY1, hY2, hY3⟩, ⟨t, w, hC, hN0, n1, n2, n3, hE⟩, hK, hV⟩ := id hR
  have hN := tb_N0 hN0
  have hN2 : tb_N (si (si SM 1 (nI 0)) 0 (nI 0)) t := hN
  have hNu : ∀ i, i < 92 → ra SM 5 i = nI (t i) := hN
  obtain ⟨w0, w1, w2, w3, w4, w5, w6, w7, w8, w9⟩ := id w
  obtain ⟨h0, h1, h2, h3, h4, h5, h6, h7, h8, h9, h10, h11, h12, h13, h14, h15, h16⟩ := id hC
  obtain ⟨⟨m, q1, q2, q3⟩, q4⟩ := id hT
  have ex : fX11_evenings_19 SB SP0 ST0 SP1 SC SG SE0 SE1 = some (nM, si SC 0 (nI 5), SG, SE0, SE1) := rfl
  have ey : fX12_starts_17 (si (si SM 1 (nI 0)) 0 (nI 0)) = some (nI 0, si (si (si SM 1 (nI 0)) 0 (nI 0)) 0 (nI 5)) := by simp only [fX12_starts_17, fX11_answer, fX11_refuse, fX11_deny, fX11_grant, fX12_refuse, fX12_no, l_0, l_1, l_2, l_3, l_4, l_5, l_6, l_7, l_8, l_9, l_10, l_11, l_12, l_13, l_14, l_15, l_16, l_17, l_18, l_19, l_20, l_21, l_22, l_23, l_24, l_25, l_30, l_31, l_32, l_40, l_48, l_54, l_57, l_59, l_60, l_61, l_62, l_63, l_65, l_66, l_72, l_82, l_92, l_93, l_94, l_97, l_99, l_100, l_101, l_102, l_103, l_104, l_105, l_107, l_108, l_109, l_110, l_111, l_112, l_114, l_115, l_116, l_117, l_119, l_121, l_122, l_136, l_200, l_255, l_300, l_364, l_900, l_1000, l_1456, l_1458, l_1459, l_1460, l_1462, l_1471, l_1504, l_1510, l_1522, l_1550, l_2971, l_9999, l_10000, l_10979, l_65536, l_m1, Option.bind_some, if_true, if_false, reduceIte, ite_not, not_true_eq_false, not_false_eq_true, q_z1, Nat.reduceEqDiff, q_z0]
  have g8 : gi (si (si SM 1 (nI 0)) 0 (nI 0)) 8 = nI m := q3
  rcases q_ix a1 (min m 300 + 1) (by omega) with ⟨h, e⟩ | ⟨h, h2', e⟩ | ⟨j, hj, rfl⟩
  · simp (disch := omega) only [fX11_evenings, fX12_evenings, fX12_starts, ex, ey, h, l_0, l_1, l_2, l_3, l_4, l_5, l_6, l_7, l_8, l_9, l_10, l_11, l_12, l_13, l_14, l_15, l_16, l_17, l_18, l_19, l_20, l_21, l_22, l_23, l_24, l_25, l_30, l_31, l_32, l_40, l_48, l_54, l_57, l_59, l_60, l_61, l_62, l_63, l_65, l_66, l_72, l_82, l_92, l_93, l_94, l_97, l_99, l_100, l_101, l_102, l_103, l_104, l_105, l_107, l_108, l_109, l_110, l_111, l_112, l_114, l_115, l_116, l_117, l_119, l_121, l_122, l_136, l_200, l_255, l_300, l_364, l_900, l_1000, l_1456, l_1458, l_1459, l_1460, l_1462, l_1471, l_1504, l_1510, l_1522, l_1550, l_2971, l_9999, l_10000, l_10979, l_65536, l_m1, nI_add, pk_mul, q_sub, q_ltT, q_ltF, q_leT, q_leF, q_eqT, q_eqF, q_inT, q_inF, nI_clamp, q_mlt, q_mle, q_mne, q_mne2, q_mnlt, q_mnle, Option.bind_some, if_true, if_false, reduceIte, ite_not, not_true_eq_false, not_false_eq_true, q_z1, Nat.reduceEqDiff]
    exact ⟨_, _, rfl, rfl, rfl, rl_st2 hR _ _⟩
  · by_cases hm : m ≤ 300
    · rw [show min m 300 = m by omega] at h
      have b2' : (nI m < a1) = True := q_bggl h (by omega) (by omega)
      simp (disch := omega) only [fX11_evenings, fX12_evenings, fX12_starts, ex, ey, h2', q2, g8, b2', l_0, l_1, l_2, l_3, l_4, l_5, l_6, l_7, l_8, l_9, l_10, l_11, l_12, l_13, l_14, l_15, l_16, l_17, l_18, l_19, l_20, l_21, l_22, l_23, l_24, l_25, l_30, l_31, l_32, l_40, l_48, l_54, l_57, l_59, l_60, l_61, l_62, l_63, l_65, l_66, l_72, l_82, l_92, l_93, l_94, l_97, l_99, l_100, l_101, l_102, l_103, l_104, l_105, l_107, l_108, l_109, l_110, l_111, l_112, l_114, l_115, l_116, l_117, l_119, l_121, l_122, l_136, l_200, l_255, l_300, l_364, l_900, l_1000, l_1456, l_1458, l_1459, l_1460, l_1462, l_1471, l_1504, l_1510, l_1522, l_1550, l_2971, l_9999, l_10000, l_10979, l_65536, l_m1, Option.bind_some, if_true, if_false, reduceIte, ite_not, not_true_eq_false, not_false_eq_true, q_z1, Nat.reduceEqDiff]
      exact ⟨_, _, rfl, rfl, rfl, rl_st2 hR _ _⟩
    · rw [show min m 300 = 300 by omega] at h
      have b1 : (a1 ≤ nI 300) = False := q_bgle h (by omega) (by omega)
      simp (disch := omega) only [fX11_evenings, fX12_evenings, fX12_starts, ex, ey, h2', q2, g8, b1, l_0, l_1, l_2, l_3, l_4, l_5, l_6, l_7, l_8, l_9, l_10, l_11, l_12, l_13, l_14, l_15, l_16, l_17, l_18, l_19, l_20, l_21, l_22, l_23, l_24, l_25, l_30, l_31, l_32, l_40, l_48, l_54, l_57, l_59, l_60, l_61, l_62, l_63, l_65, l_66, l_72, l_82, l_92, l_93, l_94, l_97, l_99, l_100, l_101, l_102, l_103, l_104, l_105, l_107, l_108, l_109, l_110, l_111, l_112, l_114, l_115, l_116, l_117, l_119, l_121, l_122, l_136, l_200, l_255, l_300, l_364, l_900, l_1000, l_1456, l_1458, l_1459, l_1460, l_1462, l_1471, l_1504, l_1510, l_1522, l_1550, l_2971, l_9999, l_10000, l_10979, l_65536, l_m1, Option.bind_some, if_true, if_false, reduceIte, ite_not, not_true_eq_false, not_false_eq_true, q_z1, Nat.reduceEqDiff, ite_self]
      exact ⟨_, _, rfl, rfl, rfl, rl_st2 hR _ _⟩
  · have hT' : rl_T SC SB (si (si SM 1 (nI 0)) 0 (nI 0)) := hT
    obtain ⟨R1, M1, g, a, e, k, wn, d1, d2, d3, d4, d5, d6, d7, d8, d9⟩ := rd_begin hT' (m := m) (j := j) q3 (by omega) q1 (si SG 13 (nI 0))
    have r5 : ∀ x, ra M1 x = ra SM x := fun x => congrFun (congrArg Prod.fst d9) x
    have r7 : ∀ x, rl M1 x = rl SM x := fun x => congrFun (congrArg Prod.snd d9) x
    have ht : et ST0 (si M1 25 (nI 0)) t := by
      refine ⟨w, hC, fun i hi => ?_, ⟨fun i hi => ?_, fun i hi => ?_, fun i hi => ?_⟩⟩
      · show ra M1 5 i = _
        rw [r5]; exact hNu i hi
      · show rl ST0 10 i = rl M1 7 (23 * 0 + i)
        rw [r7, Nat.mul_zero]; have := n1 i hi; rw [Nat.zero_mul] at this; exact this
      · show rl ST0 10 (9 + i) = rl M1 7 (23 * 0 + (9 + i))
        rw [r7, Nat.mul_zero]; have := n2 i hi; rw [Nat.zero_mul] at this; exact this
      · show rl ST0 10 (17 + i) = rl M1 7 (23 * 0 + (17 + i))
        rw [r7, Nat.mul_zero]; have := n3 i hi; rw [Nat.zero_mul] at this; exact this
    have he : es R1 (si M1 25 (nI 0)) (si (si (si SE1 0 (nI 0)) 1 (nI 0)) 2 (nI 0)) 0 0 0 := ⟨rfl, rfl, by omega, rfl, by omega, by rw [d4 13 (by omega)]; rfl, by omega, rfl⟩
    have lp := even_loop (B := SB) (T := ST0) (g := g) (t := t) (n := j) j 0 FU FU R1 (si M1 25 (nI 0)) (si (si (si SE1 0 (nI 0)) 1 (nI 0)) 2 (nI 0)) a e k wn 0 0 (by omega) (by omega) (by unfold FU; omega) (by unfold FU; omega) (rd_si25 d3) ht he
    have hst : fX12_starts (si (si SM 1 (nI 0)) 0 (nI 0)) (nI j) (nI 300) = some (nI 1, M1) := by
      simp (disch := omega) only [fX12_starts, g8, d2, l_0, l_1, l_2, l_3, l_4, l_5, l_6, l_7, l_8, l_9, l_10, l_11, l_12, l_13, l_14, l_15, l_16, l_17, l_18, l_19, l_20, l_21, l_22, l_23, l_24, l_25, l_30, l_31, l_32, l_40, l_48, l_54, l_57, l_59, l_60, l_61, l_62, l_63, l_65, l_66, l_72, l_82, l_92, l_93, l_94, l_97, l_99, l_100, l_101, l_102, l_103, l_104, l_105, l_107, l_108, l_109, l_110, l_111, l_112, l_114, l_115, l_116, l_117, l_119, l_121, l_122, l_136, l_200, l_255, l_300, l_364, l_900, l_1000, l_1456, l_1458, l_1459, l_1460, l_1462, l_1471, l_1504, l_1510, l_1522, l_1550, l_2971, l_9999, l_10000, l_10979, l_65536, l_m1, nI_add, pk_mul, q_sub, q_ltT, q_ltF, q_leT, q_leF, q_eqT, q_eqF, q_inT, q_inF, nI_clamp, q_mlt, q_mle, q_mne, q_mne2, q_mnlt, q_mnle, Option.bind_some, if_true, if_false, reduceIte, ite_not, not_true_eq_false, not_false_eq_true, q_z1, Nat.reduceEqDiff]
    have hM : fX12_evenings SM (nI j) = fX12_evenings_28 FU (si M1 25 (nI 0)) := by
      simp only [fX12_evenings, l_0, l_1, l_2, l_3, l_4, l_5, l_6, l_7, l_8, l_9, l_10, l_11, l_12, l_13, l_14, l_15, l_16, l_17, l_18, l_19, l_20, l_21, l_22, l_23, l_24, l_25, l_30, l_31, l_32, l_40, l_48, l_54, l_57, l_59, l_60, l_61, l_62, l_63, l_65, l_66, l_72, l_82, l_92, l_93, l_94, l_97, l_99, l_100, l_101, l_102, l_103, l_104, l_105, l_107, l_108, l_109, l_110, l_111, l_112, l_114, l_115, l_116, l_117, l_119, l_121, l_122, l_136, l_200, l_255, l_300, l_364, l_900, l_1000, l_1456, l_1458, l_1459, l_1460, l_1462, l_1471, l_1504, l_1510, l_1522, l_1550, l_2971, l_9999, l_10000, l_10979, l_65536, l_m1, hst, n_10, if_false, Option.bind_some]
    have hrt : fX2_readEvenings SG SB ST0 SE1 (nI j) = fX2_readEvenings_30 SB ST0 FU R1 (si (si (si SE1 0 (nI 0)) 1 (nI 0)) 2 (nI 0)) (nI 0) := by
      simp only [fX2_readEvenings, fX1_clear, l_0, l_1, l_2, l_3, l_4, l_5, l_6, l_7, l_8, l_9, l_10, l_11, l_12, l_13, l_14, l_15, l_16, l_17, l_18, l_19, l_20, l_21, l_22, l_23, l_24, l_25, l_30, l_31, l_32, l_40, l_48, l_54, l_57, l_59, l_60, l_61, l_62, l_63, l_65, l_66, l_72, l_82, l_92, l_93, l_94, l_97, l_99, l_100, l_101, l_102, l_103, l_104, l_105, l_107, l_108, l_109, l_110, l_111, l_112, l_114, l_115, l_116, l_117, l_119, l_121, l_122, l_136, l_200, l_255, l_300, l_364, l_900, l_1000, l_1456, l_1458, l_1459, l_1460, l_1462, l_1471, l_1504, l_1510, l_1522, l_1550, l_2971, l_9999, l_10000, l_10979, l_65536, l_m1, v_begin, d1, Option.bind_some]
    have j0 : (nI j < nI 0) = False := q_ltF (by omega) (by omega)
    have jm : (nI m < nI j) = False := q_ltF (by omega) (by omega)
    have j3 : (nI j ≤ nI 300) = True := q_leT (by omega) (by omega)
    have rk0 : ∀ M', mz 0 (si M1 25 (nI 0)) M' → rk SM M' := by
      intro M' hmz
      refine ⟨fun x hx => ?_, ?_, fun x hx => ?_, fun x hx => ?_, fun i hi => ?_, fun x hx => ?_, fun i hi => ?_⟩
      · rw [hmz.1 x (by omega), q_gi, if_neg (by omega), d6 x (by omega), q_gi, if_neg (by omega), q_gi, if_neg (by omega)]
      · rw [hmz.1 8 (by omega)]; exact d7
      · rw [hmz.2.1 x hx]; exact d8 x hx
      · rw [hmz.2.2.1 x hx]; exact r5 x
      · rw [hmz.2.2.2.1 i (by omega)]
        show ra M1 5 i = _
        rw [r5]
      · rw [hmz.2.2.2.2]; exact r7 x
      · rw [hmz.2.2.2.2]; exact congrFun (r7 7) i
    rcases lp with ⟨R2, M2, E2, s1, p1, a2, e2, wn2, l1, l2, l3, l4, l5, l6, l7, l8, l9⟩ | ⟨R2, M2, E2, l1, l2, l3, l4⟩
    · have m12 := l3.2.2.2.2.2.2.2.1
      have r9 := l3.2.2.2.2.2.2.2.2.1
      have r10 := l3.2.2.2.2.2.2.2.2.2
      obtain ⟨x1, x2, x3, x4, x5, x6, x7, x8⟩ := l4
      have hw : fX12_isWell M2 = some (nI 1, si (si M2 10 (nI 0)) 11 nM) := by
        simp only [fX12_isWell, fX12_isWell_24, m12, l_0, l_1, l_2, l_3, l_4, l_5, l_6, l_7, l_8, l_9, l_10, l_11, l_12, l_13, l_14, l_15, l_16, l_17, l_18, l_19, l_20, l_21, l_22, l_23, l_24, l_25, l_30, l_31, l_32, l_40, l_48, l_54, l_57, l_59, l_60, l_61, l_62, l_63, l_65, l_66, l_72, l_82, l_92, l_93, l_94, l_97, l_99, l_100, l_101, l_102, l_103, l_104, l_105, l_107, l_108, l_109, l_110, l_111, l_112, l_114, l_115, l_116, l_117, l_119, l_121, l_122, l_136, l_200, l_255, l_300, l_364, l_900, l_1000, l_1456, l_1458, l_1459, l_1460, l_1462, l_1471, l_1504, l_1510, l_1522, l_1550, l_2971, l_9999, l_10000, l_10979, l_65536, l_m1, q_gi, if_true, reduceIte, Nat.reduceEqDiff]
      obtain ⟨f, f1, f2, f3⟩ := even_copy (sr (si (si M2 10 (nI 0)) 11 nM) 5 (upd (upd (ra M2 5) 92 (nI 1)) 93 (nI s1))) x3 x2
      have cl92 : (nI 92).toNatClampNeg = 92 := nI_clamp (by omega)
      have cl93 : (nI 93).toNatClampNeg = 93 := nI_clamp (by omega)
      have h50 : fX12_evenings_50 M2 = some (nI s1, sr (si (si M2 10 (nI 0)) 11 nM) 5 f) := by
        have g25 : gi (si (si M2 10 (nI 0)) 11 nM) 25 = nI s1 := x2
        rw [q_srsr] at f1
        simp only [fX12_evenings_50, hw, n_10, sa, cl92, cl93, q_gir, g25, q_ra, q_rai, q_srsr, f1, l_0, l_1, l_2, l_3, l_4, l_5, l_6, l_7, l_8, l_9, l_10, l_11, l_12, l_13, l_14, l_15, l_16, l_17, l_18, l_19, l_20, l_21, l_22, l_23, l_24, l_25, l_30, l_31, l_32, l_40, l_48, l_54, l_57, l_59, l_60, l_61, l_62, l_63, l_65, l_66, l_72, l_82, l_92, l_93, l_94, l_97, l_99, l_100, l_101, l_102, l_103, l_104, l_105, l_107, l_108, l_109, l_110, l_111, l_112, l_114, l_115, l_116, l_117, l_119, l_121, l_122, l_136, l_200, l_255, l_300, l_364, l_900, l_1000, l_1456, l_1458, l_1459, l_1460, l_1462, l_1471, l_1504, l_1510, l_1522, l_1550, l_2971, l_9999, l_10000, l_10979, l_65536, l_m1, if_true, if_false, Option.bind_some]
      obtain ⟨E3, y1, y2⟩ := E_copyFrom SE0 (si E2 0 (nI 1)) (m := p1) (by omega) x4 (Or.inr rfl)
      obtain ⟨z0', z1', z2', z3', z4', z5', z6', z7'⟩ := id y2
      refine ⟨(nI s1, si (si (si (si SC 5 (nI 0)) 8 (nI 0)) 9 nM) 0 (nI 0), R2, E3, si E2 0 (nI 1)), (nI s1, sr (si (si M2 10 (nI 0)) 11 nM) 5 f), ?_, ?_, rfl, ?_⟩
      · have g1 : gi E3 1 = nI s1 := z1'.trans x1
        simp only [fX11_evenings, l_0, l_1, l_2, l_3, l_4, l_5, l_6, l_7, l_8, l_9, l_10, l_11, l_12, l_13, l_14, l_15, l_16, l_17, l_18, l_19, l_20, l_21, l_22, l_23, l_24, l_25, l_30, l_31, l_32, l_40, l_48, l_54, l_57, l_59, l_60, l_61, l_62, l_63, l_65, l_66, l_72, l_82, l_92, l_93, l_94, l_97, l_99, l_100, l_101, l_102, l_103, l_104, l_105, l_107, l_108, l_109, l_110, l_111, l_112, l_114, l_115, l_116, l_117, l_119, l_121, l_122, l_136, l_200, l_255, l_300, l_364, l_900, l_1000, l_1456, l_1458, l_1459, l_1460, l_1462, l_1471, l_1504, l_1510, l_1522, l_1550, l_2971, l_9999, l_10000, l_10979, l_65536, l_m1, j0, q2, jm, j3, hrt, l2, fX11_keepFaultE, r9, r10, n_10, y1, g1, fX11_answer, fX11_refuse, fX11_deny, fX11_grant, fX12_refuse, fX12_no, if_true, if_false, Option.bind_some]
      · rw [hM, l1, h50]
      · have hk := rk0 M2 l7
        have cell : ∀ i, i < 92 ∨ 364 ≤ i → f i = ra M2 5 i := fun i hi => by
          rw [f3 i (by omega)]
          show upd (upd (ra M2 5) 92 (nI 1)) 93 (nI s1) i = _
          rw [up_n _ _ _ (by omega), up_n _ _ _ (by omega)]
        have low : ∀ i, i < 92 ∨ 364 ≤ i → i < 1456 → ra (sr (si (si M2 10 (nI 0)) 11 nM) 5 f) 5 i = ra SM 5 i := fun i h1 h2 => by
          rw [q_ra, if_pos rfl, cell i h1]; exact hk.2.2.2.2.1 i h2
        have f92 : f 92 = nI 1 := by
          rw [f3 92 (by omega)]
          show upd (upd (ra M2 5) 92 (nI 1)) 93 (nI s1) 92 = _
          rw [up_n _ _ _ (by omega), up_e _ _ _ rfl]
        have f93 : f 93 = nI s1 := by
          rw [f3 93 (by omega)]
          show upd (upd (ra M2 5) 92 (nI 1)) 93 (nI s1) 93 = _
          rw [up_e _ _ _ rfl]
        have rl7' : ∀ i, i < 92 → rl (sr (si (si M2 10 (nI 0)) 11 nM) 5 f) 7 i = rl SM 7 i := fun i hi => hk.2.2.2.2.2.2 i hi
        refine ⟨?_, ?_, ⟨rfl, rfl⟩, rl_Tz hT rfl hk.2.1 (hk.2.2.2.1 4 (by omega)), ?_, ?_, ?_, ?_⟩
        · show nI 0 = gi M2 0
          rw [l7.1 0 (by omega)]
          show nI 0 = gi M1 0
          rw [d6 0 (by omega)]; rfl
        · unfold rl_F at *
          show gl SC 1 = gl M2 2 ∧ gl SC 2 = gl M2 3
          rw [hk.2.2.1 2 (by omega), hk.2.2.1 3 (by omega)]; exact hF
        · unfold rl_Y at *
          have b1 : ra (sr (si (si M2 10 (nI 0)) 11 nM) 5 f) 1 = ra SM 1 := hk.2.2.2.1 1 (by omega)
          have b2' : ra (sr (si (si M2 10 (nI 0)) 11 nM) 5 f) 2 = ra SM 2 := hk.2.2.2.1 2 (by omega)
          have b3 : rl (sr (si (si M2 10 (nI 0)) 11 nM) 5 f) 3 = rl SM 3 := hk.2.2.2.2.2.1 3 (by omega)
          rw [b1, b2', b3]; exact ⟨hY0, hY1, hY2, hY3⟩
        · refine ⟨t, w, hC, fun i hi => ?_, fun i hi => ?_, fun i hi => ?_, fun i hi => ?_, ?_⟩
          · rw [Nat.zero_mul, Nat.zero_add, low i (by omega) (by omega)]; exact hNu i hi
          · rw [rl7' _ (by omega)]; exact n1 i hi
          · rw [rl7' _ (by omega)]; exact n2 i hi
          · rw [rl7' _ (by omega)]; exact n3 i hi
          · have c92 : (fun i => ra (sr (si (si M2 10 (nI 0)) 11 nM) 5 f) 5 (0 * 364 + i)) 92 = nI 1 := f92
            refine ⟨?_, p1, by omega, z2'.trans x4, Or.inr ⟨c92, s1, x3, f93, z1'.trans x1, ?_⟩⟩
            · rw [c92]; exact z0'
            · have l9' := ev_B_up _ 100 _ _ _ _ _ (by omega) l9
              refine ev_B_like y2 _ _ _ _ _ _ (Nat.le_refl _) (ev_B_keep (E := E2) (c := cM M2) (E' := si E2 0 (nI 1)) _ _ _ _ _ _ (fun _ _ _ _ => rfl) (fun i q1 q2 => ?_) l9')
              show f (0 * 364 + i) = ra M2 5 (1456 + i)
              rw [Nat.zero_mul, Nat.zero_add, f2 i (by omega) (by omega)]
              show upd (upd (ra M2 5) 92 (nI 1)) 93 (nI s1) (1456 + i) = _
              rw [up_n _ _ _ (by omega), up_n _ _ _ (by omega)]
        · unfold rl_K at *
          have b1 : gi (sr (si (si M2 10 (nI 0)) 11 nM) 5 f) 23 = gi SM 23 := hk.1 23 (by omega)
          rw [b1]
          obtain ⟨k, k1, k2, k3, k4, k5, k6⟩ := hK
          refine ⟨k, k1, k2, k3, fun h => ?_, fun h => ?_, fun h => ?_⟩
          · exact rl_B_keep (fun i hi => low _ (by omega) (by omega)) (fun i hi => rl7' _ (by omega)) (k4 h)
          · exact rl_B_keep (fun i hi => low _ (by omega) (by omega)) (fun i hi => rl7' _ (by omega)) (k5 h)
          · exact rl_B_keep (fun i hi => low _ (by omega) (by omega)) (fun i hi => rl7' _ (by omega)) (k6 h)
        · unfold rl_V at *
          have b1 : gi (sr (si (si M2 10 (nI 0)) 11 nM) 5 f) 40 = gi SM 40 := hk.1 40 (by omega)
          have b2' : ra (sr (si (si M2 10 (nI 0)) 11 nM) 5 f) 12 = ra SM 12 := hk.2.2.2.1 12 (by omega)
          rw [b1, b2']; exact hV
    · obtain ⟨fk, pl, k1, k2, k3, k4, k5, k6⟩ := l3
      have n0 : (nI fk = nI 0) = False := q_eqF (by omega) (by omega) (by omega)
      have h50 : fX12_evenings_50 M2 = some (nM, si (si (si M2 10 (nI fk)) 11 (nI pl)) 0 (nI 10)) := by
        simp only [fX12_evenings_50, fX12_isWell, fX12_isWell_24, k5, k6, n0, l_0, l_1, l_2, l_3, l_4, l_5, l_6, l_7, l_8, l_9, l_10, l_11, l_12, l_13, l_14, l_15, l_16, l_17, l_18, l_19, l_20, l_21, l_22, l_23, l_24, l_25, l_30, l_31, l_32, l_40, l_48, l_54, l_57, l_59, l_60, l_61, l_62, l_63, l_65, l_66, l_72, l_82, l_92, l_93, l_94, l_97, l_99, l_100, l_101, l_102, l_103, l_104, l_105, l_107, l_108, l_109, l_110, l_111, l_112, l_114, l_115, l_116, l_117, l_119, l_121, l_122, l_136, l_200, l_255, l_300, l_364, l_900, l_1000, l_1456, l_1458, l_1459, l_1460, l_1462, l_1471, l_1504, l_1510, l_1522, l_1550, l_2971, l_9999, l_10000, l_10979, l_65536, l_m1, fX11_answer, fX11_refuse, fX11_deny, fX11_grant, fX12_refuse, fX12_no, q_gi, if_true, if_false, reduceIte, Nat.reduceEqDiff, Option.bind_some]
      refine ⟨(nM, si (si (si (si SC 5 (nI 0)) 8 (nI fk)) 9 (nI pl)) 0 (nI 10), R2, SE0, E2), (nM, si (si (si M2 10 (nI fk)) 11 (nI pl)) 0 (nI 10)), ?_, ?_, rfl, rl_fault hR (rk0 M2 l4) _ _ _⟩
      · simp only [fX11_evenings, l_0, l_1, l_2, l_3, l_4, l_5, l_6, l_7, l_8, l_9, l_10, l_11, l_12, l_13, l_14, l_15, l_16, l_17, l_18, l_19, l_20, l_21, l_22, l_23, l_24, l_25, l_30, l_31, l_32, l_40, l_48, l_54, l_57, l_59, l_60, l_61, l_62, l_63, l_65, l_66, l_72, l_82, l_92, l_93, l_94, l_97, l_99, l_100, l_101, l_102, l_103, l_104, l_105, l_107, l_108, l_109, l_110, l_111, l_112, l_114, l_115, l_116, l_117, l_119, l_121, l_122, l_136, l_200, l_255, l_300, l_364, l_900, l_1000, l_1456, l_1458, l_1459, l_1460, l_1462, l_1471, l_1504, l_1510, l_1522, l_1550, l_2971, l_9999, l_10000, l_10979, l_65536, l_m1, j0, q2, jm, j3, hrt, l2, fX11_keepFaultE, k3, k4, fX11_answer, fX11_refuse, fX11_deny, fX11_grant, fX12_refuse, fX12_no, if_true, if_false, Option.bind_some]
      · rw [hM, l1, h50]
