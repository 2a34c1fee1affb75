section Q42
variable {M : ms_T} {t : Nat → Nat}
theorem prt_le (t : Nat → Nat) (s : Nat) : ∀ n, (∀ i, i < n → t (66 + i) ≤ 16) → prt t s n ≤ 16 ^ n
  | 0, _ => Nat.le_refl _
  | n + 1, h => by
    have ih := prt_le t s n (fun i hi => h i (by omega))
    have hn := h n (by omega)
    show prt t s n * _ ≤ _
    rw [Nat.pow_succ]
    refine Nat.mul_le_mul ih ?_
    split <;> omega
theorem M_chutes (w : tb_W t) (h : tb_N M t) {k : Nat} (hk : k ≤ 6) : fX12_chutes_36 FU M (nI k) (0 : Int64) (0 : Int64) (nI 0) = some (nI 1, sl (sl M 2 (lN (hmo t k / Nat.gcd (hmo t k) (16 ^ t 2)))) 3 (lN (16 ^ t 2 / Nat.gcd (hmo t k) (16 ^ t 2)))) := by
  obtain ⟨w0, w1, w2, w3, w4, w5, w6, w7, w8, w9⟩ := id w
  have hu : ∀ i, i < 92 → ra M 5 i = nI (t i) := h
  have fl : ∀ i, i < t 2 → t (66 + i) ≤ 16 := fun i hi => (w7 i hi).2.2.2
  have p2 : (2 : Nat) ^ t 2 ≤ 2 ^ 6 := Nat.pow_le_pow_right (by decide) w2
  have p16 : (16 : Nat) ^ t 2 ≤ 16 ^ 6 := Nat.pow_le_pow_right (by decide) w2
  have p0 : 16 ^ t 2 ≠ 0 := by have := Nat.pow_pos (a := 16) (n := t 2) (by decide); omega
  have eall : sm (fun x => prt t x (t 2)) (2 ^ t 2) = 16 ^ t 2 := by
    have := sets_w t (t 2) (fun _ => 1)
    simp only [Nat.mul_one] at this
    rw [this]; exact hd_sum (t 2) fl
  have esome : sm (fun x => prt t x (t 2) * (if k ≤ siz x (t 2) then 1 else 0)) (2 ^ t 2) = hmo t k := by
    have := sets_w t (t 2) (fun j => if k ≤ j then 1 else 0)
    rw [this]
    unfold hmo
    refine sm_cong (fun j _ => ?_)
    split <;> simp
  have hle : hmo t k ≤ 16 ^ t 2 := by
    rw [← esome, ← eall]
    have : ∀ n, sm (fun x => prt t x (t 2) * (if k ≤ siz x (t 2) then 1 else 0)) n ≤ sm (fun x => prt t x (t 2)) n := by
      intro n
      induction n with
      | zero => exact Nat.le_refl _
      | succ n ih =>
        rw [sm_s, sm_s]
        have : prt t n (t 2) * (if k ≤ siz n (t 2) then 1 else 0) ≤ prt t n (t 2) := by split <;> simp
        omega
    exact this _
  obtain ⟨r, e, hr⟩ := lp_up (fun f i (s : Int64 × Int64) => fX12_chutes_36 f M (nI k) s.1 s.2 i) (2 ^ t 2) (fun m s => s.1 = lN (sm (fun x => prt t x (t 2) * (if k ≤ siz x (t 2) then 1 else 0)) m) ∧ s.2 = lN (sm (fun x => prt t x (t 2)) m))
    (fun r => r = (nI 1, sl (sl M 2 (lN (hmo t k / Nat.gcd (hmo t k) (16 ^ t 2)))) 3 (lN (16 ^ t 2 / Nat.gcd (hmo t k) (16 ^ t 2)))))
    (fun f s hs => by
      rw [esome, eall] at hs
      have ef := M_fraction M (x := hmo t k) (y := 16 ^ t 2) (by omega) (by omega) p0
      refine ⟨_, ?_, rfl⟩
      simp (disch := omega) only [fX12_chutes_36, hu, q_one, hs.1, hs.2, ef, l_0, l_1, l_2, l_3, l_4, l_5, l_6, l_7, l_8, l_9, l_10, l_11, l_12, l_13, l_14, l_15, l_16, l_17, l_18, l_19, l_20, l_21, l_22, l_23, l_24, l_25, l_30, l_31, l_32, l_40, l_48, l_54, l_57, l_59, l_60, l_61, l_62, l_63, l_65, l_66, l_72, l_82, l_92, l_93, l_94, l_97, l_99, l_100, l_101, l_102, l_103, l_104, l_105, l_107, l_108, l_109, l_110, l_111, l_112, l_114, l_115, l_116, l_117, l_119, l_121, l_122, l_136, l_200, l_255, l_300, l_364, l_900, l_1000, l_1456, l_1458, l_1459, l_1460, l_1462, l_1471, l_1504, l_1510, l_1522, l_1550, l_2971, l_9999, l_10000, l_10979, l_65536, l_m1, nI_add, pk_mul, q_sub, q_ltT, q_ltF, q_leT, q_leF, q_eqT, q_eqF, q_inT, q_inF, nI_clamp, q_mlt, q_mle, q_mne, q_mne2, q_mnlt, q_mnle, q_gi, q_gil, q_gir, q_giR, q_gl, q_gli, q_glr, q_glR, q_ra, q_rai, q_ral, q_raR, q_rl, q_rli, q_rll, q_rlr, sa, sA, ia, la, q_srsr, q_sRsR, Option.bind_some, if_true, if_false, reduceIte, ite_not, not_true_eq_false, not_false_eq_true, q_z1, Nat.reduceEqDiff])
    (fun f x s hx hs => by
      left
      have es := M_sizeOf (x := x) (by omega)
      have e10 : sm (fun i => b2 (x.testBit i)) 10 = siz x (t 2) := siz_10 hx (by omega)
      rw [e10] at es
      have sl : siz x (t 2) ≤ t 2 * 1 := sm_le (fun i _ => b2_le _)
      obtain ⟨v, g1, g2⟩ := lp_eq (fun n i v => fX12_chutes_55 (fX12_chutes_36 f) n M (nI k) s.1 s.2 (nI x) v i) (fun v => fX12_chutes_36 f M (nI k) (if k ≤ siz x (t 2) then s.1 + v else s.1 + 0) (s.2 + v) (nI (x + 1))) (t 2) (fun m v => v = lN (prt t x m))
        (fun n v hv => by
          by_cases d : k ≤ siz x (t 2)
          · simp (disch := omega) only [fX12_chutes_55, hu, es, d, l_0, l_1, l_2, l_3, l_4, l_5, l_6, l_7, l_8, l_9, l_10, l_11, l_12, l_13, l_14, l_15, l_16, l_17, l_18, l_19, l_20, l_21, l_22, l_23, l_24, l_25, l_30, l_31, l_32, l_40, l_48, l_54, l_57, l_59, l_60, l_61, l_62, l_63, l_65, l_66, l_72, l_82, l_92, l_93, l_94, l_97, l_99, l_100, l_101, l_102, l_103, l_104, l_105, l_107, l_108, l_109, l_110, l_111, l_112, l_114, l_115, l_116, l_117, l_119, l_121, l_122, l_136, l_200, l_255, l_300, l_364, l_900, l_1000, l_1456, l_1458, l_1459, l_1460, l_1462, l_1471, l_1504, l_1510, l_1522, l_1550, l_2971, l_9999, l_10000, l_10979, l_65536, l_m1, nI_add, pk_mul, q_sub, q_ltT, q_ltF, q_leT, q_leF, q_eqT, q_eqF, q_inT, q_inF, nI_clamp, q_mlt, q_mle, q_mne, q_mne2, q_mnlt, q_mnle, q_gi, q_gil, q_gir, q_giR, q_gl, q_gli, q_glr, q_glR, q_ra, q_rai, q_ral, q_raR, q_rl, q_rli, q_rll, q_rlr, sa, sA, ia, la, q_srsr, q_sRsR, Option.bind_some, if_true, if_false, reduceIte, ite_not, not_true_eq_false, not_false_eq_true, q_z1, Nat.reduceEqDiff]
          · simp (disch := omega) only [fX12_chutes_55, hu, es, d, l_0, l_1, l_2, l_3, l_4, l_5, l_6, l_7, l_8, l_9, l_10, l_11, l_12, l_13, l_14, l_15, l_16, l_17, l_18, l_19, l_20, l_21, l_22, l_23, l_24, l_25, l_30, l_31, l_32, l_40, l_48, l_54, l_57, l_59, l_60, l_61, l_62, l_63, l_65, l_66, l_72, l_82, l_92, l_93, l_94, l_97, l_99, l_100, l_101, l_102, l_103, l_104, l_105, l_107, l_108, l_109, l_110, l_111, l_112, l_114, l_115, l_116, l_117, l_119, l_121, l_122, l_136, l_200, l_255, l_300, l_364, l_900, l_1000, l_1456, l_1458, l_1459, l_1460, l_1462, l_1471, l_1504, l_1510, l_1522, l_1550, l_2971, l_9999, l_10000, l_10979, l_65536, l_m1, nI_add, pk_mul, q_sub, q_ltT, q_ltF, q_leT, q_leF, q_eqT, q_eqF, q_inT, q_inF, nI_clamp, q_mlt, q_mle, q_mne, q_mne2, q_mnlt, q_mnle, q_gi, q_gil, q_gir, q_giR, q_gl, q_gli, q_glr, q_glR, q_ra, q_rai, q_ral, q_raR, q_rl, q_rli, q_rll, q_rlr, sa, sA, ia, la, q_srsr, q_sRsR, Option.bind_some, if_true, if_false, reduceIte, ite_not, not_true_eq_false, not_false_eq_true, q_z1, Nat.reduceEqDiff])
        (fun n m v hm hv => by
          subst hv
          have b7 := w7 m hm
          have eh := N_has (x := x) (k := m) (by omega) (by omega)
          have ef : (nI (t (66 + m))).toInt64 = lN (t (66 + m)) := nI_l (by omega)
          have eg : (nI (16 - t (66 + m))).toInt64 = lN (16 - t (66 + m)) := nI_l (by omega)
          refine ⟨_, rfl, ?_⟩
          show _ = fX12_chutes_55 (fX12_chutes_36 f) n M (nI k) s.1 s.2 (nI x) (lN (prt t x m * (if x.testBit m then 16 - t (66 + m) else t (66 + m)))) (nI (m + 1))
          cases hc : x.testBit m
          · rw [hc] at eh
            simp (disch := omega) only [fX12_chutes_55, hu, eh, ef, lN_mul, bi, b2_0, l_0, l_1, l_2, l_3, l_4, l_5, l_6, l_7, l_8, l_9, l_10, l_11, l_12, l_13, l_14, l_15, l_16, l_17, l_18, l_19, l_20, l_21, l_22, l_23, l_24, l_25, l_30, l_31, l_32, l_40, l_48, l_54, l_57, l_59, l_60, l_61, l_62, l_63, l_65, l_66, l_72, l_82, l_92, l_93, l_94, l_97, l_99, l_100, l_101, l_102, l_103, l_104, l_105, l_107, l_108, l_109, l_110, l_111, l_112, l_114, l_115, l_116, l_117, l_119, l_121, l_122, l_136, l_200, l_255, l_300, l_364, l_900, l_1000, l_1456, l_1458, l_1459, l_1460, l_1462, l_1471, l_1504, l_1510, l_1522, l_1550, l_2971, l_9999, l_10000, l_10979, l_65536, l_m1, nI_add, pk_mul, q_sub, q_ltT, q_ltF, q_leT, q_leF, q_eqT, q_eqF, q_inT, q_inF, nI_clamp, q_mlt, q_mle, q_mne, q_mne2, q_mnlt, q_mnle, q_gi, q_gil, q_gir, q_giR, q_gl, q_gli, q_glr, q_glR, q_ra, q_rai, q_ral, q_raR, q_rl, q_rli, q_rll, q_rlr, sa, sA, ia, la, q_srsr, q_sRsR, Option.bind_some, if_true, if_false, reduceIte, ite_not, not_true_eq_false, not_false_eq_true, q_z1, Nat.reduceEqDiff, Bool.false_eq_true]
          · rw [hc] at eh
            simp (disch := omega) only [fX12_chutes_55, hu, eh, eg, lN_mul, bi, b2_1, l_0, l_1, l_2, l_3, l_4, l_5, l_6, l_7, l_8, l_9, l_10, l_11, l_12, l_13, l_14, l_15, l_16, l_17, l_18, l_19, l_20, l_21, l_22, l_23, l_24, l_25, l_30, l_31, l_32, l_40, l_48, l_54, l_57, l_59, l_60, l_61, l_62, l_63, l_65, l_66, l_72, l_82, l_92, l_93, l_94, l_97, l_99, l_100, l_101, l_102, l_103, l_104, l_105, l_107, l_108, l_109, l_110, l_111, l_112, l_114, l_115, l_116, l_117, l_119, l_121, l_122, l_136, l_200, l_255, l_300, l_364, l_900, l_1000, l_1456, l_1458, l_1459, l_1460, l_1462, l_1471, l_1504, l_1510, l_1522, l_1550, l_2971, l_9999, l_10000, l_10979, l_65536, l_m1, nI_add, pk_mul, q_sub, q_ltT, q_ltF, q_leT, q_leF, q_eqT, q_eqF, q_inT, q_inF, nI_clamp, q_mlt, q_mle, q_mne, q_mne2, q_mnlt, q_mnle, q_gi, q_gil, q_gir, q_giR, q_gl, q_gli, q_glr, q_glR, q_ra, q_rai, q_ral, q_raR, q_rl, q_rli, q_rll, q_rlr, sa, sA, ia, la, q_srsr, q_sRsR, Option.bind_some, if_true, if_false, reduceIte, ite_not, not_true_eq_false, not_false_eq_true, q_z1, Nat.reduceEqDiff]) (1 : Int64) FU rfl (by unfold FU; omega)
      refine ⟨(if k ≤ siz x (t 2) then s.1 + v else s.1 + 0, s.2 + v), ⟨?_, ?_⟩, ?_⟩
      · show (if k ≤ siz x (t 2) then s.1 + v else s.1 + 0) = _
        rw [sm_s, g1, hs.1]
        by_cases d : k ≤ siz x (t 2)
        · rw [if_pos d, if_pos d, lN_add, Nat.mul_one]
        · rw [if_neg d, if_neg d, Nat.mul_zero, Nat.add_zero, show (0 : Int64) = lN 0 from rfl, lN_add, Nat.add_zero]
      · show s.2 + v = _
        rw [sm_s, g1, hs.2, lN_add]
      · rw [← g2]
        simp (disch := omega) only [fX12_chutes_36, hu, q_one, l_0, l_1, l_2, l_3, l_4, l_5, l_6, l_7, l_8, l_9, l_10, l_11, l_12, l_13, l_14, l_15, l_16, l_17, l_18, l_19, l_20, l_21, l_22, l_23, l_24, l_25, l_30, l_31, l_32, l_40, l_48, l_54, l_57, l_59, l_60, l_61, l_62, l_63, l_65, l_66, l_72, l_82, l_92, l_93, l_94, l_97, l_99, l_100, l_101, l_102, l_103, l_104, l_105, l_107, l_108, l_109, l_110, l_111, l_112, l_114, l_115, l_116, l_117, l_119, l_121, l_122, l_136, l_200, l_255, l_300, l_364, l_900, l_1000, l_1456, l_1458, l_1459, l_1460, l_1462, l_1471, l_1504, l_1510, l_1522, l_1550, l_2971, l_9999, l_10000, l_10979, l_65536, l_m1, nI_add, pk_mul, q_sub, q_ltT, q_ltF, q_leT, q_leF, q_eqT, q_eqF, q_inT, q_inF, nI_clamp, q_mlt, q_mle, q_mne, q_mne2, q_mnlt, q_mnle, q_gi, q_gil, q_gir, q_giR, q_gl, q_gli, q_glr, q_glR, q_ra, q_rai, q_ral, q_raR, q_rl, q_rli, q_rll, q_rlr, sa, sA, ia, la, q_srsr, q_sRsR, Option.bind_some, if_true, if_false, reduceIte, ite_not, not_true_eq_false, not_false_eq_true, q_z1, Nat.reduceEqDiff]) 0 ((0 : Int64), (0 : Int64)) FU (Nat.zero_le _) ⟨rfl, rfl⟩ (by unfold FU; omega)
  rw [← hr]; exact e
end Q42
theorem o_chutes : op_chutes Rl := by
  intro SC SY0 SY1 SY2 SY3 SB ST0 SE0 ST2 SE2 ST3 SE3 ST4 SE4 SV0 SM SP0 SK hR a1
  obtain ⟨hs, hF, hU, hT, ⟨hY0, hY1, hY2, hY3⟩, ⟨t, w, hC, hN0, n1, n2, n3, hE⟩, hK, hV⟩ := id hR
  have hN := tb_N0 hN0
  have hN2 : tb_N (si (si SM 1 (nI 0)) 0 (nI 0)) t := hN
  have hNu : ∀ i, i < 92 → ra SM 5 i = nI (t i) := hN
  obtain ⟨w0, w1, w2, w3, w4, w5, w6, w7, w8, w9⟩ := id w
  obtain ⟨h0, h1, h2, h3, h4, h5, h6, h7, h8, h9, h10, h11, h12, h13, h14, h15, h16⟩ := id hC
  have hI := q_isInL a1 (b := 6) 7 (by omega) (by decide)
  have ex : fX11_chutes_10 SP0 ST0 SC SK = some (nI 0, si SC 0 (nI 5), SK) := by simp only [fX11_chutes_10, fX11_answer, fX11_refuse, fX11_deny, fX11_grant, fX12_refuse, fX12_no, l_0, l_1, l_2, l_3, l_4, l_5, l_6, l_7, l_8, l_9, l_10, l_11, l_12, l_13, l_14, l_15, l_16, l_17, l_18, l_19, l_20, l_21, l_22, l_23, l_24, l_25, l_30, l_31, l_32, l_40, l_48, l_54, l_57, l_59, l_60, l_61, l_62, l_63, l_65, l_66, l_72, l_82, l_92, l_93, l_94, l_97, l_99, l_100, l_101, l_102, l_103, l_104, l_105, l_107, l_108, l_109, l_110, l_111, l_112, l_114, l_115, l_116, l_117, l_119, l_121, l_122, l_136, l_200, l_255, l_300, l_364, l_900, l_1000, l_1456, l_1458, l_1459, l_1460, l_1462, l_1471, l_1504, l_1510, l_1522, l_1550, l_2971, l_9999, l_10000, l_10979, l_65536, l_m1, Option.bind_some, if_true, if_false, reduceIte, ite_not, not_true_eq_false, not_false_eq_true, q_z1, Nat.reduceEqDiff, q_z0]
  rcases q_ix a1 7 (by omega) with ⟨h, e⟩ | ⟨h, h2', e⟩ | ⟨k, hk, rfl⟩
  · simp (disch := omega) only [fX11_chutes, fX12_chutes, fX11_answer, fX11_refuse, fX11_deny, fX11_grant, fX12_refuse, fX12_no, ex, hI, e, bi, b2_0, h, l_0, l_1, l_2, l_3, l_4, l_5, l_6, l_7, l_8, l_9, l_10, l_11, l_12, l_13, l_14, l_15, l_16, l_17, l_18, l_19, l_20, l_21, l_22, l_23, l_24, l_25, l_30, l_31, l_32, l_40, l_48, l_54, l_57, l_59, l_60, l_61, l_62, l_63, l_65, l_66, l_72, l_82, l_92, l_93, l_94, l_97, l_99, l_100, l_101, l_102, l_103, l_104, l_105, l_107, l_108, l_109, l_110, l_111, l_112, l_114, l_115, l_116, l_117, l_119, l_121, l_122, l_136, l_200, l_255, l_300, l_364, l_900, l_1000, l_1456, l_1458, l_1459, l_1460, l_1462, l_1471, l_1504, l_1510, l_1522, l_1550, l_2971, l_9999, l_10000, l_10979, l_65536, l_m1, nI_add, pk_mul, q_sub, q_ltT, q_ltF, q_leT, q_leF, q_eqT, q_eqF, q_inT, q_inF, nI_clamp, q_mlt, q_mle, q_mne, q_mne2, q_mnlt, q_mnle, Option.bind_some, if_true, if_false, reduceIte, ite_not, not_true_eq_false, not_false_eq_true, q_z1, Nat.reduceEqDiff, q_z0]
    exact ⟨_, _, rfl, rfl, rfl, rl_st2 hR _ _⟩
  · simp (disch := omega) only [fX11_chutes, fX12_chutes, fX11_answer, fX11_refuse, fX11_deny, fX11_grant, fX12_refuse, fX12_no, ex, hI, e, bi, b2_0, h2', q_bgle h, l_0, l_1, l_2, l_3, l_4, l_5, l_6, l_7, l_8, l_9, l_10, l_11, l_12, l_13, l_14, l_15, l_16, l_17, l_18, l_19, l_20, l_21, l_22, l_23, l_24, l_25, l_30, l_31, l_32, l_40, l_48, l_54, l_57, l_59, l_60, l_61, l_62, l_63, l_65, l_66, l_72, l_82, l_92, l_93, l_94, l_97, l_99, l_100, l_101, l_102, l_103, l_104, l_105, l_107, l_108, l_109, l_110, l_111, l_112, l_114, l_115, l_116, l_117, l_119, l_121, l_122, l_136, l_200, l_255, l_300, l_364, l_900, l_1000, l_1456, l_1458, l_1459, l_1460, l_1462, l_1471, l_1504, l_1510, l_1522, l_1550, l_2971, l_9999, l_10000, l_10979, l_65536, l_m1, nI_add, pk_mul, q_sub, q_ltT, q_ltF, q_leT, q_leF, q_eqT, q_eqF, q_inT, q_inF, nI_clamp, q_mlt, q_mle, q_mne, q_mne2, q_mnlt, q_mnle, Option.bind_some, if_true, if_false, reduceIte, ite_not, not_true_eq_false, not_false_eq_true, q_z1, Nat.reduceEqDiff, q_z0]
    exact ⟨_, _, rfl, rfl, rfl, rl_st2 hR _ _⟩
  · have ek : inb (nI k) 7 = true := q_inT hk (by omega)
    obtain ⟨K', g1⟩ := K_holding (K := SK) w hC (k := k) (by omega)
    have g2 := M_chutes w hN2 (k := k) (by omega)
    have g2' : fX12_chutes_36 FU (si (si SM 1 (nI 0)) 0 (nI 0)) (nI k) (0 : Int64) (0 : Int64) (nI 0) = _ := g2
    have p16 : (16 : Nat) ^ t 2 ≤ 16 ^ 6 := Nat.pow_le_pow_right (by decide) w2
    have p0 : 16 ^ t 2 ≠ 0 := by have := Nat.pow_pos (a := 16) (n := t 2) (by decide); omega
    have fl : ∀ i, i < t 2 → t (66 + i) ≤ 16 := fun i hi => (w7 i hi).2.2.2
    have hle : hmo t k ≤ 16 ^ t 2 := by
      rw [← hd_sum (t 2) fl]
      unfold hmo
      have : ∀ n, sm (fun j => if k ≤ j then hd t (t 2) j else 0) n ≤ sm (hd t (t 2)) n := by
        intro n
        induction n with
        | zero => exact Nat.le_refl _
        | succ n ih =>
          rw [sm_s, sm_s]
          have : (if k ≤ n then hd t (t 2) n else 0) ≤ hd t (t 2) n := by split <;> omega
          omega
      exact this _
    have t1 := C_tell SC (x := hmo t k) (y := 16 ^ t 2) (by omega) (by omega) p0
    have e4 := q_shl16 (t 2) (by omega)
    simp (disch := omega) only [fX11_chutes, fX12_chutes, hI, ek, h4, g1, g2', t1, e4, bi, b2_1, l_0, l_1, l_2, l_3, l_4, l_5, l_6, l_7, l_8, l_9, l_10, l_11, l_12, l_13, l_14, l_15, l_16, l_17, l_18, l_19, l_20, l_21, l_22, l_23, l_24, l_25, l_30, l_31, l_32, l_40, l_48, l_54, l_57, l_59, l_60, l_61, l_62, l_63, l_65, l_66, l_72, l_82, l_92, l_93, l_94, l_97, l_99, l_100, l_101, l_102, l_103, l_104, l_105, l_107, l_108, l_109, l_110, l_111, l_112, l_114, l_115, l_116, l_117, l_119, l_121, l_122, l_136, l_200, l_255, l_300, l_364, l_900, l_1000, l_1456, l_1458, l_1459, l_1460, l_1462, l_1471, l_1504, l_1510, l_1522, l_1550, l_2971, l_9999, l_10000, l_10979, l_65536, l_m1, nI_add, pk_mul, q_sub, q_ltT, q_ltF, q_leT, q_leF, q_eqT, q_eqF, q_inT, q_inF, nI_clamp, q_mlt, q_mle, q_mne, q_mne2, q_mnlt, q_mnle, Option.bind_some, if_true, if_false, reduceIte, ite_not, not_true_eq_false, not_false_eq_true, q_z1, Nat.reduceEqDiff]
    exact ⟨_, _, rfl, rfl, rfl, rl_frac (rl_st hR (nI 0)) _ _⟩
