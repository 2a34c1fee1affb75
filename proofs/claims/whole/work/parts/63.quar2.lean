section Q63
variable {T M S : ms_T} {t : Nat → Nat}
theorem pw_6 {wd k : Nat} (hw : wd ≤ 6) (hk : k ≤ 6) : wd ^ k ≤ 46656 := by
  have h1 : wd ^ k ≤ 6 ^ k := Nat.pow_le_pow_left hw k
  have h2 : 6 ^ k ≤ 6 ^ 6 := Nat.pow_le_pow_right (by decide) hk
  exact Nat.le_trans h1 h2
theorem M_laysQuarrels (w : tb_W t) (h : tb_N M t) {wd : Nat} (hw : 0 < wd) (hw2 : wd ≤ 6) : ∃ S' m i, fX12_laysQuarrels M (nI wd) = some S' ∧ sq M S' ∧ gi S' 33 = nI m ∧ gi S' 34 = nI i ∧ fmn (qn t wd) (wd ^ t 2) m i := by
  have w2 := w.2.2.1
  have hu : ∀ i, i < 92 → ra M 5 i = nI (t i) := h
  have hb := pw_6 hw2 w2
  have hp : 0 < wd ^ t 2 := Nat.pow_pos hw
  obtain ⟨S', e, h1, h2⟩ := M_quar31 w h hw (by omega) (N := wd ^ t 2) (by omega)
  rcases h2 with ⟨c, _⟩ | ⟨m, i, h3, h4, h5⟩
  · omega
  · refine ⟨S', m, i, ?_, h1, h3, h4, h5⟩
    unfold fX12_laysQuarrels
    obtain ⟨r, e2, rfl⟩ := lp_up (fun x k s => fX12_laysQuarrels_4 x M (nI wd) s k) (t 2) (fun k s => s = nI (wd ^ k)) (fun r => r = S')
      (fun x s hs => by
        subst hs
        refine ⟨S', ?_, rfl⟩
        rw [← e]
        simp (disch := omega) only [fX12_laysQuarrels_4, hu, l_0, l_1, l_2, l_3, l_4, l_5, l_6, l_7, l_8, l_9, l_10, l_11, l_12, l_13, l_14, l_15, l_16, l_17, l_18, l_19, l_20, l_21, l_22, l_23, l_24, l_25, l_30, l_31, l_32, l_40, l_48, l_54, l_57, l_59, l_60, l_61, l_62, l_63, l_65, l_66, l_72, l_82, l_92, l_93, l_94, l_97, l_99, l_100, l_101, l_102, l_103, l_104, l_105, l_107, l_108, l_109, l_110, l_111, l_112, l_114, l_115, l_116, l_117, l_119, l_121, l_122, l_136, l_200, l_255, l_300, l_364, l_900, l_1000, l_1456, l_1458, l_1459, l_1460, l_1462, l_1471, l_1504, l_1510, l_1522, l_1550, l_2971, l_9999, l_10000, l_10979, l_65536, l_m1, nI_add, pk_mul, q_sub, q_ltT, q_ltF, q_leT, q_leF, q_eqT, q_eqF, q_inT, q_inF, nI_clamp, q_mlt, q_mle, q_mne, q_mne2, q_mnlt, q_mnle, q_gi, q_gil, q_gir, q_giR, q_gl, q_gli, q_glr, q_glR, q_ra, q_rai, q_ral, q_raR, q_rl, q_rli, q_rll, q_rlr, sa, sA, ia, la, q_srsr, q_sRsR, Option.bind_some, if_true, if_false, reduceIte, ite_not, not_true_eq_false, not_false_eq_true, q_z1, Nat.reduceEqDiff])
      (fun x k s hk hs => by
        left
        subst hs
        have b1 := pw_6 hw2 (k := k) (by omega)
        refine ⟨nI (wd ^ (k + 1)), rfl, ?_⟩
        rw [Nat.pow_succ]
        simp (disch := omega) only [fX12_laysQuarrels_4, hu, l_0, l_1, l_2, l_3, l_4, l_5, l_6, l_7, l_8, l_9, l_10, l_11, l_12, l_13, l_14, l_15, l_16, l_17, l_18, l_19, l_20, l_21, l_22, l_23, l_24, l_25, l_30, l_31, l_32, l_40, l_48, l_54, l_57, l_59, l_60, l_61, l_62, l_63, l_65, l_66, l_72, l_82, l_92, l_93, l_94, l_97, l_99, l_100, l_101, l_102, l_103, l_104, l_105, l_107, l_108, l_109, l_110, l_111, l_112, l_114, l_115, l_116, l_117, l_119, l_121, l_122, l_136, l_200, l_255, l_300, l_364, l_900, l_1000, l_1456, l_1458, l_1459, l_1460, l_1462, l_1471, l_1504, l_1510, l_1522, l_1550, l_2971, l_9999, l_10000, l_10979, l_65536, l_m1, nI_add, pk_mul, q_sub, q_ltT, q_ltF, q_leT, q_leF, q_eqT, q_eqF, q_inT, q_inF, nI_clamp, q_mlt, q_mle, q_mne, q_mne2, q_mnlt, q_mnle, q_gi, q_gil, q_gir, q_giR, q_gl, q_gli, q_glr, q_glR, q_ra, q_rai, q_ral, q_raR, q_rl, q_rli, q_rll, q_rlr, sa, sA, ia, la, q_srsr, q_sRsR, Option.bind_some, if_true, if_false, reduceIte, ite_not, not_true_eq_false, not_false_eq_true, q_z1, Nat.reduceEqDiff]) 0 (nI 1) FU (by omega) rfl (by unfold FU; omega)
    exact e2
end Q63
