/-! the relation at the start -/
def t0s : Nat → Nat := fun i => if i = 4 then 4 else 0
theorem M_empties0 (S : ms_T) : ∃ f, fX12_empties S (nI 0) = some (sr S 5 f) ∧ ∀ i, i < 364 → f i = nI (t0s i) := by
  have e0 : S = sr S 5 (ra S 5) := by
    unfold sr
    refine Prod.ext rfl (Prod.ext rfl (Prod.ext ?_ rfl))
    funext b
    show S.2.2.1 b = if b = 5 then S.2.2.1 5 else S.2.2.1 b
    split
    · next c => rw [c]
    · rfl
  obtain ⟨r, h1, f, rfl, h2⟩ := lp_up (fun x i f => fX12_empties_2 x (sr S 5 f) (nI 0) i) 364 (fun k f => ∀ i, i < k → f i = nI 0) (fun r => ∃ f, r = sr S 5 f ∧ ∀ i, i < 364 → f i = nI (t0s i))
    (fun x f hf => by
      refine ⟨sr S 5 (upd f 4 (nI 4)), ?_, upd f 4 (nI 4), rfl, fun i hi => ?_⟩
      · simp (disch := omega) only [fX12_empties_2, Nat.mul_zero, Nat.zero_add, l_0, l_1, l_2, l_3, l_4, l_5, l_6, l_7, l_8, l_9, l_10, l_11, l_12, l_13, l_14, l_15, l_16, l_17, l_18, l_19, l_20, l_21, l_22, l_23, l_24, l_25, l_30, l_31, l_32, l_40, l_48, l_54, l_57, l_59, l_60, l_61, l_62, l_63, l_65, l_66, l_72, l_82, l_92, l_93, l_94, l_97, l_99, l_100, l_101, l_102, l_103, l_104, l_105, l_107, l_108, l_109, l_110, l_111, l_112, l_114, l_115, l_116, l_117, l_119, l_121, l_122, l_136, l_200, l_255, l_300, l_364, l_900, l_1000, l_1456, l_1458, l_1459, l_1460, l_1462, l_1471, l_1504, l_1510, l_1522, l_1550, l_2971, l_9999, l_10000, l_10979, l_65536, l_m1, nI_add, pk_mul, q_sub, q_ltT, q_ltF, q_leT, q_leF, q_eqT, q_eqF, q_inT, q_inF, nI_clamp, q_mlt, q_mle, q_mne, q_mne2, q_mnlt, q_mnle, q_gi, q_gil, q_gir, q_giR, q_gl, q_gli, q_glr, q_glR, q_ra, q_rai, q_ral, q_raR, q_rl, q_rli, q_rll, q_rlr, sa, sA, ia, la, q_srsr, q_sRsR, Option.bind_some, if_true, if_false, reduceIte, ite_not, not_true_eq_false, not_false_eq_true, q_z1, Nat.reduceEqDiff]
      · unfold t0s
        by_cases c : i = 4
        · rw [up_e _ _ _ c, if_pos c]
        · rw [up_n _ _ _ c, if_neg c]; exact hf i hi)
    (fun x k f hk hf => by
      left
      refine ⟨upd f k (nI 0), fun i hi => ?_, ?_⟩
      · by_cases c : i = k
        · rw [up_e _ _ _ c]
        · rw [up_n _ _ _ c]; exact hf i (by omega)
      · simp (disch := omega) only [fX12_empties_2, Nat.mul_zero, Nat.zero_add, l_0, l_1, l_2, l_3, l_4, l_5, l_6, l_7, l_8, l_9, l_10, l_11, l_12, l_13, l_14, l_15, l_16, l_17, l_18, l_19, l_20, l_21, l_22, l_23, l_24, l_25, l_30, l_31, l_32, l_40, l_48, l_54, l_57, l_59, l_60, l_61, l_62, l_63, l_65, l_66, l_72, l_82, l_92, l_93, l_94, l_97, l_99, l_100, l_101, l_102, l_103, l_104, l_105, l_107, l_108, l_109, l_110, l_111, l_112, l_114, l_115, l_116, l_117, l_119, l_121, l_122, l_136, l_200, l_255, l_300, l_364, l_900, l_1000, l_1456, l_1458, l_1459, l_1460, l_1462, l_1471, l_1504, l_1510, l_1522, l_1550, l_2971, l_9999, l_10000, l_10979, l_65536, l_m1, nI_add, pk_mul, q_sub, q_ltT, q_ltF, q_leT, q_leF, q_eqT, q_eqF, q_inT, q_inF, nI_clamp, q_mlt, q_mle, q_mne, q_mne2, q_mnlt, q_mnle, q_gi, q_gil, q_gir, q_giR, q_gl, q_gli, q_glr, q_glR, q_ra, q_rai, q_ral, q_raR, q_rl, q_rli, q_rll, q_rlr, sa, sA, ia, la, q_srsr, q_sRsR, Option.bind_some, if_true, if_false, reduceIte, ite_not, not_true_eq_false, not_false_eq_true, q_z1, Nat.reduceEqDiff]) 0 (ra S 5) FU (by omega) (fun i hi => by omega) (by unfold FU; omega)
  refine ⟨f, ?_, h2⟩
  unfold fX12_empties
  rw [← h1]
  exact congrArg (fun m => fX12_empties_2 FU m (nI 0) 0) e0
theorem W_t0s : tb_W t0s := by
  refine ⟨by decide, by decide, by decide, by decide, by decide, fun i hi => ?_, fun i hi => ?_, fun i hi => ?_, fun i hi => ?_, fun i j hi hj => ?_⟩
  · exact absurd (show i < 0 from hi) (by omega)
  · exact absurd (show i < 0 from hi) (by omega)
  · exact absurd (show i < 0 from hi) (by omega)
  · exact absurd (show i < 0 from hi) (by omega)
  · exact absurd (show j < 0 from hj) (by omega)
theorem C_t0s : tb_C (si z0 0 4) t0s := by
  refine ⟨rfl, rfl, rfl, rfl, rfl, rfl, rfl, rfl, ?_, ?_, ?_, ?_, ?_, ?_, ?_, ?_, ?_⟩
  all_goals exact fun i hi => absurd (show i < 0 from hi) (by omega)
/-- behind both constructors -/
theorem rl_start : ∃ z, fX12_empties s12_0 0 = some z ∧ Rl (si (si (sl z0 2 (1 : Int64)) 8 (-1 : Int32)) 9 (-1 : Int32)) (si z0 2 (-1)) (si z0 2 (-1)) (si z0 2 (-1)) (si z0 2 (-1)) z0 (si z0 0 4) z0 (si z0 0 4) z0 (si z0 0 4) z0 (si z0 0 4) z0 z0 z := by
  obtain ⟨f, h1, h2⟩ := M_empties0 s12_0
  have hY : ∀ k, k < 4 → rl_Y (si z0 2 (-1)) (sr s12_0 5 f) k := by
    intro k hk
    refine ⟨⟨0, by omega, rfl, rfl⟩, Or.inl ⟨rfl, ?_⟩, fun i hi => rfl⟩
    rcases (by omega : k = 0 ∨ k = 1 ∨ k = 2 ∨ k = 3) with rfl | rfl | rfl | rfl <;> rfl
  refine ⟨_, h1, rfl, ⟨rfl, rfl⟩, ⟨rfl, rfl⟩, ⟨⟨0, by omega, rfl, rfl⟩, fun i hi => ⟨rfl, rfl⟩⟩, ⟨hY 0 (by omega), hY 1 (by omega), hY 2 (by omega), hY 3 (by omega)⟩, ⟨t0s, W_t0s, C_t0s, fun i hi => ?_, fun i hi => ?_, fun i hi => ?_, fun i hi => ?_, ?_⟩, ⟨0, by omega, rfl, rfl, fun h => ?_, fun h => ?_, fun h => ?_⟩, rfl, Or.inl rfl⟩
  · show f (0 * 364 + i) = _
    rw [Nat.zero_mul, Nat.zero_add]
    exact h2 i (by omega)
  · exact absurd (show i < 0 from hi) (by omega)
  · exact absurd (show i < 0 from hi) (by omega)
  · exact absurd (show i < 0 from hi) (by omega)
  · have e : f (0 * 364 + 92) = nI 0 := h2 92 (by omega)
    exact ⟨e.symm, 0, by omega, rfl, Or.inl e⟩
  · omega
  · omega
  · omega
