/-! table -/
section Q87
variable {R B M T S : ms_T} {g t : Nat → Nat} {n a e k wn : Nat}
theorem M_empties4 (S : ms_T) : ∃ f, fX12_empties S (nI 4) = some (sr S 5 f) ∧ (∀ i, i < 364 → f (1456 + i) = nI (t0s i)) ∧ ∀ i, i < 1456 → f i = ra S 5 i := by
  obtain ⟨r, h1, f, rfl, h2⟩ := lp_up (fun x i f => fX12_empties_2 x (sr S 5 f) (nI 4) i) 364 (fun k f => (∀ i, i < k → f (1456 + i) = nI 0) ∧ ∀ i, i < 1456 → f i = ra S 5 i) (fun r => ∃ f, r = sr S 5 f ∧ (∀ i, i < 364 → f (1456 + i) = nI (t0s i)) ∧ ∀ i, i < 1456 → f i = ra S 5 i)
    (fun x f hf => by
      refine ⟨sr S 5 (upd f 1460 (nI 4)), ?_, upd f 1460 (nI 4), rfl, fun i hi => ?_, fun i hi => ?_⟩
      · simp (disch := omega) only [fX12_empties_2, show 364 * 4 + 4 = 1460 from rfl, l_0, l_1, l_2, l_3, l_4, l_5, l_6, l_7, l_8, l_9, l_10, l_11, l_12, l_13, l_14, l_15, l_16, l_17, l_18, l_19, l_20, l_21, l_22, l_23, l_24, l_25, l_30, l_31, l_32, l_40, l_48, l_54, l_57, l_59, l_60, l_61, l_62, l_63, l_65, l_66, l_72, l_82, l_92, l_93, l_94, l_97, l_99, l_100, l_101, l_102, l_103, l_104, l_105, l_107, l_108, l_109, l_110, l_111, l_112, l_114, l_115, l_116, l_117, l_119, l_121, l_122, l_136, l_200, l_255, l_300, l_364, l_900, l_1000, l_1456, l_1458, l_1459, l_1460, l_1462, l_1471, l_1504, l_1510, l_1522, l_1550, l_2971, l_9999, l_10000, l_10979, l_65536, l_m1, nI_add, pk_mul, q_sub, q_ltT, q_ltF, q_leT, q_leF, q_eqT, q_eqF, q_inT, q_inF, nI_clamp, q_mlt, q_mle, q_mne, q_mne2, q_mnlt, q_mnle, q_gi, q_gil, q_gir, q_giR, q_gl, q_gli, q_glr, q_glR, q_ra, q_rai, q_ral, q_raR, q_rl, q_rli, q_rll, q_rlr, sa, sA, ia, la, q_srsr, q_sRsR, Option.bind_some, if_true, if_false, reduceIte, ite_not, not_true_eq_false, not_false_eq_true, q_z1, Nat.reduceEqDiff]
      · unfold t0s
        by_cases c : i = 4
        · rw [up_e _ _ _ (by omega), if_pos c]
        · rw [up_n _ _ _ (by omega), if_neg c]; exact hf.1 i hi
      · rw [up_n _ _ _ (by omega)]; exact hf.2 i hi)
    (fun x k f hk hf => by
      left
      refine ⟨upd f (1456 + k) (nI 0), ⟨fun i hi => ?_, fun i hi => ?_⟩, ?_⟩
      · by_cases c : i = k
        · rw [up_e _ _ _ (by omega)]
        · rw [up_n _ _ _ (by omega)]; exact hf.1 i (by omega)
      · rw [up_n _ _ _ (by omega)]; exact hf.2 i hi
      · simp (disch := omega) only [fX12_empties_2, show 364 * 4 = 1456 from rfl, l_0, l_1, l_2, l_3, l_4, l_5, l_6, l_7, l_8, l_9, l_10, l_11, l_12, l_13, l_14, l_15, l_16, l_17, l_18, l_19, l_20, l_21, l_22, l_23, l_24, l_25, l_30, l_31, l_32, l_40, l_48, l_54, l_57, l_59, l_60, l_61, l_62, l_63, l_65, l_66, l_72, l_82, l_92, l_93, l_94, l_97, l_99, l_100, l_101, l_102, l_103, l_104, l_105, l_107, l_108, l_109, l_110, l_111, l_112, l_114, l_115, l_116, l_117, l_119, l_121, l_122, l_136, l_200, l_255, l_300, l_364, l_900, l_1000, l_1456, l_1458, l_1459, l_1460, l_1462, l_1471, l_1504, l_1510, l_1522, l_1550, l_2971, l_9999, l_10000, l_10979, l_65536, l_m1, nI_add, pk_mul, q_sub, q_ltT, q_ltF, q_leT, q_leF, q_eqT, q_eqF, q_inT, q_inF, nI_clamp, q_mlt, q_mle, q_mne, q_mne2, q_mnlt, q_mnle, q_gi, q_gil, q_gir, q_giR, q_gl, q_gli, q_glr, q_glR, q_ra, q_rai, q_ral, q_raR, q_rl, q_rli, q_rll, q_rlr, sa, sA, ia, la, q_srsr, q_sRsR, Option.bind_some, if_true, if_false, reduceIte, ite_not, not_true_eq_false, not_false_eq_true, q_z1, Nat.reduceEqDiff]) 0 (ra S 5) FU (by omega) ⟨fun i hi => by omega, fun i _ => rfl⟩ (by unfold FU; omega)
  refine ⟨f, ?_, h2⟩
  unfold fX12_empties
  rw [← h1]
  exact congrArg (fun m => fX12_empties_2 FU m (nI 4) 0) (sr_self S 5)
theorem sR_self (M : ms_T) (k : Nat) : M = sR M k (rl M k) := by
  unfold sR
  refine Prod.ext rfl (Prod.ext rfl (Prod.ext rfl ?_))
  funext b
  show M.2.2.2 b = if b = k then M.2.2.2 k else M.2.2.2 b
  split
  · next c => rw [c]
  · rfl
theorem T_clear (T : ms_T) : ∃ T', fX7_clear T = some T' ∧ tb_C T' t0s ∧ ∀ i, i < 23 → rl T' 10 i = 0 := by
  unfold fX7_clear
  obtain ⟨r, h1, x, rfl, h2⟩ := lp_up (fun y i (x : Nat → Int64) => fX7_clear_42 y (sR (si (si (si (si (si (si (si (si T 0 (nI 4)) 1 (nI 0)) 4 (nI 0)) 7 (nI 0)) 8 (nI 0)) 12 (nI 0)) 13 (nI 0)) 16 (nI 0)) 10 x) i) 23 (fun k x => ∀ i, i < k → x i = 0) (fun r => ∃ x : Nat → Int64, r = sR (si (si (si (si (si (si (si (si T 0 (nI 4)) 1 (nI 0)) 4 (nI 0)) 7 (nI 0)) 8 (nI 0)) 12 (nI 0)) 13 (nI 0)) 16 (nI 0)) 10 x ∧ ∀ i, i < 23 → x i = 0)
    (fun y x hx => ⟨_, by simp (disch := omega) only [fX7_clear_42, l_0, l_1, l_2, l_3, l_4, l_5, l_6, l_7, l_8, l_9, l_10, l_11, l_12, l_13, l_14, l_15, l_16, l_17, l_18, l_19, l_20, l_21, l_22, l_23, l_24, l_25, l_30, l_31, l_32, l_40, l_48, l_54, l_57, l_59, l_60, l_61, l_62, l_63, l_65, l_66, l_72, l_82, l_92, l_93, l_94, l_97, l_99, l_100, l_101, l_102, l_103, l_104, l_105, l_107, l_108, l_109, l_110, l_111, l_112, l_114, l_115, l_116, l_117, l_119, l_121, l_122, l_136, l_200, l_255, l_300, l_364, l_900, l_1000, l_1456, l_1458, l_1459, l_1460, l_1462, l_1471, l_1504, l_1510, l_1522, l_1550, l_2971, l_9999, l_10000, l_10979, l_65536, l_m1, nI_add, pk_mul, q_sub, q_ltT, q_ltF, q_leT, q_leF, q_eqT, q_eqF, q_inT, q_inF, nI_clamp, q_mlt, q_mle, q_mne, q_mne2, q_mnlt, q_mnle, Option.bind_some, if_true, if_false, reduceIte, ite_not, not_true_eq_false, not_false_eq_true, q_z1, Nat.reduceEqDiff], x, rfl, hx⟩)
    (fun y k x hk hx => by
      left
      refine ⟨vp_updL x k 0, fun i hi => ?_, ?_⟩
      · by_cases c : i = k
        · subst c; exact pk_uLs
        · rw [pk_uLn c]; exact hx i (by omega)
      · simp (disch := omega) only [fX7_clear_42, l_0, l_1, l_2, l_3, l_4, l_5, l_6, l_7, l_8, l_9, l_10, l_11, l_12, l_13, l_14, l_15, l_16, l_17, l_18, l_19, l_20, l_21, l_22, l_23, l_24, l_25, l_30, l_31, l_32, l_40, l_48, l_54, l_57, l_59, l_60, l_61, l_62, l_63, l_65, l_66, l_72, l_82, l_92, l_93, l_94, l_97, l_99, l_100, l_101, l_102, l_103, l_104, l_105, l_107, l_108, l_109, l_110, l_111, l_112, l_114, l_115, l_116, l_117, l_119, l_121, l_122, l_136, l_200, l_255, l_300, l_364, l_900, l_1000, l_1456, l_1458, l_1459, l_1460, l_1462, l_1471, l_1504, l_1510, l_1522, l_1550, l_2971, l_9999, l_10000, l_10979, l_65536, l_m1, nI_add, pk_mul, q_sub, q_ltT, q_ltF, q_leT, q_leF, q_eqT, q_eqF, q_inT, q_inF, nI_clamp, q_mlt, q_mle, q_mne, q_mne2, q_mnlt, q_mnle, q_gi, q_gil, q_gir, q_giR, q_gl, q_gli, q_glr, q_glR, q_ra, q_rai, q_ral, q_raR, q_rl, q_rli, q_rll, q_rlr, sa, sA, ia, la, q_srsr, q_sRsR, Option.bind_some, if_true, if_false, reduceIte, ite_not, not_true_eq_false, not_false_eq_true, q_z1, Nat.reduceEqDiff]) 0 (rl T 10) FU (by omega) (fun i hi => by omega) (by unfold FU; omega)
  refine ⟨sR (si (si (si (si (si (si (si (si T 0 (nI 4)) 1 (nI 0)) 4 (nI 0)) 7 (nI 0)) 8 (nI 0)) 12 (nI 0)) 13 (nI 0)) 16 (nI 0)) 10 x, ?_, ?_, h2⟩
  · rw [← h1]
    simp only [l_0, l_1, l_2, l_3, l_4, l_5, l_6, l_7, l_8, l_9, l_10, l_11, l_12, l_13, l_14, l_15, l_16, l_17, l_18, l_19, l_20, l_21, l_22, l_23, l_24, l_25, l_30, l_31, l_32, l_40, l_48, l_54, l_57, l_59, l_60, l_61, l_62, l_63, l_65, l_66, l_72, l_82, l_92, l_93, l_94, l_97, l_99, l_100, l_101, l_102, l_103, l_104, l_105, l_107, l_108, l_109, l_110, l_111, l_112, l_114, l_115, l_116, l_117, l_119, l_121, l_122, l_136, l_200, l_255, l_300, l_364, l_900, l_1000, l_1456, l_1458, l_1459, l_1460, l_1462, l_1471, l_1504, l_1510, l_1522, l_1550, l_2971, l_9999, l_10000, l_10979, l_65536, l_m1]
    exact congrArg (fun m => fX7_clear_42 FU m (nI 0)) (sR_self (si (si (si (si (si (si (si (si T 0 (nI 4)) 1 (nI 0)) 4 (nI 0)) 7 (nI 0)) 8 (nI 0)) 12 (nI 0)) 13 (nI 0)) 16 (nI 0)) 10)
  · refine ⟨rfl, rfl, rfl, rfl, rfl, rfl, rfl, rfl, ?_, ?_, ?_, ?_, ?_, ?_, ?_, ?_, ?_⟩
    all_goals exact fun i hi => absurd (show i < 0 from hi) (by omega)
/-- the text's first token, on both sides -/
theorem rd_begin (hT : rl_T S B M) {m j : Nat} (hm : gi M 8 = nI m) (hj : j ≤ m) (hm9 : m ≤ 900) (R : ms_T) : ∃ R' M' g a e k wn, fX4_beginT R B (nI j) = some R' ∧ fX12_advance (si (si (si (si M 9 (nI j)) 8 (nI 0)) 16 (nI 0)) 12 (nI 0)) = some M' ∧ rd B R' M' g j a e k wn ∧ (∀ x, 11 ≤ x → gi R' x = gi R x) ∧ R'.2.2 = R.2.2 ∧ (∀ x, x = 0 ∨ x = 10 ∨ x = 11 ∨ 18 < x → gi M' x = gi M x) ∧ gi M' 8 = nI 0 ∧ (∀ x, x ≠ 19 → gl M' x = gl M x) ∧ M'.2.2 = M.2.2 := by
  obtain ⟨g, hg⟩ := tx_ex hT.2
  have hg' : tx B (si (si (si (si M 9 (nI j)) 8 (nI 0)) 16 (nI 0)) 12 (nI 0)) g := hg
  have ej : jmax (nI 0) (jmin (nI j) (nI 900)) = nI j := by
    rw [q_min (by omega) (by omega), show min j 900 = j by omega, q_maxn (by omega)]
  obtain ⟨R', M', a, e, k, q1, q2, q3, q4, q5, q6⟩ := adv (R := si (si (si (si R 1 (nI j)) 2 (nI 0)) 9 (nI 0)) 10 nM) hg' (n := j) (p := 0) (by omega) (by omega) rfl rfl rfl rfl
  obtain ⟨wn, w1, w2, w3, w4⟩ := tk_w q3
  have m4 : ra M' 4 = ra M 4 := congrFun (congrArg Prod.fst q6.2.2) 4
  refine ⟨R', M', g, a, e, k, wn, ?_, q2, ⟨fun i hi => by rw [m4]; exact hg i hi, by omega, q3, w1, w2, w3, w4, ?_, ?_, ?_⟩, fun x hx => ?_, q5.2, fun x hx => ?_, ?_, fun x hx => ?_, q6.2.2⟩
  · simp only [fX4_beginT, l_0, l_1, l_2, l_3, l_4, l_5, l_6, l_7, l_8, l_9, l_10, l_11, l_12, l_13, l_14, l_15, l_16, l_17, l_18, l_19, l_20, l_21, l_22, l_23, l_24, l_25, l_30, l_31, l_32, l_40, l_48, l_54, l_57, l_59, l_60, l_61, l_62, l_63, l_65, l_66, l_72, l_82, l_92, l_93, l_94, l_97, l_99, l_100, l_101, l_102, l_103, l_104, l_105, l_107, l_108, l_109, l_110, l_111, l_112, l_114, l_115, l_116, l_117, l_119, l_121, l_122, l_136, l_200, l_255, l_300, l_364, l_900, l_1000, l_1456, l_1458, l_1459, l_1460, l_1462, l_1471, l_1504, l_1510, l_1522, l_1550, l_2971, l_9999, l_10000, l_10979, l_65536, l_m1, ej, q1, Option.bind_some]
  · rw [q6.1 12 (by omega)]; rfl
  · rw [q5.1 9 (by omega)]; rfl
  · rw [q5.1 10 (by omega)]; rfl
  · rw [q5.1 x (by omega), q_gi, if_neg (by omega), q_gi, if_neg (by omega), q_gi, if_neg (by omega), q_gi, if_neg (by omega)]
  · rw [q6.1 x (by omega), q_gi, if_neg (by omega), q_gi, if_neg (by omega), q_gi, if_neg (by omega), q_gi, if_neg (by omega)]
  · rw [q6.1 8 (by omega)]; rfl
  · exact q6.2.1 x hx
/-- what reading a text leaves as it is -/
def rk (M M' : ms_T) : Prop := (∀ j, 18 < j ∧ j ≠ 24 ∧ j ≠ 25 → gi M' j = gi M j) ∧ gi M' 8 = nI 0 ∧ (∀ j, j ≠ 19 → gl M' j = gl M j) ∧ (∀ k, k ≠ 5 → ra M' k = ra M k) ∧ (∀ i, i < 1456 → ra M' 5 i = ra M 5 i) ∧ (∀ k, k ≠ 7 → rl M' k = rl M k) ∧ ∀ i, i < 92 → rl M' 7 i = rl M 7 i
end Q87
theorem rl_Tz {C B M C' M' : ms_T} (h : rl_T C B M) (h5 : gi C' 5 = nI 0) (h8 : gi M' 8 = nI 0) (h4 : ra M' 4 = ra M 4) : rl_T C' B M' := ⟨⟨0, by omega, h5, h8⟩, fun i hi => by rw [h4]; exact h.2 i hi⟩
/-- a fault in a text -/
theorem rl_fault {SC SY0 SY1 SY2 SY3 SB ST0 SE0 ST2 SE2 ST3 SE3 ST4 SE4 SV0 SM M' : ms_T} (hR : Rl SC SY0 SY1 SY2 SY3 SB ST0 SE0 ST2 SE2 ST3 SE3 ST4 SE4 SV0 SM) (h : rk SM M') (x y v : Int32) : Rl (si (si (si (si SC 5 (nI 0)) 8 x) 9 y) 0 v) SY0 SY1 SY2 SY3 SB ST0 SE0 ST2 SE2 ST3 SE3 ST4 SE4 SV0 (si (si (si M' 10 x) 11 y) 0 v) := by
  obtain ⟨-, hF, hU, hT, hY, hB, hK, hV⟩ := hR
  obtain ⟨h1, h2, h3, h4, h5, h6, h7⟩ := h
  refine ⟨rfl, ?_, ⟨rfl, rfl⟩, rl_Tz hT rfl h2 (h4 4 (by omega)), ?_, rl_B_keep (fun i hi => h5 _ (by omega)) (fun i hi => h7 _ (by omega)) hB, ?_, ?_⟩
  · unfold rl_F at *
    show gl SC 1 = gl M' 2 ∧ gl SC 2 = gl M' 3
    rw [h3 2 (by omega), h3 3 (by omega)]; exact hF
  · unfold rl_Y at *
    show _ ∧ _ ∧ _ ∧ _
    have a1 : ra (si (si (si M' 10 x) 11 y) 0 v) 1 = ra SM 1 := h4 1 (by omega)
    have a2 : ra (si (si (si M' 10 x) 11 y) 0 v) 2 = ra SM 2 := h4 2 (by omega)
    have a3 : rl (si (si (si M' 10 x) 11 y) 0 v) 3 = rl SM 3 := h6 3 (by omega)
    rw [a1, a2, a3]; exact hY
  · unfold rl_K at *
    have a1 : gi (si (si (si M' 10 x) 11 y) 0 v) 23 = gi SM 23 := h1 23 (by omega)
    rw [a1]
    obtain ⟨k, k1, k2, k3, k4, k5, k6⟩ := hK
    refine ⟨k, k1, k2, k3, fun h => ?_, fun h => ?_, fun h => ?_⟩
    · exact rl_B_keep (fun i hi => h5 _ (by omega)) (fun i hi => h7 _ (by omega)) (k4 h)
    · exact rl_B_keep (fun i hi => h5 _ (by omega)) (fun i hi => h7 _ (by omega)) (k5 h)
    · exact rl_B_keep (fun i hi => h5 _ (by omega)) (fun i hi => h7 _ (by omega)) (k6 h)
  · unfold rl_V at *
    have a1 : gi (si (si (si M' 10 x) 11 y) 0 v) 40 = gi SM 40 := h1 40 (by omega)
    have a2 : ra (si (si (si M' 10 x) 11 y) 0 v) 12 = ra SM 12 := h4 12 (by omega)
    rw [a1, a2]; exact hV
theorem o_table : op_table Rl := by
  intro SC SY0 SY1 SY2 SY3 SB ST0 SE0 ST2 SE2 ST3 SE3 ST4 SE4 SV0 SM SR SP0 SP1 ST1 hR a1
  obtain ⟨hs, hF, hU, hT, ⟨hY0, hY1, hY2, hY3⟩, ⟨t, w, hC, hN0, n1, n2, n3, hE⟩, hK, hV⟩ := id hR
  have hN := tb_N0 hN0
  have hN2 : tb_N (si (si SM 1 (nI 0)) 0 (nI 0)) t := hN
  have hNu : ∀ i, i < 92 → ra SM 5 i = nI (t i) := hN
  obtain ⟨w0, w1, w2, w3, w4, w5, w6, w7, w8, w9⟩ := id w
  obtain ⟨h0, h1, h2, h3, h4, h5, h6, h7, h8, h9, h10, h11, h12, h13, h14, h15, h16⟩ := id hC
  obtain ⟨⟨m, q1, q2, q3⟩, q4⟩ := id hT
  have ex : fX11_table_12 SB SP0 SP1 SC SR ST0 SE0 ST1 = some (nM, si SC 0 (nI 5), SR, ST0, SE0, ST1) := rfl
  have ey : fX12_starts_17 (si (si SM 1 (nI 0)) 0 (nI 0)) = some (nI 0, si (si (si SM 1 (nI 0)) 0 (nI 0)) 0 (nI 5)) := by simp only [fX12_starts_17, fX11_answer, fX11_refuse, fX11_deny, fX11_grant, fX12_refuse, fX12_no, l_0, l_1, l_2, l_3, l_4, l_5, l_6, l_7, l_8, l_9, l_10, l_11, l_12, l_13, l_14, l_15, l_16, l_17, l_18, l_19, l_20, l_21, l_22, l_23, l_24, l_25, l_30, l_31, l_32, l_40, l_48, l_54, l_57, l_59, l_60, l_61, l_62, l_63, l_65, l_66, l_72, l_82, l_92, l_93, l_94, l_97, l_99, l_100, l_101, l_102, l_103, l_104, l_105, l_107, l_108, l_109, l_110, l_111, l_112, l_114, l_115, l_116, l_117, l_119, l_121, l_122, l_136, l_200, l_255, l_300, l_364, l_900, l_1000, l_1456, l_1458, l_1459, l_1460, l_1462, l_1471, l_1504, l_1510, l_1522, l_1550, l_2971, l_9999, l_10000, l_10979, l_65536, l_m1, Option.bind_some, if_true, if_false, reduceIte, ite_not, not_true_eq_false, not_false_eq_true, q_z1, Nat.reduceEqDiff, q_z0]
  rcases q_ix a1 (m + 1) (by omega) with ⟨h, e⟩ | ⟨h, h2', e⟩ | ⟨j, hj, rfl⟩
  · simp (disch := omega) only [fX11_table, fX12_table, fX12_starts, ex, ey, h, l_0, l_1, l_2, l_3, l_4, l_5, l_6, l_7, l_8, l_9, l_10, l_11, l_12, l_13, l_14, l_15, l_16, l_17, l_18, l_19, l_20, l_21, l_22, l_23, l_24, l_25, l_30, l_31, l_32, l_40, l_48, l_54, l_57, l_59, l_60, l_61, l_62, l_63, l_65, l_66, l_72, l_82, l_92, l_93, l_94, l_97, l_99, l_100, l_101, l_102, l_103, l_104, l_105, l_107, l_108, l_109, l_110, l_111, l_112, l_114, l_115, l_116, l_117, l_119, l_121, l_122, l_136, l_200, l_255, l_300, l_364, l_900, l_1000, l_1456, l_1458, l_1459, l_1460, l_1462, l_1471, l_1504, l_1510, l_1522, l_1550, l_2971, l_9999, l_10000, l_10979, l_65536, l_m1, nI_add, pk_mul, q_sub, q_ltT, q_ltF, q_leT, q_leF, q_eqT, q_eqF, q_inT, q_inF, nI_clamp, q_mlt, q_mle, q_mne, q_mne2, q_mnlt, q_mnle, Option.bind_some, if_true, if_false, reduceIte, ite_not, not_true_eq_false, not_false_eq_true, q_z1, Nat.reduceEqDiff]
    exact ⟨_, _, rfl, rfl, rfl, rl_st2 hR _ _⟩
  · have b1 : (a1 ≤ nI m) = False := q_bgle h (by omega) (by omega)
    have b2' : (nI m < a1) = True := q_bggl h (by omega) (by omega)
    have g8 : gi (si (si SM 1 (nI 0)) 0 (nI 0)) 8 = nI m := q3
    simp (disch := omega) only [fX11_table, fX12_table, fX12_starts, ex, ey, h2', q2, g8, b1, b2', l_0, l_1, l_2, l_3, l_4, l_5, l_6, l_7, l_8, l_9, l_10, l_11, l_12, l_13, l_14, l_15, l_16, l_17, l_18, l_19, l_20, l_21, l_22, l_23, l_24, l_25, l_30, l_31, l_32, l_40, l_48, l_54, l_57, l_59, l_60, l_61, l_62, l_63, l_65, l_66, l_72, l_82, l_92, l_93, l_94, l_97, l_99, l_100, l_101, l_102, l_103, l_104, l_105, l_107, l_108, l_109, l_110, l_111, l_112, l_114, l_115, l_116, l_117, l_119, l_121, l_122, l_136, l_200, l_255, l_300, l_364, l_900, l_1000, l_1456, l_1458, l_1459, l_1460, l_1462, l_1471, l_1504, l_1510, l_1522, l_1550, l_2971, l_9999, l_10000, l_10979, l_65536, l_m1, Option.bind_some, if_true, if_false, reduceIte, ite_not, not_true_eq_false, not_false_eq_true, q_z1, Nat.reduceEqDiff]
    exact ⟨_, _, rfl, rfl, rfl, rl_st2 hR _ _⟩
  · obtain ⟨T1, c1, c2, c3⟩ := T_clear ST1
    have hT' : rl_T SC SB (si (si SM 1 (nI 0)) 0 (nI 0)) := hT
    obtain ⟨R1, M1, g, a, e, k, wn, d1, d2, d3, d4, d5, d6, d7, d8, d9⟩ := rd_begin hT' (m := m) (j := j) q3 (by omega) q1 (si SR 12 (nI 0))
    obtain ⟨f, f1, f2, f3⟩ := M_empties4 M1
    have ht : tt T1 R1 (si (sr M1 5 f) 24 (nI 0)) t0s := by
      refine ⟨W_t0s, c2, fun i hi => f2 i (by omega), ⟨fun i hi => absurd (show i < 0 from hi) (by omega), fun i hi => absurd (show i < 0 from hi) (by omega), fun i hi => absurd (show i < 0 from hi) (by omega)⟩, ⟨fun i _ hi => c3 i (by omega), fun i _ hi => c3 (9 + i) (by omega), fun i _ hi => c3 (17 + i) (by omega)⟩, fun i _ hi => ?_, 0, by omega, ?_, rfl⟩
      · unfold t0s; rw [if_neg (by omega)]
      · rw [d4 12 (by omega)]; rfl
    have lp := table_loop (B := SB) (g := g) (n := j) j 0 FU FU R1 (si (sr M1 5 f) 24 (nI 0)) T1 t0s a e k wn (by omega) (by omega) (by unfold FU; omega) (by unfold FU; omega) (rd_si24 (rd_sr5 d3)) ht
    have hst : fX12_starts (si (si SM 1 (nI 0)) 0 (nI 0)) (nI j) (nI 900) = some (nI 1, M1) := by
      have g8 : gi (si (si SM 1 (nI 0)) 0 (nI 0)) 8 = nI m := q3
      simp (disch := omega) only [fX12_starts, g8, d2, l_0, l_1, l_2, l_3, l_4, l_5, l_6, l_7, l_8, l_9, l_10, l_11, l_12, l_13, l_14, l_15, l_16, l_17, l_18, l_19, l_20, l_21, l_22, l_23, l_24, l_25, l_30, l_31, l_32, l_40, l_48, l_54, l_57, l_59, l_60, l_61, l_62, l_63, l_65, l_66, l_72, l_82, l_92, l_93, l_94, l_97, l_99, l_100, l_101, l_102, l_103, l_104, l_105, l_107, l_108, l_109, l_110, l_111, l_112, l_114, l_115, l_116, l_117, l_119, l_121, l_122, l_136, l_200, l_255, l_300, l_364, l_900, l_1000, l_1456, l_1458, l_1459, l_1460, l_1462, l_1471, l_1504, l_1510, l_1522, l_1550, l_2971, l_9999, l_10000, l_10979, l_65536, l_m1, nI_add, pk_mul, q_sub, q_ltT, q_ltF, q_leT, q_leF, q_eqT, q_eqF, q_inT, q_inF, nI_clamp, q_mlt, q_mle, q_mne, q_mne2, q_mnlt, q_mnle, Option.bind_some, if_true, if_false, reduceIte, ite_not, not_true_eq_false, not_false_eq_true, q_z1, Nat.reduceEqDiff]
    have hM : fX12_table SM (nI j) = fX12_table_33 FU (si (sr M1 5 f) 24 (nI 0)) := by
      simp only [fX12_table, l_0, l_1, l_2, l_3, l_4, l_5, l_6, l_7, l_8, l_9, l_10, l_11, l_12, l_13, l_14, l_15, l_16, l_17, l_18, l_19, l_20, l_21, l_22, l_23, l_24, l_25, l_30, l_31, l_32, l_40, l_48, l_54, l_57, l_59, l_60, l_61, l_62, l_63, l_65, l_66, l_72, l_82, l_92, l_93, l_94, l_97, l_99, l_100, l_101, l_102, l_103, l_104, l_105, l_107, l_108, l_109, l_110, l_111, l_112, l_114, l_115, l_116, l_117, l_119, l_121, l_122, l_136, l_200, l_255, l_300, l_364, l_900, l_1000, l_1456, l_1458, l_1459, l_1460, l_1462, l_1471, l_1504, l_1510, l_1522, l_1550, l_2971, l_9999, l_10000, l_10979, l_65536, l_m1, hst, n_10, f1, if_false, Option.bind_some]
    have hrt : fX8_readTable SR SB ST1 (nI j) = fX8_readTable_24 SB FU R1 T1 (nI 0) := by
      simp only [fX8_readTable, l_0, l_1, l_2, l_3, l_4, l_5, l_6, l_7, l_8, l_9, l_10, l_11, l_12, l_13, l_14, l_15, l_16, l_17, l_18, l_19, l_20, l_21, l_22, l_23, l_24, l_25, l_30, l_31, l_32, l_40, l_48, l_54, l_57, l_59, l_60, l_61, l_62, l_63, l_65, l_66, l_72, l_82, l_92, l_93, l_94, l_97, l_99, l_100, l_101, l_102, l_103, l_104, l_105, l_107, l_108, l_109, l_110, l_111, l_112, l_114, l_115, l_116, l_117, l_119, l_121, l_122, l_136, l_200, l_255, l_300, l_364, l_900, l_1000, l_1456, l_1458, l_1459, l_1460, l_1462, l_1471, l_1504, l_1510, l_1522, l_1550, l_2971, l_9999, l_10000, l_10979, l_65536, l_m1, c1, d1, Option.bind_some]
    have jm : (nI j ≤ nI m) = True := q_leT (by omega) (by omega)
    have j0 : (nI j < nI 0) = False := q_ltF (by omega) (by omega)
    have rk0 : ∀ M', mh (si (sr M1 5 f) 24 (nI 0)) M' → rk SM M' := by
      intro M' hmh
      have r5 : ∀ x, ra M1 x = ra SM x := fun x => congrFun (congrArg Prod.fst d9) x
      have r7 : ∀ x, rl M1 x = rl SM x := fun x => congrFun (congrArg Prod.snd d9) x
      refine ⟨fun x hx => ?_, ?_, fun x hx => ?_, fun x hx => ?_, fun i hi => ?_, fun x hx => ?_, fun i hi => ?_⟩
      · rw [hmh.1 x (by omega), q_gi, if_neg (by omega), q_gir, d6 x (by omega), q_gi, if_neg (by omega), q_gi, if_neg (by omega)]
      · rw [hmh.1 8 (by omega)]; exact d7
      · rw [hmh.2.1 x hx]; exact d8 x hx
      · rw [hmh.2.2.1 x hx, q_rai, q_ra, if_neg hx]; exact r5 x
      · rw [hmh.2.2.2.1 i (by omega), q_rai, q_ra, if_pos rfl, f3 i hi]; rw [r5]
      · rw [hmh.2.2.2.2.1 x hx]; exact r7 x
      · rw [hmh.2.2.2.2.2 i hi]; exact congrFun (r7 7) i
    rcases lp with ⟨R2, T2, M2, t2, a2, e2, wn2, l1, l2, l3, l4, l5⟩ | ⟨R2, T2, M2, l1, l2, l3, l4⟩
    · have m12 := l3.2.2.2.2.2.2.2.1
      have r9 := l3.2.2.2.2.2.2.2.2.1
      have r10 := l3.2.2.2.2.2.2.2.2.2
      obtain ⟨T3, t3, t4⟩ := T_copyFrom ST0 T2
      obtain ⟨u1, u2, u3, ⟨u4, u5, u6⟩, -⟩ := l4
      have hC3 := tl_C u1 t4 u2
      obtain ⟨M3, y1, y2, y3, y4⟩ := M_copy (si (si M2 10 (nI 0)) 11 nM) (a := 4) (b := 0) (by omega) (by omega) (by omega)
      have hw : fX12_isWell M2 = some (nI 1, si (si M2 10 (nI 0)) 11 nM) := by
        simp only [fX12_isWell, fX12_isWell_24, m12, l_0, l_1, l_2, l_3, l_4, l_5, l_6, l_7, l_8, l_9, l_10, l_11, l_12, l_13, l_14, l_15, l_16, l_17, l_18, l_19, l_20, l_21, l_22, l_23, l_24, l_25, l_30, l_31, l_32, l_40, l_48, l_54, l_57, l_59, l_60, l_61, l_62, l_63, l_65, l_66, l_72, l_82, l_92, l_93, l_94, l_97, l_99, l_100, l_101, l_102, l_103, l_104, l_105, l_107, l_108, l_109, l_110, l_111, l_112, l_114, l_115, l_116, l_117, l_119, l_121, l_122, l_136, l_200, l_255, l_300, l_364, l_900, l_1000, l_1456, l_1458, l_1459, l_1460, l_1462, l_1471, l_1504, l_1510, l_1522, l_1550, l_2971, l_9999, l_10000, l_10979, l_65536, l_m1, q_gi, if_true, reduceIte, Nat.reduceEqDiff]
      have c0 : ∀ i, i < 92 → ra M3 5 i = nI (t2 i) := by
        intro i hi
        rw [y3 i, if_pos (by omega)]
        show ra M2 5 (364 * 4 + (i - 364 * 0)) = _
        rw [show 364 * 4 + (i - 364 * 0) = 364 * 4 + i by omega]
        exact u3 i hi
      have cl2 : (nI 2).toNatClampNeg = 2 := nI_clamp (by omega)
      have hans : ia M3 5 (nI 2) = nI (t2 2) := by unfold ia; rw [cl2]; exact c0 2 (by omega)
      have h64 : fX12_table_64 M2 = some (nI (t2 2), M3) := by
        simp only [fX12_table_64, hw, n_10, y1, hans, l_0, l_1, l_2, l_3, l_4, l_5, l_6, l_7, l_8, l_9, l_10, l_11, l_12, l_13, l_14, l_15, l_16, l_17, l_18, l_19, l_20, l_21, l_22, l_23, l_24, l_25, l_30, l_31, l_32, l_40, l_48, l_54, l_57, l_59, l_60, l_61, l_62, l_63, l_65, l_66, l_72, l_82, l_92, l_93, l_94, l_97, l_99, l_100, l_101, l_102, l_103, l_104, l_105, l_107, l_108, l_109, l_110, l_111, l_112, l_114, l_115, l_116, l_117, l_119, l_121, l_122, l_136, l_200, l_255, l_300, l_364, l_900, l_1000, l_1456, l_1458, l_1459, l_1460, l_1462, l_1471, l_1504, l_1510, l_1522, l_1550, l_2971, l_9999, l_10000, l_10979, l_65536, l_m1, if_false, Option.bind_some]
      refine ⟨(nI (t2 2), si (si (si (si SC 5 (nI 0)) 8 (nI 0)) 9 nM) 0 (nI 0), R2, T3, si (si (si SE0 0 (nI 0)) 1 (nI 0)) 2 (nI 0), T2), (nI (t2 2), M3), ?_, ?_, rfl, ?_⟩
      · have g8 := hC3.2.2.2.2.1
        simp only [fX11_table, l_0, l_1, l_2, l_3, l_4, l_5, l_6, l_7, l_8, l_9, l_10, l_11, l_12, l_13, l_14, l_15, l_16, l_17, l_18, l_19, l_20, l_21, l_22, l_23, l_24, l_25, l_30, l_31, l_32, l_40, l_48, l_54, l_57, l_59, l_60, l_61, l_62, l_63, l_65, l_66, l_72, l_82, l_92, l_93, l_94, l_97, l_99, l_100, l_101, l_102, l_103, l_104, l_105, l_107, l_108, l_109, l_110, l_111, l_112, l_114, l_115, l_116, l_117, l_119, l_121, l_122, l_136, l_200, l_255, l_300, l_364, l_900, l_1000, l_1456, l_1458, l_1459, l_1460, l_1462, l_1471, l_1504, l_1510, l_1522, l_1550, l_2971, l_9999, l_10000, l_10979, l_65536, l_m1, j0, q2, jm, hrt, l1, fX11_keepFaultT, r9, r10, n_10, t3, fX1_clear, g8, fX11_answer, fX11_refuse, fX11_deny, fX11_grant, fX12_refuse, fX12_no, if_true, if_false, Option.bind_some]
      · rw [hM, l2, h64]
      · have hk := rk0 M2 l5
        have gi3 : ∀ x, gi M3 x = gi (si (si M2 10 (nI 0)) 11 nM) x := fun x => congrFun y2.1 x
        have gl3 : ∀ x, gl M3 x = gl M2 x := fun x => congrFun y2.2.1 x
        have low : ∀ i, 364 ≤ i → i < 1456 → ra M3 5 i = ra SM 5 i := fun i h1 h2 => by
          rw [y3 i, if_neg (by omega)]; exact hk.2.2.2.2.1 i h2
        have low7 : ∀ i, 23 ≤ i → i < 92 → rl M3 7 i = rl SM 7 i := fun i h1 h2 => by
          rw [y4 i, if_neg (by omega)]; exact hk.2.2.2.2.2.2 i h2
        have z92 : ra M3 5 92 = nI 0 := by
          rw [y3 92, if_pos (by omega)]
          show ra M2 5 1548 = _
          rw [l5.2.2.2.1 1548 (by omega)]
          exact f2 92 (by omega)
        refine ⟨?_, ?_, ?_, ?_, ?_, ?_, ?_, ?_⟩
        · show nI 0 = gi M3 0
          rw [gi3 0]
          show nI 0 = gi M2 0
          rw [l5.1 0 (by omega)]
          show nI 0 = gi M1 0
          rw [d6 0 (by omega)]; rfl
        · unfold rl_F at *
          show gl SC 1 = gl M3 2 ∧ gl SC 2 = gl M3 3
          rw [gl3, gl3, hk.2.2.1 2 (by omega), hk.2.2.1 3 (by omega)]; exact hF
        · unfold rl_U
          rw [gi3, gi3]; exact ⟨rfl, rfl⟩
        · refine rl_Tz hT rfl ?_ ?_
          · rw [gi3]; exact hk.2.1
          · rw [y2.2.2.1 4 (by omega)]; exact hk.2.2.2.1 4 (by omega)
        · unfold rl_Y at *
          have b1 : ra M3 1 = ra SM 1 := by rw [y2.2.2.1 1 (by omega)]; exact hk.2.2.2.1 1 (by omega)
          have b2' : ra M3 2 = ra SM 2 := by rw [y2.2.2.1 2 (by omega)]; exact hk.2.2.2.1 2 (by omega)
          have b3 : rl M3 3 = rl SM 3 := by rw [y2.2.2.2 3 (by omega)]; exact hk.2.2.2.2.2.1 3 (by omega)
          rw [b1, b2', b3]; exact ⟨hY0, hY1, hY2, hY3⟩
        · obtain ⟨w0', w1', w2', -⟩ := id u1
          have nm : ∀ i, i < 23 → rl T3 10 i = rl T2 10 i := t4.2.2.2.2.2.2.2.2.2.2.2.2.2.2.2.2.2
          have n7 : ∀ i, i < 23 → rl M3 7 (0 * 23 + i) = rl M2 7 (23 * 4 + i) := fun i hi => by
            rw [y4 _, if_pos (by omega)]
            show rl M2 7 (23 * 4 + (0 * 23 + i - 23 * 0)) = _
            rw [show 23 * 4 + (0 * 23 + i - 23 * 0) = 23 * 4 + i by omega]
          refine ⟨t2, u1, hC3, fun i hi => ?_, fun i hi => ?_, fun i hi => ?_, fun i hi => ?_, ?_⟩
          · rw [Nat.zero_mul, Nat.zero_add]; exact c0 i hi
          · rw [nm i (by omega), n7 i (by omega)]; exact u4 i hi
          · rw [nm _ (by omega), n7 _ (by omega)]; exact u5 i hi
          · rw [nm _ (by omega), n7 _ (by omega)]; exact u6 i hi
          · have z : ra M3 5 (0 * 364 + 92) = nI 0 := z92
            exact ⟨z.symm, 0, by omega, rfl, Or.inl z⟩
        · unfold rl_K at *
          have b1 : gi M3 23 = gi SM 23 := by rw [gi3]; exact hk.1 23 (by omega)
          rw [b1]
          obtain ⟨k, k1, k2, k3, k4, k5, k6⟩ := hK
          refine ⟨k, k1, k2, k3, fun h => ?_, fun h => ?_, fun h => ?_⟩
          · exact rl_B_keep (fun i hi => low _ (by omega) (by omega)) (fun i hi => low7 _ (by omega) (by omega)) (k4 h)
          · exact rl_B_keep (fun i hi => low _ (by omega) (by omega)) (fun i hi => low7 _ (by omega) (by omega)) (k5 h)
          · exact rl_B_keep (fun i hi => low _ (by omega) (by omega)) (fun i hi => low7 _ (by omega) (by omega)) (k6 h)
        · unfold rl_V at *
          have b1 : gi M3 40 = gi SM 40 := by rw [gi3]; exact hk.1 40 (by omega)
          have b2' : ra M3 12 = ra SM 12 := by rw [y2.2.2.1 12 (by omega)]; exact hk.2.2.2.1 12 (by omega)
          rw [b1, b2']; exact hV
    · obtain ⟨fk, pl, k1, k2, k3, k4, k5, k6⟩ := l3
      have n0 : (nI fk = nI 0) = False := q_eqF (by omega) (by omega) (by omega)
      have h64 : fX12_table_64 M2 = some (nM, si (si (si M2 10 (nI fk)) 11 (nI pl)) 0 (nI 10)) := by
        simp only [fX12_table_64, fX12_isWell, fX12_isWell_24, k5, k6, n0, l_0, l_1, l_2, l_3, l_4, l_5, l_6, l_7, l_8, l_9, l_10, l_11, l_12, l_13, l_14, l_15, l_16, l_17, l_18, l_19, l_20, l_21, l_22, l_23, l_24, l_25, l_30, l_31, l_32, l_40, l_48, l_54, l_57, l_59, l_60, l_61, l_62, l_63, l_65, l_66, l_72, l_82, l_92, l_93, l_94, l_97, l_99, l_100, l_101, l_102, l_103, l_104, l_105, l_107, l_108, l_109, l_110, l_111, l_112, l_114, l_115, l_116, l_117, l_119, l_121, l_122, l_136, l_200, l_255, l_300, l_364, l_900, l_1000, l_1456, l_1458, l_1459, l_1460, l_1462, l_1471, l_1504, l_1510, l_1522, l_1550, l_2971, l_9999, l_10000, l_10979, l_65536, l_m1, fX11_answer, fX11_refuse, fX11_deny, fX11_grant, fX12_refuse, fX12_no, q_gi, if_true, if_false, reduceIte, Nat.reduceEqDiff, Option.bind_some]
      refine ⟨(nM, si (si (si (si SC 5 (nI 0)) 8 (nI fk)) 9 (nI pl)) 0 (nI 10), R2, ST0, SE0, T2), (nM, si (si (si M2 10 (nI fk)) 11 (nI pl)) 0 (nI 10)), ?_, ?_, rfl, rl_fault hR (rk0 M2 l4) _ _ _⟩
      · simp only [fX11_table, l_0, l_1, l_2, l_3, l_4, l_5, l_6, l_7, l_8, l_9, l_10, l_11, l_12, l_13, l_14, l_15, l_16, l_17, l_18, l_19, l_20, l_21, l_22, l_23, l_24, l_25, l_30, l_31, l_32, l_40, l_48, l_54, l_57, l_59, l_60, l_61, l_62, l_63, l_65, l_66, l_72, l_82, l_92, l_93, l_94, l_97, l_99, l_100, l_101, l_102, l_103, l_104, l_105, l_107, l_108, l_109, l_110, l_111, l_112, l_114, l_115, l_116, l_117, l_119, l_121, l_122, l_136, l_200, l_255, l_300, l_364, l_900, l_1000, l_1456, l_1458, l_1459, l_1460, l_1462, l_1471, l_1504, l_1510, l_1522, l_1550, l_2971, l_9999, l_10000, l_10979, l_65536, l_m1, j0, q2, jm, hrt, l1, fX11_keepFaultT, k3, k4, fX11_answer, fX11_refuse, fX11_deny, fX11_grant, fX12_refuse, fX12_no, if_true, if_false, Option.bind_some]
      · rw [hM, l2, h64]
