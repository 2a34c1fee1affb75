/-! the fewest to prop -/
section Q43
variable {T M : ms_T} {t : Nat → Nat}
def okp (t : Nat → Nat) (c s : Nat) : Bool := (bs (stf t (fun k => ppb t k || s.testBit k) no0) (t 1)).testBit c
theorem okp_self (t : Nat → Nat) {c : Nat} (hc : c < t 1) : okp t c (2 ^ c) = true := by
  unfold okp
  rw [bs_bit]
  simp [hc, stf, no0, Nat.testBit_two_pow_self]
theorem okp_0 (t : Nat → Nat) (c : Nat) : okp t c 0 = (stn t).testBit c := by
  unfold okp stn
  rw [stf_eq (P2 := ppb t) (no2 := no0) (fun k _ => by simp) (fun _ _ => rfl)]
theorem N_okp (w : tb_W t) (h : tb_N M t) {c s : Nat} (hc : c < 32) (hs : s < 2147483648) : ∃ z, fX12_standing M (nI s) (nI 0) = some z ∧ fX12_has z (nI c) = some (bi (okp t c s)) := by
  have w1 := w.2.1
  refine ⟨_, N_standing w h hs (no := 0) (by omega), ?_⟩
  have e := stf_eq (t := t) (P := fun k => ppb t k || s.testBit k) (no := fun k => (0 : Nat).testBit k) (P2 := fun k => ppb t k || s.testBit k) (no2 := no0) (m := t 1) (fun _ _ => rfl) (fun k _ => by simp [no0])
  rw [e, N_has (bs_31 _ (by omega)) hc]
  rfl
theorem T_okp (w : tb_W t) (h : tb_C T t) {c i : Nat} (hc : c < 32) (hi : i < 31) : ∃ z, fX7_standingBy T (gi T 7 ||| nI (2 ^ i)) nM = some z ∧ (z >>> (nI c &&& nI 31)) &&& nI 1 = nI (b2 (okp t c (2 ^ i))) := by
  have w1 := w.2.1
  have b1 := bs_31 (tb_pp t) (n := t 1) (by omega)
  have b2' := q_p31 hi
  have b3 : bs (tb_pp t) (t 1) ||| 2 ^ i < 2 ^ 31 := Nat.or_lt_two_pow (by omega) (by omega)
  rw [h.2.2.2.1, q_or]
  refine ⟨_, T_standingBy w h (pr := bs (tb_pp t) (t 1) ||| 2 ^ i) (by omega) (no := no0) (fun k hk => by rw [q_mne2 (by omega)]; simp [no0]), ?_⟩
  rw [q_bit (bs_31 _ (by omega)) hc]
  have e := stf_eq (t := t) (P := fun k => (bs (tb_pp t) (t 1) ||| 2 ^ i).testBit k) (no := no0) (P2 := fun k => ppb t k || (2 ^ i).testBit k) (no2 := no0) (m := t 1) (fun k hk => by rw [Nat.testBit_or, pp_bit t hk]) (fun _ _ => rfl)
  rw [e]
  rfl
theorem T_fewest (w : tb_W t) (h : tb_C T t) {c i : Nat} (hc : c < t 1) (h0 : okp t c 0 = false) (hi : okp t c (2 ^ i) = true) (hl : ∀ j, j < i → okp t c (2 ^ j) = false) : fX7_fewestProps T (nI c) = some (nI (2 ^ i)) := by
  have w1 := w.2.1
  have bst := stn_lt w
  have hic : i ≤ c := by
    by_cases d : i ≤ c
    · exact d
    · have := hl c (by omega)
      rw [okp_self t hc] at this; cases this
  unfold fX7_fewestProps
  rw [T_standing w h, Option.bind_some, show (31 : Int32) = nI 31 from rfl, show (1 : Int32) = nI 1 from rfl, q_bit (by omega) (by omega), ← okp_0, h0]
  rw [if_pos (show nI (b2 false) = (0 : Int32) from rfl)]
  obtain ⟨r, e, hr⟩ := lp_up (σ := Unit) (fun f k _ => fX7_fewestProps_15 T f (nI c) k) c (fun k _ => k ≤ i) (fun r => r = nI (2 ^ i))
    (fun f _ hk => ⟨nI (2 ^ c), by simp (disch := omega) only [fX7_fewestProps_15, q_one, l_0, l_1, l_2, l_3, l_4, l_5, l_6, l_7, l_8, l_9, l_10, l_11, l_12, l_13, l_14, l_15, l_16, l_17, l_18, l_19, l_20, l_21, l_22, l_23, l_24, l_25, l_30, l_31, l_32, l_40, l_48, l_54, l_57, l_59, l_60, l_61, l_62, l_63, l_65, l_66, l_72, l_82, l_92, l_93, l_94, l_97, l_99, l_100, l_101, l_102, l_103, l_104, l_105, l_107, l_108, l_109, l_110, l_111, l_112, l_114, l_115, l_116, l_117, l_119, l_121, l_122, l_136, l_200, l_255, l_300, l_364, l_900, l_1000, l_1456, l_1458, l_1459, l_1460, l_1462, l_1471, l_1504, l_1510, l_1522, l_1550, l_2971, l_9999, l_10000, l_10979, l_65536, l_m1, nI_add, pk_mul, q_sub, q_ltT, q_ltF, q_leT, q_leF, q_eqT, q_eqF, q_inT, q_inF, nI_clamp, q_mlt, q_mle, q_mne, q_mne2, q_mnlt, q_mnle, Option.bind_some, if_true, if_false, reduceIte, ite_not, not_true_eq_false, not_false_eq_true, q_z1, Nat.reduceEqDiff], by rw [show i = c from by omega]⟩)
    (fun f k _ hk hki => by
      obtain ⟨z, z1, z2⟩ := T_okp w h (c := c) (i := k) (by omega) (by omega)
      by_cases d : k = i
      · subst d
        rw [hi] at z2
        right
        exact ⟨_, by simp (disch := omega) only [fX7_fewestProps_15, z1, z2, b2_1, q_one, l_0, l_1, l_2, l_3, l_4, l_5, l_6, l_7, l_8, l_9, l_10, l_11, l_12, l_13, l_14, l_15, l_16, l_17, l_18, l_19, l_20, l_21, l_22, l_23, l_24, l_25, l_30, l_31, l_32, l_40, l_48, l_54, l_57, l_59, l_60, l_61, l_62, l_63, l_65, l_66, l_72, l_82, l_92, l_93, l_94, l_97, l_99, l_100, l_101, l_102, l_103, l_104, l_105, l_107, l_108, l_109, l_110, l_111, l_112, l_114, l_115, l_116, l_117, l_119, l_121, l_122, l_136, l_200, l_255, l_300, l_364, l_900, l_1000, l_1456, l_1458, l_1459, l_1460, l_1462, l_1471, l_1504, l_1510, l_1522, l_1550, l_2971, l_9999, l_10000, l_10979, l_65536, l_m1, nI_add, pk_mul, q_sub, q_ltT, q_ltF, q_leT, q_leF, q_eqT, q_eqF, q_inT, q_inF, nI_clamp, q_mlt, q_mle, q_mne, q_mne2, q_mnlt, q_mnle, Option.bind_some, if_true, if_false, reduceIte, ite_not, not_true_eq_false, not_false_eq_true, q_z1, Nat.reduceEqDiff], rfl⟩
      · rw [hl k (by omega)] at z2
        left
        exact ⟨(), by omega, by simp (disch := omega) only [fX7_fewestProps_15, z1, z2, b2_0, q_one, l_0, l_1, l_2, l_3, l_4, l_5, l_6, l_7, l_8, l_9, l_10, l_11, l_12, l_13, l_14, l_15, l_16, l_17, l_18, l_19, l_20, l_21, l_22, l_23, l_24, l_25, l_30, l_31, l_32, l_40, l_48, l_54, l_57, l_59, l_60, l_61, l_62, l_63, l_65, l_66, l_72, l_82, l_92, l_93, l_94, l_97, l_99, l_100, l_101, l_102, l_103, l_104, l_105, l_107, l_108, l_109, l_110, l_111, l_112, l_114, l_115, l_116, l_117, l_119, l_121, l_122, l_136, l_200, l_255, l_300, l_364, l_900, l_1000, l_1456, l_1458, l_1459, l_1460, l_1462, l_1471, l_1504, l_1510, l_1522, l_1550, l_2971, l_9999, l_10000, l_10979, l_65536, l_m1, nI_add, pk_mul, q_sub, q_ltT, q_ltF, q_leT, q_leF, q_eqT, q_eqF, q_inT, q_inF, nI_clamp, q_mlt, q_mle, q_mne, q_mne2, q_mnlt, q_mnle, Option.bind_some, if_true, if_false, reduceIte, ite_not, not_true_eq_false, not_false_eq_true, q_z1, Nat.reduceEqDiff]⟩) 0 () FU (by omega) (by omega) (by unfold FU; omega)
  rw [← hr]; exact e
theorem siz_2 : ∀ x, x < 256 → (2 ≤ siz x 10 ∨ x = 0 ∨ ∃ i, i < 8 ∧ x = 2 ^ i) := by decide +kernel
theorem siz_1 : ∀ i, i < 8 → siz (2 ^ i) 10 = 1 := by decide +kernel
theorem N_props0 (w : tb_W t) (h : tb_N M t) {c : Nat} (hc : c < t 1) (h0 : okp t c 0 = true) : fX12_props M (nI c) = some (nI 0) := by
  obtain ⟨w0, w1, w2, w3, w4, w5, w6, w7, w8, w9⟩ := id w
  have hu : ∀ i, i < 92 → ra M 5 i = nI (t i) := h
  have p2 : (2 : Nat) ^ t 1 ≤ 2 ^ 8 := Nat.pow_le_pow_right (by decide) w1
  have p1 : 1 ≤ 2 ^ t 1 := Nat.one_le_two_pow
  unfold fX12_props
  obtain ⟨r, e, hr⟩ := lp_up (fun f k s => fX12_props_4 M f (nI c) s k) (2 ^ t 1) (fun k s => (k = 0 ∧ s = nM) ∨ (0 < k ∧ s = nI 0)) (fun r => r = nI 0)
    (fun f s hs => ⟨s, by simp (disch := omega) only [fX12_props_4, hu, q_one, l_0, l_1, l_2, l_3, l_4, l_5, l_6, l_7, l_8, l_9, l_10, l_11, l_12, l_13, l_14, l_15, l_16, l_17, l_18, l_19, l_20, l_21, l_22, l_23, l_24, l_25, l_30, l_31, l_32, l_40, l_48, l_54, l_57, l_59, l_60, l_61, l_62, l_63, l_65, l_66, l_72, l_82, l_92, l_93, l_94, l_97, l_99, l_100, l_101, l_102, l_103, l_104, l_105, l_107, l_108, l_109, l_110, l_111, l_112, l_114, l_115, l_116, l_117, l_119, l_121, l_122, l_136, l_200, l_255, l_300, l_364, l_900, l_1000, l_1456, l_1458, l_1459, l_1460, l_1462, l_1471, l_1504, l_1510, l_1522, l_1550, l_2971, l_9999, l_10000, l_10979, l_65536, l_m1, nI_add, pk_mul, q_sub, q_ltT, q_ltF, q_leT, q_leF, q_eqT, q_eqF, q_inT, q_inF, nI_clamp, q_mlt, q_mle, q_mne, q_mne2, q_mnlt, q_mnle, q_gi, q_gil, q_gir, q_giR, q_gl, q_gli, q_glr, q_glR, q_ra, q_rai, q_ral, q_raR, q_rl, q_rli, q_rll, q_rlr, sa, sA, ia, la, q_srsr, q_sRsR, Option.bind_some, if_true, if_false, reduceIte, ite_not, not_true_eq_false, not_false_eq_true, q_z1, Nat.reduceEqDiff], by
      rcases hs with ⟨a, b⟩ | ⟨a, b⟩
      · omega
      · exact b⟩)
    (fun f k s hk hs => by
      left
      rcases hs with ⟨a, b⟩ | ⟨a, b⟩
      · subst a; subst b
        obtain ⟨z, z1, z2⟩ := N_okp w h (c := c) (s := 0) (by omega) (by omega)
        rw [h0] at z2
        exact ⟨nI 0, Or.inr ⟨by omega, rfl⟩, by simp (disch := omega) only [fX12_props_4, fX12_props_31, hu, q_one, z1, z2, bi, b2_1, l_0, l_1, l_2, l_3, l_4, l_5, l_6, l_7, l_8, l_9, l_10, l_11, l_12, l_13, l_14, l_15, l_16, l_17, l_18, l_19, l_20, l_21, l_22, l_23, l_24, l_25, l_30, l_31, l_32, l_40, l_48, l_54, l_57, l_59, l_60, l_61, l_62, l_63, l_65, l_66, l_72, l_82, l_92, l_93, l_94, l_97, l_99, l_100, l_101, l_102, l_103, l_104, l_105, l_107, l_108, l_109, l_110, l_111, l_112, l_114, l_115, l_116, l_117, l_119, l_121, l_122, l_136, l_200, l_255, l_300, l_364, l_900, l_1000, l_1456, l_1458, l_1459, l_1460, l_1462, l_1471, l_1504, l_1510, l_1522, l_1550, l_2971, l_9999, l_10000, l_10979, l_65536, l_m1, nI_add, pk_mul, q_sub, q_ltT, q_ltF, q_leT, q_leF, q_eqT, q_eqF, q_inT, q_inF, nI_clamp, q_mlt, q_mle, q_mne, q_mne2, q_mnlt, q_mnle, q_gi, q_gil, q_gir, q_giR, q_gl, q_gli, q_glr, q_glR, q_ra, q_rai, q_ral, q_raR, q_rl, q_rli, q_rll, q_rlr, sa, sA, ia, la, q_srsr, q_sRsR, Option.bind_some, if_true, if_false, reduceIte, ite_not, not_true_eq_false, not_false_eq_true, q_z1, Nat.reduceEqDiff]⟩
      · subst b
        have s1 := M_sizeOf (x := k) (by omega)
        have s2 := M_sizeOf (x := 0) (by omega)
        have s3 : sm (fun i => b2 (k.testBit i)) 10 ≤ 10 * 1 := sm_le (fun i _ => b2_le _)
        have s4 : sm (fun i => b2 ((0 : Nat).testBit i)) 10 = 0 := by decide
        rw [s4] at s2
        exact ⟨nI 0, Or.inr ⟨by omega, rfl⟩, by simp (disch := omega) only [fX12_props_4, hu, q_one, s1, s2, l_0, l_1, l_2, l_3, l_4, l_5, l_6, l_7, l_8, l_9, l_10, l_11, l_12, l_13, l_14, l_15, l_16, l_17, l_18, l_19, l_20, l_21, l_22, l_23, l_24, l_25, l_30, l_31, l_32, l_40, l_48, l_54, l_57, l_59, l_60, l_61, l_62, l_63, l_65, l_66, l_72, l_82, l_92, l_93, l_94, l_97, l_99, l_100, l_101, l_102, l_103, l_104, l_105, l_107, l_108, l_109, l_110, l_111, l_112, l_114, l_115, l_116, l_117, l_119, l_121, l_122, l_136, l_200, l_255, l_300, l_364, l_900, l_1000, l_1456, l_1458, l_1459, l_1460, l_1462, l_1471, l_1504, l_1510, l_1522, l_1550, l_2971, l_9999, l_10000, l_10979, l_65536, l_m1, nI_add, pk_mul, q_sub, q_ltT, q_ltF, q_leT, q_leF, q_eqT, q_eqF, q_inT, q_inF, nI_clamp, q_mlt, q_mle, q_mne, q_mne2, q_mnlt, q_mnle, q_gi, q_gil, q_gir, q_giR, q_gl, q_gli, q_glr, q_glR, q_ra, q_rai, q_ral, q_raR, q_rl, q_rli, q_rll, q_rlr, sa, sA, ia, la, q_srsr, q_sRsR, Option.bind_some, if_true, if_false, reduceIte, ite_not, not_true_eq_false, not_false_eq_true, q_z1, Nat.reduceEqDiff]⟩) 0 nM FU (Nat.zero_le _) (Or.inl ⟨rfl, rfl⟩) (by unfold FU; omega)
  rw [← hr]; exact e
theorem N_props1 (w : tb_W t) (h : tb_N M t) {c i : Nat} (hc : c < t 1) (h0 : okp t c 0 = false) (hi : okp t c (2 ^ i) = true) (hl : ∀ j, j < i → okp t c (2 ^ j) = false) (hit : i < t 1) : fX12_props M (nI c) = some (nI (2 ^ i)) := by
  obtain ⟨w0, w1, w2, w3, w4, w5, w6, w7, w8, w9⟩ := id w
  have hu : ∀ i, i < 92 → ra M 5 i = nI (t i) := h
  have p2 : (2 : Nat) ^ t 1 ≤ 2 ^ 8 := Nat.pow_le_pow_right (by decide) w1
  have p3 : (2 : Nat) ^ i < 2 ^ t 1 := Nat.pow_lt_pow_right (by decide) hit
  have si : siz (2 ^ i) 10 = 1 := siz_1 i (by omega)
  have p4 : 1 ≤ 2 ^ i := Nat.one_le_two_pow
  unfold fX12_props
  obtain ⟨r, e, hr⟩ := lp_up (fun f k s => fX12_props_4 M f (nI c) s k) (2 ^ t 1) (fun k s => (k ≤ 2 ^ i ∧ (s = nM ∨ ∃ x, x < 256 ∧ s = nI x ∧ 2 ≤ siz x 10)) ∨ (2 ^ i < k ∧ s = nI (2 ^ i))) (fun r => r = nI (2 ^ i))
    (fun f s hs => ⟨s, by simp (disch := omega) only [fX12_props_4, hu, q_one, l_0, l_1, l_2, l_3, l_4, l_5, l_6, l_7, l_8, l_9, l_10, l_11, l_12, l_13, l_14, l_15, l_16, l_17, l_18, l_19, l_20, l_21, l_22, l_23, l_24, l_25, l_30, l_31, l_32, l_40, l_48, l_54, l_57, l_59, l_60, l_61, l_62, l_63, l_65, l_66, l_72, l_82, l_92, l_93, l_94, l_97, l_99, l_100, l_101, l_102, l_103, l_104, l_105, l_107, l_108, l_109, l_110, l_111, l_112, l_114, l_115, l_116, l_117, l_119, l_121, l_122, l_136, l_200, l_255, l_300, l_364, l_900, l_1000, l_1456, l_1458, l_1459, l_1460, l_1462, l_1471, l_1504, l_1510, l_1522, l_1550, l_2971, l_9999, l_10000, l_10979, l_65536, l_m1, nI_add, pk_mul, q_sub, q_ltT, q_ltF, q_leT, q_leF, q_eqT, q_eqF, q_inT, q_inF, nI_clamp, q_mlt, q_mle, q_mne, q_mne2, q_mnlt, q_mnle, q_gi, q_gil, q_gir, q_giR, q_gl, q_gli, q_glr, q_glR, q_ra, q_rai, q_ral, q_raR, q_rl, q_rli, q_rll, q_rlr, sa, sA, ia, la, q_srsr, q_sRsR, Option.bind_some, if_true, if_false, reduceIte, ite_not, not_true_eq_false, not_false_eq_true, q_z1, Nat.reduceEqDiff], by
      rcases hs with ⟨a, b⟩ | ⟨a, b⟩
      · omega
      · exact b⟩)
    (fun f k s hk hs => by
      left
      have s1 := M_sizeOf (x := k) (by omega)
      have s3 : sm (fun i => b2 (k.testBit i)) 10 ≤ 10 * 1 := sm_le (fun i _ => b2_le _)
      obtain ⟨z, z1, z2⟩ := N_okp w h (c := c) (s := k) (by omega) (by omega)
      rcases hs with ⟨a, b⟩ | ⟨a, b⟩
      · by_cases d : k = 2 ^ i
        · subst d
          rw [hi] at z2
          have s1' : fX12_sizeOf (nI (2 ^ i)) = some (nI 1) := by rw [s1]; exact congrArg (fun x => some (nI x)) si
          refine ⟨nI (2 ^ i), Or.inr ⟨by omega, rfl⟩, ?_⟩
          rcases b with b | ⟨x, b1, b2', b3⟩
          · subst b
            simp (disch := omega) only [fX12_props_4, fX12_props_31, hu, q_one, z1, z2, bi, b2_1, l_0, l_1, l_2, l_3, l_4, l_5, l_6, l_7, l_8, l_9, l_10, l_11, l_12, l_13, l_14, l_15, l_16, l_17, l_18, l_19, l_20, l_21, l_22, l_23, l_24, l_25, l_30, l_31, l_32, l_40, l_48, l_54, l_57, l_59, l_60, l_61, l_62, l_63, l_65, l_66, l_72, l_82, l_92, l_93, l_94, l_97, l_99, l_100, l_101, l_102, l_103, l_104, l_105, l_107, l_108, l_109, l_110, l_111, l_112, l_114, l_115, l_116, l_117, l_119, l_121, l_122, l_136, l_200, l_255, l_300, l_364, l_900, l_1000, l_1456, l_1458, l_1459, l_1460, l_1462, l_1471, l_1504, l_1510, l_1522, l_1550, l_2971, l_9999, l_10000, l_10979, l_65536, l_m1, nI_add, pk_mul, q_sub, q_ltT, q_ltF, q_leT, q_leF, q_eqT, q_eqF, q_inT, q_inF, nI_clamp, q_mlt, q_mle, q_mne, q_mne2, q_mnlt, q_mnle, q_gi, q_gil, q_gir, q_giR, q_gl, q_gli, q_glr, q_glR, q_ra, q_rai, q_ral, q_raR, q_rl, q_rli, q_rll, q_rlr, sa, sA, ia, la, q_srsr, q_sRsR, Option.bind_some, if_true, if_false, reduceIte, ite_not, not_true_eq_false, not_false_eq_true, q_z1, Nat.reduceEqDiff]
          · subst b2'
            have s5 := M_sizeOf (x := x) (by omega)
            have s6 : sm (fun i => b2 (x.testBit i)) 10 ≤ 10 * 1 := sm_le (fun i _ => b2_le _)
            have s7 : 2 ≤ sm (fun i => b2 (x.testBit i)) 10 := b3
            simp (disch := omega) only [fX12_props_4, fX12_props_31, hu, q_one, s1', s5, z1, z2, bi, b2_1, l_0, l_1, l_2, l_3, l_4, l_5, l_6, l_7, l_8, l_9, l_10, l_11, l_12, l_13, l_14, l_15, l_16, l_17, l_18, l_19, l_20, l_21, l_22, l_23, l_24, l_25, l_30, l_31, l_32, l_40, l_48, l_54, l_57, l_59, l_60, l_61, l_62, l_63, l_65, l_66, l_72, l_82, l_92, l_93, l_94, l_97, l_99, l_100, l_101, l_102, l_103, l_104, l_105, l_107, l_108, l_109, l_110, l_111, l_112, l_114, l_115, l_116, l_117, l_119, l_121, l_122, l_136, l_200, l_255, l_300, l_364, l_900, l_1000, l_1456, l_1458, l_1459, l_1460, l_1462, l_1471, l_1504, l_1510, l_1522, l_1550, l_2971, l_9999, l_10000, l_10979, l_65536, l_m1, nI_add, pk_mul, q_sub, q_ltT, q_ltF, q_leT, q_leF, q_eqT, q_eqF, q_inT, q_inF, nI_clamp, q_mlt, q_mle, q_mne, q_mne2, q_mnlt, q_mnle, q_gi, q_gil, q_gir, q_giR, q_gl, q_gli, q_glr, q_glR, q_ra, q_rai, q_ral, q_raR, q_rl, q_rli, q_rll, q_rlr, sa, sA, ia, la, q_srsr, q_sRsR, Option.bind_some, if_true, if_false, reduceIte, ite_not, not_true_eq_false, not_false_eq_true, q_z1, Nat.reduceEqDiff]
        · cases hk2 : okp t c k
          · rw [hk2] at z2
            refine ⟨s, Or.inl ⟨by omega, b⟩, ?_⟩
            rcases b with b | ⟨x, b1, b2', b3⟩
            · subst b
              simp (disch := omega) only [fX12_props_4, fX12_props_31, hu, q_one, z1, z2, bi, b2_0, l_0, l_1, l_2, l_3, l_4, l_5, l_6, l_7, l_8, l_9, l_10, l_11, l_12, l_13, l_14, l_15, l_16, l_17, l_18, l_19, l_20, l_21, l_22, l_23, l_24, l_25, l_30, l_31, l_32, l_40, l_48, l_54, l_57, l_59, l_60, l_61, l_62, l_63, l_65, l_66, l_72, l_82, l_92, l_93, l_94, l_97, l_99, l_100, l_101, l_102, l_103, l_104, l_105, l_107, l_108, l_109, l_110, l_111, l_112, l_114, l_115, l_116, l_117, l_119, l_121, l_122, l_136, l_200, l_255, l_300, l_364, l_900, l_1000, l_1456, l_1458, l_1459, l_1460, l_1462, l_1471, l_1504, l_1510, l_1522, l_1550, l_2971, l_9999, l_10000, l_10979, l_65536, l_m1, nI_add, pk_mul, q_sub, q_ltT, q_ltF, q_leT, q_leF, q_eqT, q_eqF, q_inT, q_inF, nI_clamp, q_mlt, q_mle, q_mne, q_mne2, q_mnlt, q_mnle, q_gi, q_gil, q_gir, q_giR, q_gl, q_gli, q_glr, q_glR, q_ra, q_rai, q_ral, q_raR, q_rl, q_rli, q_rll, q_rlr, sa, sA, ia, la, q_srsr, q_sRsR, Option.bind_some, if_true, if_false, reduceIte, ite_not, not_true_eq_false, not_false_eq_true, q_z1, Nat.reduceEqDiff]
            · subst b2'
              have s5 := M_sizeOf (x := x) (by omega)
              have s6 : sm (fun i => b2 (x.testBit i)) 10 ≤ 10 * 1 := sm_le (fun i _ => b2_le _)
              by_cases g : sm (fun i => b2 (x.testBit i)) 10 ≤ sm (fun i => b2 (k.testBit i)) 10
              · simp (disch := omega) only [fX12_props_4, fX12_props_31, hu, q_one, s1, s5, l_0, l_1, l_2, l_3, l_4, l_5, l_6, l_7, l_8, l_9, l_10, l_11, l_12, l_13, l_14, l_15, l_16, l_17, l_18, l_19, l_20, l_21, l_22, l_23, l_24, l_25, l_30, l_31, l_32, l_40, l_48, l_54, l_57, l_59, l_60, l_61, l_62, l_63, l_65, l_66, l_72, l_82, l_92, l_93, l_94, l_97, l_99, l_100, l_101, l_102, l_103, l_104, l_105, l_107, l_108, l_109, l_110, l_111, l_112, l_114, l_115, l_116, l_117, l_119, l_121, l_122, l_136, l_200, l_255, l_300, l_364, l_900, l_1000, l_1456, l_1458, l_1459, l_1460, l_1462, l_1471, l_1504, l_1510, l_1522, l_1550, l_2971, l_9999, l_10000, l_10979, l_65536, l_m1, nI_add, pk_mul, q_sub, q_ltT, q_ltF, q_leT, q_leF, q_eqT, q_eqF, q_inT, q_inF, nI_clamp, q_mlt, q_mle, q_mne, q_mne2, q_mnlt, q_mnle, q_gi, q_gil, q_gir, q_giR, q_gl, q_gli, q_glr, q_glR, q_ra, q_rai, q_ral, q_raR, q_rl, q_rli, q_rll, q_rlr, sa, sA, ia, la, q_srsr, q_sRsR, Option.bind_some, if_true, if_false, reduceIte, ite_not, not_true_eq_false, not_false_eq_true, q_z1, Nat.reduceEqDiff]
              · simp (disch := omega) only [fX12_props_4, fX12_props_31, hu, q_one, s1, s5, z1, z2, bi, b2_0, l_0, l_1, l_2, l_3, l_4, l_5, l_6, l_7, l_8, l_9, l_10, l_11, l_12, l_13, l_14, l_15, l_16, l_17, l_18, l_19, l_20, l_21, l_22, l_23, l_24, l_25, l_30, l_31, l_32, l_40, l_48, l_54, l_57, l_59, l_60, l_61, l_62, l_63, l_65, l_66, l_72, l_82, l_92, l_93, l_94, l_97, l_99, l_100, l_101, l_102, l_103, l_104, l_105, l_107, l_108, l_109, l_110, l_111, l_112, l_114, l_115, l_116, l_117, l_119, l_121, l_122, l_136, l_200, l_255, l_300, l_364, l_900, l_1000, l_1456, l_1458, l_1459, l_1460, l_1462, l_1471, l_1504, l_1510, l_1522, l_1550, l_2971, l_9999, l_10000, l_10979, l_65536, l_m1, nI_add, pk_mul, q_sub, q_ltT, q_ltF, q_leT, q_leF, q_eqT, q_eqF, q_inT, q_inF, nI_clamp, q_mlt, q_mle, q_mne, q_mne2, q_mnlt, q_mnle, q_gi, q_gil, q_gir, q_giR, q_gl, q_gli, q_glr, q_glR, q_ra, q_rai, q_ral, q_raR, q_rl, q_rli, q_rll, q_rlr, sa, sA, ia, la, q_srsr, q_sRsR, Option.bind_some, if_true, if_false, reduceIte, ite_not, not_true_eq_false, not_false_eq_true, q_z1, Nat.reduceEqDiff]
          · rw [hk2] at z2
            have hk3 : 2 ≤ siz k 10 := by
              rcases siz_2 k (by omega) with g | g | ⟨j, g1, g2⟩
              · exact g
              · subst g; rw [h0] at hk2; cases hk2
              · subst g2
                have : j < i := by
                  by_cases q : j < i
                  · exact q
                  · have := Nat.pow_le_pow_right (n := 2) (by decide) (show i ≤ j by omega)
                    omega
                rw [hl j this] at hk2; cases hk2
            rcases b with b | ⟨x, b1, b2', b3⟩
            · subst b
              refine ⟨nI k, Or.inl ⟨by omega, Or.inr ⟨k, by omega, rfl, hk3⟩⟩, ?_⟩
              simp (disch := omega) only [fX12_props_4, fX12_props_31, hu, q_one, z1, z2, bi, b2_1, l_0, l_1, l_2, l_3, l_4, l_5, l_6, l_7, l_8, l_9, l_10, l_11, l_12, l_13, l_14, l_15, l_16, l_17, l_18, l_19, l_20, l_21, l_22, l_23, l_24, l_25, l_30, l_31, l_32, l_40, l_48, l_54, l_57, l_59, l_60, l_61, l_62, l_63, l_65, l_66, l_72, l_82, l_92, l_93, l_94, l_97, l_99, l_100, l_101, l_102, l_103, l_104, l_105, l_107, l_108, l_109, l_110, l_111, l_112, l_114, l_115, l_116, l_117, l_119, l_121, l_122, l_136, l_200, l_255, l_300, l_364, l_900, l_1000, l_1456, l_1458, l_1459, l_1460, l_1462, l_1471, l_1504, l_1510, l_1522, l_1550, l_2971, l_9999, l_10000, l_10979, l_65536, l_m1, nI_add, pk_mul, q_sub, q_ltT, q_ltF, q_leT, q_leF, q_eqT, q_eqF, q_inT, q_inF, nI_clamp, q_mlt, q_mle, q_mne, q_mne2, q_mnlt, q_mnle, q_gi, q_gil, q_gir, q_giR, q_gl, q_gli, q_glr, q_glR, q_ra, q_rai, q_ral, q_raR, q_rl, q_rli, q_rll, q_rlr, sa, sA, ia, la, q_srsr, q_sRsR, Option.bind_some, if_true, if_false, reduceIte, ite_not, not_true_eq_false, not_false_eq_true, q_z1, Nat.reduceEqDiff]
            · subst b2'
              have s5 := M_sizeOf (x := x) (by omega)
              have s6 : sm (fun i => b2 (x.testBit i)) 10 ≤ 10 * 1 := sm_le (fun i _ => b2_le _)
              by_cases g : sm (fun i => b2 (x.testBit i)) 10 ≤ sm (fun i => b2 (k.testBit i)) 10
              · refine ⟨nI x, Or.inl ⟨by omega, Or.inr ⟨x, b1, rfl, b3⟩⟩, ?_⟩
                simp (disch := omega) only [fX12_props_4, fX12_props_31, hu, q_one, s1, s5, l_0, l_1, l_2, l_3, l_4, l_5, l_6, l_7, l_8, l_9, l_10, l_11, l_12, l_13, l_14, l_15, l_16, l_17, l_18, l_19, l_20, l_21, l_22, l_23, l_24, l_25, l_30, l_31, l_32, l_40, l_48, l_54, l_57, l_59, l_60, l_61, l_62, l_63, l_65, l_66, l_72, l_82, l_92, l_93, l_94, l_97, l_99, l_100, l_101, l_102, l_103, l_104, l_105, l_107, l_108, l_109, l_110, l_111, l_112, l_114, l_115, l_116, l_117, l_119, l_121, l_122, l_136, l_200, l_255, l_300, l_364, l_900, l_1000, l_1456, l_1458, l_1459, l_1460, l_1462, l_1471, l_1504, l_1510, l_1522, l_1550, l_2971, l_9999, l_10000, l_10979, l_65536, l_m1, nI_add, pk_mul, q_sub, q_ltT, q_ltF, q_leT, q_leF, q_eqT, q_eqF, q_inT, q_inF, nI_clamp, q_mlt, q_mle, q_mne, q_mne2, q_mnlt, q_mnle, q_gi, q_gil, q_gir, q_giR, q_gl, q_gli, q_glr, q_glR, q_ra, q_rai, q_ral, q_raR, q_rl, q_rli, q_rll, q_rlr, sa, sA, ia, la, q_srsr, q_sRsR, Option.bind_some, if_true, if_false, reduceIte, ite_not, not_true_eq_false, not_false_eq_true, q_z1, Nat.reduceEqDiff]
              · refine ⟨nI k, Or.inl ⟨by omega, Or.inr ⟨k, by omega, rfl, hk3⟩⟩, ?_⟩
                simp (disch := omega) only [fX12_props_4, fX12_props_31, hu, q_one, s1, s5, z1, z2, bi, b2_1, l_0, l_1, l_2, l_3, l_4, l_5, l_6, l_7, l_8, l_9, l_10, l_11, l_12, l_13, l_14, l_15, l_16, l_17, l_18, l_19, l_20, l_21, l_22, l_23, l_24, l_25, l_30, l_31, l_32, l_40, l_48, l_54, l_57, l_59, l_60, l_61, l_62, l_63, l_65, l_66, l_72, l_82, l_92, l_93, l_94, l_97, l_99, l_100, l_101, l_102, l_103, l_104, l_105, l_107, l_108, l_109, l_110, l_111, l_112, l_114, l_115, l_116, l_117, l_119, l_121, l_122, l_136, l_200, l_255, l_300, l_364, l_900, l_1000, l_1456, l_1458, l_1459, l_1460, l_1462, l_1471, l_1504, l_1510, l_1522, l_1550, l_2971, l_9999, l_10000, l_10979, l_65536, l_m1, nI_add, pk_mul, q_sub, q_ltT, q_ltF, q_leT, q_leF, q_eqT, q_eqF, q_inT, q_inF, nI_clamp, q_mlt, q_mle, q_mne, q_mne2, q_mnlt, q_mnle, q_gi, q_gil, q_gir, q_giR, q_gl, q_gli, q_glr, q_glR, q_ra, q_rai, q_ral, q_raR, q_rl, q_rli, q_rll, q_rlr, sa, sA, ia, la, q_srsr, q_sRsR, Option.bind_some, if_true, if_false, reduceIte, ite_not, not_true_eq_false, not_false_eq_true, q_z1, Nat.reduceEqDiff]
      · subst b
        have s2 := M_sizeOf (x := 2 ^ i) (by omega)
        have s2' : fX12_sizeOf (nI (2 ^ i)) = some (nI 1) := by rw [s2]; exact congrArg (fun x => some (nI x)) si
        have s8 : 1 ≤ sm (fun i => b2 (k.testBit i)) 10 := by
          rcases siz_2 k (by omega) with g | g | ⟨j, g1, g2⟩
          · exact Nat.le_trans (by omega) g
          · omega
          · subst g2; exact Nat.le_of_eq (siz_1 j g1).symm
        exact ⟨nI (2 ^ i), Or.inr ⟨by omega, rfl⟩, by simp (disch := omega) only [fX12_props_4, hu, q_one, s1, s2', l_0, l_1, l_2, l_3, l_4, l_5, l_6, l_7, l_8, l_9, l_10, l_11, l_12, l_13, l_14, l_15, l_16, l_17, l_18, l_19, l_20, l_21, l_22, l_23, l_24, l_25, l_30, l_31, l_32, l_40, l_48, l_54, l_57, l_59, l_60, l_61, l_62, l_63, l_65, l_66, l_72, l_82, l_92, l_93, l_94, l_97, l_99, l_100, l_101, l_102, l_103, l_104, l_105, l_107, l_108, l_109, l_110, l_111, l_112, l_114, l_115, l_116, l_117, l_119, l_121, l_122, l_136, l_200, l_255, l_300, l_364, l_900, l_1000, l_1456, l_1458, l_1459, l_1460, l_1462, l_1471, l_1504, l_1510, l_1522, l_1550, l_2971, l_9999, l_10000, l_10979, l_65536, l_m1, nI_add, pk_mul, q_sub, q_ltT, q_ltF, q_leT, q_leF, q_eqT, q_eqF, q_inT, q_inF, nI_clamp, q_mlt, q_mle, q_mne, q_mne2, q_mnlt, q_mnle, q_gi, q_gil, q_gir, q_giR, q_gl, q_gli, q_glr, q_glR, q_ra, q_rai, q_ral, q_raR, q_rl, q_rli, q_rll, q_rlr, sa, sA, ia, la, q_srsr, q_sRsR, Option.bind_some, if_true, if_false, reduceIte, ite_not, not_true_eq_false, not_false_eq_true, q_z1, Nat.reduceEqDiff]⟩) 0 nM FU (Nat.zero_le _) (Or.inl ⟨Nat.zero_le _, Or.inl rfl⟩) (by unfold FU; omega)
  rw [← hr]; exact e
/-- both find the same set -/
theorem props_eq {T2 : ms_T} (w : tb_W t) (h : tb_C T2 t) (hN : tb_N M t) {c : Nat} (hc : c < t 1) : ∃ x, x < 256 ∧ fX7_fewestProps T2 (nI c) = some (nI x) ∧ fX12_props M (nI c) = some (nI x) := by
  have w1 := w.2.1
  have bst := stn_lt w
  cases h0 : okp t c 0
  · obtain ⟨i, hi, hl⟩ := pk_least (fun i => okp t c (2 ^ i) = true) ⟨c, okp_self t hc⟩
    have hl' : ∀ j, j < i → okp t c (2 ^ j) = false := fun j hj => by
      have := hl j hj
      cases e : okp t c (2 ^ j)
      · rfl
      · exact absurd e this
    have hic : i ≤ c := by
      by_cases d : i ≤ c
      · exact d
      · have := hl' c (by omega)
        rw [okp_self t hc] at this; cases this
    have p2 : (2 : Nat) ^ i ≤ 2 ^ 7 := Nat.pow_le_pow_right (by decide) (by omega)
    exact ⟨2 ^ i, by omega, T_fewest w h hc h0 hi hl', N_props1 w hN hc h0 hi hl' (by omega)⟩
  · refine ⟨0, by omega, ?_, N_props0 w hN hc h0⟩
    unfold fX7_fewestProps
    rw [T_standing w h, Option.bind_some, show (31 : Int32) = nI 31 from rfl, show (1 : Int32) = nI 1 from rfl, q_bit (by omega) (by omega), ← okp_0, h0]
    rfl
end Q43
theorem o_holdsUp : op_holdsUp Rl := by
  intro SC SY0 SY1 SY2 SY3 SB ST0 SE0 ST2 SE2 ST3 SE3 ST4 SE4 SV0 SM SP0 hR a1
  obtain ⟨hs, hF, hU, hT, ⟨hY0, hY1, hY2, hY3⟩, ⟨t, w, hC, hN0, n1, n2, n3, hE⟩, hK, hV⟩ := id hR
  have hN := tb_N0 hN0
  have hN2 : tb_N (si (si SM 1 (nI 0)) 0 (nI 0)) t := hN
  have hNu : ∀ i, i < 92 → ra SM 5 i = nI (t i) := hN
  obtain ⟨w0, w1, w2, w3, w4, w5, w6, w7, w8, w9⟩ := id w
  obtain ⟨h0, h1, h2, h3, h4, h5, h6, h7, h8, h9, h10, h11, h12, h13, h14, h15, h16⟩ := id hC
  have e1 := T_isClaim w hC a1
  have e2 := N_isClaimAt w hN2 a1
  rcases q_ix a1 (t 1) (by omega) with ⟨h, e⟩ | ⟨h, h2', e⟩ | ⟨k, hk, rfl⟩
  · simp (disch := omega) only [fX11_holdsUp, fX12_holdsUp, fX11_answer, fX11_refuse, fX11_deny, fX11_grant, fX12_refuse, fX12_no, e1, e2, e, bi, b2_0, l_0, l_1, l_2, l_3, l_4, l_5, l_6, l_7, l_8, l_9, l_10, l_11, l_12, l_13, l_14, l_15, l_16, l_17, l_18, l_19, l_20, l_21, l_22, l_23, l_24, l_25, l_30, l_31, l_32, l_40, l_48, l_54, l_57, l_59, l_60, l_61, l_62, l_63, l_65, l_66, l_72, l_82, l_92, l_93, l_94, l_97, l_99, l_100, l_101, l_102, l_103, l_104, l_105, l_107, l_108, l_109, l_110, l_111, l_112, l_114, l_115, l_116, l_117, l_119, l_121, l_122, l_136, l_200, l_255, l_300, l_364, l_900, l_1000, l_1456, l_1458, l_1459, l_1460, l_1462, l_1471, l_1504, l_1510, l_1522, l_1550, l_2971, l_9999, l_10000, l_10979, l_65536, l_m1, nI_add, pk_mul, q_sub, q_ltT, q_ltF, q_leT, q_leF, q_eqT, q_eqF, q_inT, q_inF, nI_clamp, q_mlt, q_mle, q_mne, q_mne2, q_mnlt, q_mnle, Option.bind_some, if_true, if_false, reduceIte, ite_not, not_true_eq_false, not_false_eq_true, q_z1, Nat.reduceEqDiff]
    exact ⟨_, _, rfl, rfl, rfl, rl_st2 hR _ _⟩
  · simp (disch := omega) only [fX11_holdsUp, fX12_holdsUp, fX11_answer, fX11_refuse, fX11_deny, fX11_grant, fX12_refuse, fX12_no, e1, e2, e, bi, b2_0, l_0, l_1, l_2, l_3, l_4, l_5, l_6, l_7, l_8, l_9, l_10, l_11, l_12, l_13, l_14, l_15, l_16, l_17, l_18, l_19, l_20, l_21, l_22, l_23, l_24, l_25, l_30, l_31, l_32, l_40, l_48, l_54, l_57, l_59, l_60, l_61, l_62, l_63, l_65, l_66, l_72, l_82, l_92, l_93, l_94, l_97, l_99, l_100, l_101, l_102, l_103, l_104, l_105, l_107, l_108, l_109, l_110, l_111, l_112, l_114, l_115, l_116, l_117, l_119, l_121, l_122, l_136, l_200, l_255, l_300, l_364, l_900, l_1000, l_1456, l_1458, l_1459, l_1460, l_1462, l_1471, l_1504, l_1510, l_1522, l_1550, l_2971, l_9999, l_10000, l_10979, l_65536, l_m1, nI_add, pk_mul, q_sub, q_ltT, q_ltF, q_leT, q_leF, q_eqT, q_eqF, q_inT, q_inF, nI_clamp, q_mlt, q_mle, q_mne, q_mne2, q_mnlt, q_mnle, Option.bind_some, if_true, if_false, reduceIte, ite_not, not_true_eq_false, not_false_eq_true, q_z1, Nat.reduceEqDiff]
    exact ⟨_, _, rfl, rfl, rfl, rl_st2 hR _ _⟩
  · have ek : inb (nI k) (t 1) = true := q_inT hk (by omega)
    obtain ⟨x, hx, g1, g2⟩ := props_eq w hC hN2 hk
    obtain ⟨r, r1, r2⟩ := q_cnt hx
    simp (disch := omega) only [fX11_holdsUp, fX12_holdsUp, fX11_answer, fX11_refuse, fX11_deny, fX11_grant, fX12_refuse, fX12_no, e1, e2, ek, g1, g2, r1, r2, bi, b2_1, l_0, l_1, l_2, l_3, l_4, l_5, l_6, l_7, l_8, l_9, l_10, l_11, l_12, l_13, l_14, l_15, l_16, l_17, l_18, l_19, l_20, l_21, l_22, l_23, l_24, l_25, l_30, l_31, l_32, l_40, l_48, l_54, l_57, l_59, l_60, l_61, l_62, l_63, l_65, l_66, l_72, l_82, l_92, l_93, l_94, l_97, l_99, l_100, l_101, l_102, l_103, l_104, l_105, l_107, l_108, l_109, l_110, l_111, l_112, l_114, l_115, l_116, l_117, l_119, l_121, l_122, l_136, l_200, l_255, l_300, l_364, l_900, l_1000, l_1456, l_1458, l_1459, l_1460, l_1462, l_1471, l_1504, l_1510, l_1522, l_1550, l_2971, l_9999, l_10000, l_10979, l_65536, l_m1, nI_add, pk_mul, q_sub, q_ltT, q_ltF, q_leT, q_leF, q_eqT, q_eqF, q_inT, q_inF, nI_clamp, q_mlt, q_mle, q_mne, q_mne2, q_mnlt, q_mnle, Option.bind_some, if_true, if_false, reduceIte, ite_not, not_true_eq_false, not_false_eq_true, q_z1, Nat.reduceEqDiff]
    exact ⟨_, _, rfl, rfl, rfl, rl_st hR _⟩
theorem o_holdsUpSet : op_holdsUpSet Rl := by
  intro SC SY0 SY1 SY2 SY3 SB ST0 SE0 ST2 SE2 ST3 SE3 ST4 SE4 SV0 SM SP0 hR a1
  obtain ⟨hs, hF, hU, hT, ⟨hY0, hY1, hY2, hY3⟩, ⟨t, w, hC, hN0, n1, n2, n3, hE⟩, hK, hV⟩ := id hR
  have hN := tb_N0 hN0
  have hN2 : tb_N (si (si SM 1 (nI 0)) 0 (nI 0)) t := hN
  have hNu : ∀ i, i < 92 → ra SM 5 i = nI (t i) := hN
  obtain ⟨w0, w1, w2, w3, w4, w5, w6, w7, w8, w9⟩ := id w
  obtain ⟨h0, h1, h2, h3, h4, h5, h6, h7, h8, h9, h10, h11, h12, h13, h14, h15, h16⟩ := id hC
  have e1 := T_isClaim w hC a1
  have e2 := N_isClaimAt w hN2 a1
  rcases q_ix a1 (t 1) (by omega) with ⟨h, e⟩ | ⟨h, h2', e⟩ | ⟨k, hk, rfl⟩
  · simp (disch := omega) only [fX11_holdsUpSet, fX12_holdsUpSet, fX11_answer, fX11_refuse, fX11_deny, fX11_grant, fX12_refuse, fX12_no, e1, e2, e, bi, b2_0, l_0, l_1, l_2, l_3, l_4, l_5, l_6, l_7, l_8, l_9, l_10, l_11, l_12, l_13, l_14, l_15, l_16, l_17, l_18, l_19, l_20, l_21, l_22, l_23, l_24, l_25, l_30, l_31, l_32, l_40, l_48, l_54, l_57, l_59, l_60, l_61, l_62, l_63, l_65, l_66, l_72, l_82, l_92, l_93, l_94, l_97, l_99, l_100, l_101, l_102, l_103, l_104, l_105, l_107, l_108, l_109, l_110, l_111, l_112, l_114, l_115, l_116, l_117, l_119, l_121, l_122, l_136, l_200, l_255, l_300, l_364, l_900, l_1000, l_1456, l_1458, l_1459, l_1460, l_1462, l_1471, l_1504, l_1510, l_1522, l_1550, l_2971, l_9999, l_10000, l_10979, l_65536, l_m1, nI_add, pk_mul, q_sub, q_ltT, q_ltF, q_leT, q_leF, q_eqT, q_eqF, q_inT, q_inF, nI_clamp, q_mlt, q_mle, q_mne, q_mne2, q_mnlt, q_mnle, Option.bind_some, if_true, if_false, reduceIte, ite_not, not_true_eq_false, not_false_eq_true, q_z1, Nat.reduceEqDiff]
    exact ⟨_, _, rfl, rfl, rfl, rl_st2 hR _ _⟩
  · simp (disch := omega) only [fX11_holdsUpSet, fX12_holdsUpSet, fX11_answer, fX11_refuse, fX11_deny, fX11_grant, fX12_refuse, fX12_no, e1, e2, e, bi, b2_0, l_0, l_1, l_2, l_3, l_4, l_5, l_6, l_7, l_8, l_9, l_10, l_11, l_12, l_13, l_14, l_15, l_16, l_17, l_18, l_19, l_20, l_21, l_22, l_23, l_24, l_25, l_30, l_31, l_32, l_40, l_48, l_54, l_57, l_59, l_60, l_61, l_62, l_63, l_65, l_66, l_72, l_82, l_92, l_93, l_94, l_97, l_99, l_100, l_101, l_102, l_103, l_104, l_105, l_107, l_108, l_109, l_110, l_111, l_112, l_114, l_115, l_116, l_117, l_119, l_121, l_122, l_136, l_200, l_255, l_300, l_364, l_900, l_1000, l_1456, l_1458, l_1459, l_1460, l_1462, l_1471, l_1504, l_1510, l_1522, l_1550, l_2971, l_9999, l_10000, l_10979, l_65536, l_m1, nI_add, pk_mul, q_sub, q_ltT, q_ltF, q_leT, q_leF, q_eqT, q_eqF, q_inT, q_inF, nI_clamp, q_mlt, q_mle, q_mne, q_mne2, q_mnlt, q_mnle, Option.bind_some, if_true, if_false, reduceIte, ite_not, not_true_eq_false, not_false_eq_true, q_z1, Nat.reduceEqDiff]
    exact ⟨_, _, rfl, rfl, rfl, rl_st2 hR _ _⟩
  · have ek : inb (nI k) (t 1) = true := q_inT hk (by omega)
    obtain ⟨x, hx, g1, g2⟩ := props_eq w hC hN2 hk
    simp (disch := omega) only [fX11_holdsUpSet, fX12_holdsUpSet, fX11_answer, fX11_refuse, fX11_deny, fX11_grant, fX12_refuse, fX12_no, e1, e2, ek, g1, g2, bi, b2_1, l_0, l_1, l_2, l_3, l_4, l_5, l_6, l_7, l_8, l_9, l_10, l_11, l_12, l_13, l_14, l_15, l_16, l_17, l_18, l_19, l_20, l_21, l_22, l_23, l_24, l_25, l_30, l_31, l_32, l_40, l_48, l_54, l_57, l_59, l_60, l_61, l_62, l_63, l_65, l_66, l_72, l_82, l_92, l_93, l_94, l_97, l_99, l_100, l_101, l_102, l_103, l_104, l_105, l_107, l_108, l_109, l_110, l_111, l_112, l_114, l_115, l_116, l_117, l_119, l_121, l_122, l_136, l_200, l_255, l_300, l_364, l_900, l_1000, l_1456, l_1458, l_1459, l_1460, l_1462, l_1471, l_1504, l_1510, l_1522, l_1550, l_2971, l_9999, l_10000, l_10979, l_65536, l_m1, nI_add, pk_mul, q_sub, q_ltT, q_ltF, q_leT, q_leF, q_eqT, q_eqF, q_inT, q_inF, nI_clamp, q_mlt, q_mle, q_mne, q_mne2, q_mnlt, q_mnle, Option.bind_some, if_true, if_false, reduceIte, ite_not, not_true_eq_false, not_false_eq_true, q_z1, Nat.reduceEqDiff]
    exact ⟨_, _, rfl, rfl, rfl, rl_st hR _⟩
