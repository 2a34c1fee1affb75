/-! what the class's table and the reference's block of cells answer alike: predicates, sets -/
section Q21
variable {T M : ms_T} {t : Nat → Nat}
def tb_N (M : ms_T) (t : Nat → Nat) : Prop := ∀ i, i < 92 → ra M 5 i = nI (t i)
def bi (b : Bool) : Int32 := nI (b2 b)
theorem bi_0 (b : Bool) : (bi b = nI 0) ↔ b = false := q_b0 b
theorem bi_bb (b : Bool) : bi b &&& nI 1 = bi b := q_bb b
theorem q_in3 {x : Int32} {n : Nat} (hn : n < 2147483648) : (if x < 0 then some (0 : Int32) else if nI n ≤ x then some 0 else some 1) = some (bi (inb x n)) := by
  rcases q_ix x n hn with ⟨h, e⟩ | ⟨h, h2, e⟩ | ⟨j, hj, rfl⟩
  · rw [e, if_pos (show x < 0 from h)]; rfl
  · rw [e, if_neg (show ¬ x < 0 from h2), if_pos h]; rfl
  · rw [q_inT hj (by omega), if_neg (nI_pos (by omega)), if_neg (nI_ge hj hn)]; rfl
theorem q_in4 {x : Int32} {n : Nat} (hn : n < 2147483647) : (if x < 0 then some (0 : Int32) else if nI n < x then some 0 else some 1) = some (bi (inb x (n + 1))) := by
  rcases q_ix x (n + 1) (by omega) with ⟨h, e⟩ | ⟨h, h2, e⟩ | ⟨j, hj, rfl⟩
  · rw [e, if_pos (show x < 0 from h)]; rfl
  · rw [e, if_neg (show ¬ x < 0 from h2), if_pos (of_eq_true (q_bggl h (by omega) (by omega)))]; rfl
  · rw [q_inT hj (by omega), if_neg (nI_pos (by omega)), if_neg (nI_nlt (by omega) (by omega))]; rfl
theorem T_isTopic (w : tb_W t) (h : tb_C T t) (x : Int32) : fX7_isTopic T x = some (bi (inb x (t 0))) := by
  unfold fX7_isTopic; rw [h.2.1]; exact q_in3 (by have := w.1; omega)
theorem T_isHeight (w : tb_W t) (h : tb_C T t) (x : Int32) : fX7_isHeight T x = some (bi (inb x (t 0 + 1))) := by
  unfold fX7_isHeight; rw [h.2.1]; exact q_in4 (by have := w.1; omega)
theorem T_isClaim (w : tb_W t) (h : tb_C T t) (x : Int32) : fX7_isClaim T x = some (bi (inb x (t 1))) := by
  unfold fX7_isClaim; rw [h.2.2.1]; exact q_in3 (by have := w.2.1; omega)
theorem T_isTalker (w : tb_W t) (h : tb_C T t) (x : Int32) : fX7_isTalker T x = some (bi (inb x (t 2))) := by
  unfold fX7_isTalker; rw [h.2.2.2.2.1]; exact q_in3 (by have := w.2.2.1; omega)
theorem q_isIn (x a b : Int64) : fX12_isIn x a b = some (bi (decide (a.toInt ≤ x.toInt ∧ x.toInt ≤ b.toInt))) := by
  unfold fX12_isIn lg_cmp
  have e1 : (a < x) ↔ a.toInt < x.toInt := Int64.lt_iff_toInt_lt
  have e2 : (b < x) ↔ b.toInt < x.toInt := Int64.lt_iff_toInt_lt
  have e3 : (x = a) ↔ x.toInt = a.toInt := Int64.toInt_inj.symm
  have e4 : (x = b) ↔ x.toInt = b.toInt := Int64.toInt_inj.symm
  by_cases h1 : a.toInt ≤ x.toInt
  · by_cases h2 : x.toInt ≤ b.toInt
    · rw [if_neg, if_neg, decide_eq_true ⟨h1, h2⟩]
      · rfl
      · show ¬ (0 : Int32) < if b < x then 1 else if x = b then 0 else -1
        rw [if_neg (by rw [e2]; omega)]
        split <;> decide
      · show ¬ (if a < x then (1 : Int32) else if x = a then 0 else -1) < 0
        by_cases h3 : a < x
        · rw [if_pos h3]; decide
        · rw [if_neg h3, if_pos (by rw [e3]; rw [e1] at h3; omega)]; decide
    · rw [if_neg, if_pos, decide_eq_false (fun h => h2 h.2)]
      · rfl
      · show (0 : Int32) < if b < x then 1 else if x = b then 0 else -1
        rw [if_pos (by rw [e2]; omega)]; decide
      · show ¬ (if a < x then (1 : Int32) else if x = a then 0 else -1) < 0
        by_cases h3 : a < x
        · rw [if_pos h3]; decide
        · rw [if_neg h3, if_pos (by rw [e3]; rw [e1] at h3; omega)]; decide
  · rw [if_pos, decide_eq_false (fun h => h1 h.1)]
    · rfl
    · show (if a < x then (1 : Int32) else if x = a then 0 else -1) < 0
      rw [if_neg (by rw [e1]; omega), if_neg (by rw [e3]; omega)]; decide
theorem q_isInN (x : Int32) {b : Int32} {n : Nat} (hn : n < 2147483648) (hb : b.toInt = (n : Int) - 1) : fX12_isIn x.toInt64 (0 : Int64) b.toInt64 = some (bi (inb x n)) := by
  rw [q_isIn, Int32.toInt_toInt64, Int32.toInt_toInt64, hb]
  rcases q_ix x n hn with ⟨h, e⟩ | ⟨h, h2, e⟩ | ⟨j, hj, rfl⟩
  · rw [e, decide_eq_false]
    rw [Int32.lt_iff_toInt_lt, nI_toInt (by omega)] at h
    intro h3; have h4 : (0 : Int) ≤ x.toInt := h3.1
    omega
  · rw [e, decide_eq_false]
    rw [Int32.le_iff_toInt_le, nI_toInt hn] at h
    omega
  · rw [q_inT hj (by omega), nI_toInt (by omega), decide_eq_true]
    refine ⟨?_, by omega⟩
    show (0 : Int) ≤ j; omega
theorem q_isInL (x : Int32) {b : Int64} (n : Nat) (hn : n < 2147483648) (hb : b.toInt = (n : Int) - 1) : fX12_isIn x.toInt64 (0 : Int64) b = some (bi (inb x n)) := by
  rw [q_isIn, Int32.toInt_toInt64, hb]
  rcases q_ix x n hn with ⟨h, e⟩ | ⟨h, h2, e⟩ | ⟨j, hj, rfl⟩
  · rw [e, decide_eq_false]
    rw [Int32.lt_iff_toInt_lt, nI_toInt (by omega)] at h
    intro h3; have h4 : (0 : Int) ≤ x.toInt := h3.1
    omega
  · rw [e, decide_eq_false]
    rw [Int32.le_iff_toInt_le, nI_toInt hn] at h
    omega
  · rw [q_inT hj (by omega), nI_toInt (by omega), decide_eq_true]
    refine ⟨?_, by omega⟩
    show (0 : Int) ≤ j; omega
theorem q_pred {n : Nat} (hn : n < 1000) : (nI n - 1).toInt = (n : Int) - 1 := by
  have h := pk_sub_toInt (a := n) (b := 1) (by omega) (by omega)
  exact h
theorem N_isTopicAt (w : tb_W t) (h : tb_N M t) (x : Int32) : fX12_isTopicAt M x = some (bi (inb x (t 0))) := by
  unfold fX12_isTopicAt
  have e : ia M 5 0 = nI (t 0) := h 0 (by omega)
  rw [e, q_isInN x (n := t 0) (by have := w.1; omega) (q_pred (by have := w.1; omega))]
  simp only [Option.bind_some, l_0, l_1, l_2, l_3, l_4, l_5, l_6, l_7, l_8, l_9, l_10, l_11, l_12, l_13, l_14, l_15, l_16, l_17, l_18, l_19, l_20, l_21, l_22, l_23, l_24, l_25, l_30, l_31, l_32, l_40, l_48, l_54, l_57, l_59, l_60, l_61, l_62, l_63, l_65, l_66, l_72, l_82, l_92, l_93, l_94, l_97, l_99, l_100, l_101, l_102, l_103, l_104, l_105, l_107, l_108, l_109, l_110, l_111, l_112, l_114, l_115, l_116, l_117, l_119, l_121, l_122, l_136, l_200, l_255, l_300, l_364, l_900, l_1000, l_1456, l_1458, l_1459, l_1460, l_1462, l_1471, l_1504, l_1510, l_1522, l_1550, l_2971, l_9999, l_10000, l_10979, l_65536, l_m1, bi_bb, if_true]
theorem N_isClaimAt (w : tb_W t) (h : tb_N M t) (x : Int32) : fX12_isClaimAt M x = some (bi (inb x (t 1))) := by
  unfold fX12_isClaimAt
  have e : ia M 5 1 = nI (t 1) := h 1 (by omega)
  rw [e, q_isInN x (n := t 1) (by have := w.2.1; omega) (q_pred (by have := w.2.1; omega))]
  simp only [Option.bind_some, l_0, l_1, l_2, l_3, l_4, l_5, l_6, l_7, l_8, l_9, l_10, l_11, l_12, l_13, l_14, l_15, l_16, l_17, l_18, l_19, l_20, l_21, l_22, l_23, l_24, l_25, l_30, l_31, l_32, l_40, l_48, l_54, l_57, l_59, l_60, l_61, l_62, l_63, l_65, l_66, l_72, l_82, l_92, l_93, l_94, l_97, l_99, l_100, l_101, l_102, l_103, l_104, l_105, l_107, l_108, l_109, l_110, l_111, l_112, l_114, l_115, l_116, l_117, l_119, l_121, l_122, l_136, l_200, l_255, l_300, l_364, l_900, l_1000, l_1456, l_1458, l_1459, l_1460, l_1462, l_1471, l_1504, l_1510, l_1522, l_1550, l_2971, l_9999, l_10000, l_10979, l_65536, l_m1, bi_bb, if_true]
theorem N_isTalkerAt (w : tb_W t) (h : tb_N M t) (x : Int32) : fX12_isTalkerAt M x = some (bi (inb x (t 2))) := by
  unfold fX12_isTalkerAt
  have e : ia M 5 2 = nI (t 2) := h 2 (by omega)
  rw [e, q_isInN x (n := t 2) (by have := w.2.2.1; omega) (q_pred (by have := w.2.2.1; omega))]
  simp only [Option.bind_some, l_0, l_1, l_2, l_3, l_4, l_5, l_6, l_7, l_8, l_9, l_10, l_11, l_12, l_13, l_14, l_15, l_16, l_17, l_18, l_19, l_20, l_21, l_22, l_23, l_24, l_25, l_30, l_31, l_32, l_40, l_48, l_54, l_57, l_59, l_60, l_61, l_62, l_63, l_65, l_66, l_72, l_82, l_92, l_93, l_94, l_97, l_99, l_100, l_101, l_102, l_103, l_104, l_105, l_107, l_108, l_109, l_110, l_111, l_112, l_114, l_115, l_116, l_117, l_119, l_121, l_122, l_136, l_200, l_255, l_300, l_364, l_900, l_1000, l_1456, l_1458, l_1459, l_1460, l_1462, l_1471, l_1504, l_1510, l_1522, l_1550, l_2971, l_9999, l_10000, l_10979, l_65536, l_m1, bi_bb, if_true]
theorem N_isHeight (w : tb_W t) (h : tb_N M t) (x : Int32) : fX12_isHeight M x = some (bi (inb x (t 0 + 1))) := by
  unfold fX12_isHeight
  have e : ia M 5 0 = nI (t 0) := h 0 (by omega)
  rw [e, q_isInN x (n := t 0 + 1) (by have := w.1; omega) (by rw [nI_toInt (by have := w.1; omega)]; omega)]
  simp only [Option.bind_some, l_0, l_1, l_2, l_3, l_4, l_5, l_6, l_7, l_8, l_9, l_10, l_11, l_12, l_13, l_14, l_15, l_16, l_17, l_18, l_19, l_20, l_21, l_22, l_23, l_24, l_25, l_30, l_31, l_32, l_40, l_48, l_54, l_57, l_59, l_60, l_61, l_62, l_63, l_65, l_66, l_72, l_82, l_92, l_93, l_94, l_97, l_99, l_100, l_101, l_102, l_103, l_104, l_105, l_107, l_108, l_109, l_110, l_111, l_112, l_114, l_115, l_116, l_117, l_119, l_121, l_122, l_136, l_200, l_255, l_300, l_364, l_900, l_1000, l_1456, l_1458, l_1459, l_1460, l_1462, l_1471, l_1504, l_1510, l_1522, l_1550, l_2971, l_9999, l_10000, l_10979, l_65536, l_m1, bi_bb, if_true]
/-! sets -/
theorem T_claimsAt (w : tb_W t) (h : tb_C T t) {a : Nat} (ha : a < 100) : fX7_claimsAt T (nI a) = some (nI (bs (fun _ k => decide (t (24 + k) = a)) (t 1))) := by
  obtain ⟨w0, w1, w2, w3, w4, w5, w6, w7, w8, w9⟩ := w
  obtain ⟨h0, h1, h2, h3, h4, h5, h6, h7, h8, h9, h10, h11, h12, h13, h14, h15, h16⟩ := h
  unfold fX7_claimsAt
  refine lp_set (fun n acc k => fX7_claimsAt_4 T n (nI a) acc k) (t 1) _ ?_ ?_ FU (FU_big (by omega))
  · intro n acc
    simp (disch := omega) only [fX7_claimsAt_4, h2, q_leT, if_true]
  · intro n k hk
    have b1 := w6 k hk
    have b2 := h10 k hk
    by_cases hc : t (24 + k) = a
    · simp (disch := omega) only [fX7_claimsAt_4, h2, l_0, l_1, l_2, l_3, l_4, l_5, l_6, l_7, l_8, l_9, l_10, l_11, l_12, l_13, l_14, l_15, l_16, l_17, l_18, l_19, l_20, l_21, l_22, l_23, l_24, l_25, l_30, l_31, l_32, l_40, l_48, l_54, l_57, l_59, l_60, l_61, l_62, l_63, l_65, l_66, l_72, l_82, l_92, l_93, l_94, l_97, l_99, l_100, l_101, l_102, l_103, l_104, l_105, l_107, l_108, l_109, l_110, l_111, l_112, l_114, l_115, l_116, l_117, l_119, l_121, l_122, l_136, l_200, l_255, l_300, l_364, l_900, l_1000, l_1456, l_1458, l_1459, l_1460, l_1462, l_1471, l_1504, l_1510, l_1522, l_1550, l_2971, l_9999, l_10000, l_10979, l_65536, l_m1, nI_add, pk_mul, q_sub, q_ltT, q_ltF, q_leT, q_leF, q_eqT, q_eqF, q_inT, q_inF, nI_clamp, q_mlt, q_mle, q_mne, q_mne2, q_mnlt, q_mnle, q_gi, q_gil, q_gir, q_giR, q_gl, q_gli, q_glr, q_glR, q_ra, q_rai, q_ral, q_raR, q_rl, q_rli, q_rll, q_rlr, sa, sA, ia, la, q_srsr, q_sRsR, Option.bind_some, if_true, if_false, reduceIte, ite_not, not_true_eq_false, not_false_eq_true, q_z1, Nat.reduceEqDiff, b2, q_one, q_or, hc, decide_true]
    · simp (disch := omega) only [fX7_claimsAt_4, h2, l_0, l_1, l_2, l_3, l_4, l_5, l_6, l_7, l_8, l_9, l_10, l_11, l_12, l_13, l_14, l_15, l_16, l_17, l_18, l_19, l_20, l_21, l_22, l_23, l_24, l_25, l_30, l_31, l_32, l_40, l_48, l_54, l_57, l_59, l_60, l_61, l_62, l_63, l_65, l_66, l_72, l_82, l_92, l_93, l_94, l_97, l_99, l_100, l_101, l_102, l_103, l_104, l_105, l_107, l_108, l_109, l_110, l_111, l_112, l_114, l_115, l_116, l_117, l_119, l_121, l_122, l_136, l_200, l_255, l_300, l_364, l_900, l_1000, l_1456, l_1458, l_1459, l_1460, l_1462, l_1471, l_1504, l_1510, l_1522, l_1550, l_2971, l_9999, l_10000, l_10979, l_65536, l_m1, nI_add, pk_mul, q_sub, q_ltT, q_ltF, q_leT, q_leF, q_eqT, q_eqF, q_inT, q_inF, nI_clamp, q_mlt, q_mle, q_mne, q_mne2, q_mnlt, q_mnle, q_gi, q_gil, q_gir, q_giR, q_gl, q_gli, q_glr, q_glR, q_ra, q_rai, q_ral, q_raR, q_rl, q_rli, q_rll, q_rlr, sa, sA, ia, la, q_srsr, q_sRsR, Option.bind_some, if_true, if_false, reduceIte, ite_not, not_true_eq_false, not_false_eq_true, q_z1, Nat.reduceEqDiff, b2, q_one, q_or, hc, decide_false, Bool.false_eq_true]
theorem N_claimsAt (w : tb_W t) (h : tb_N M t) {a : Nat} (ha : a < 100) : fX12_claimsAt M (nI a) = some (nI (bs (fun _ k => decide (t (24 + k) = a)) (t 1))) := by
  obtain ⟨w0, w1, w2, w3, w4, w5, w6, w7, w8, w9⟩ := w
  unfold tb_N at h
  unfold fX12_claimsAt
  refine lp_set (fun n acc k => fX12_claimsAt_4 M n (nI a) acc k) (t 1) _ ?_ ?_ FU (FU_big (by omega))
  · intro n acc
    simp (disch := omega) only [fX12_claimsAt_4, l_0, l_1, l_2, l_3, l_4, l_5, l_6, l_7, l_8, l_9, l_10, l_11, l_12, l_13, l_14, l_15, l_16, l_17, l_18, l_19, l_20, l_21, l_22, l_23, l_24, l_25, l_30, l_31, l_32, l_40, l_48, l_54, l_57, l_59, l_60, l_61, l_62, l_63, l_65, l_66, l_72, l_82, l_92, l_93, l_94, l_97, l_99, l_100, l_101, l_102, l_103, l_104, l_105, l_107, l_108, l_109, l_110, l_111, l_112, l_114, l_115, l_116, l_117, l_119, l_121, l_122, l_136, l_200, l_255, l_300, l_364, l_900, l_1000, l_1456, l_1458, l_1459, l_1460, l_1462, l_1471, l_1504, l_1510, l_1522, l_1550, l_2971, l_9999, l_10000, l_10979, l_65536, l_m1, nI_add, pk_mul, q_sub, q_ltT, q_ltF, q_leT, q_leF, q_eqT, q_eqF, q_inT, q_inF, nI_clamp, q_mlt, q_mle, q_mne, q_mne2, q_mnlt, q_mnle, q_gi, q_gil, q_gir, q_giR, q_gl, q_gli, q_glr, q_glR, q_ra, q_rai, q_ral, q_raR, q_rl, q_rli, q_rll, q_rlr, sa, sA, ia, la, q_srsr, q_sRsR, Option.bind_some, if_true, if_false, reduceIte, ite_not, not_true_eq_false, not_false_eq_true, q_z1, Nat.reduceEqDiff, h]
  · intro n k hk
    have b1 := w6 k hk
    by_cases hc : t (24 + k) = a
    · simp (disch := omega) only [fX12_claimsAt_4, l_0, l_1, l_2, l_3, l_4, l_5, l_6, l_7, l_8, l_9, l_10, l_11, l_12, l_13, l_14, l_15, l_16, l_17, l_18, l_19, l_20, l_21, l_22, l_23, l_24, l_25, l_30, l_31, l_32, l_40, l_48, l_54, l_57, l_59, l_60, l_61, l_62, l_63, l_65, l_66, l_72, l_82, l_92, l_93, l_94, l_97, l_99, l_100, l_101, l_102, l_103, l_104, l_105, l_107, l_108, l_109, l_110, l_111, l_112, l_114, l_115, l_116, l_117, l_119, l_121, l_122, l_136, l_200, l_255, l_300, l_364, l_900, l_1000, l_1456, l_1458, l_1459, l_1460, l_1462, l_1471, l_1504, l_1510, l_1522, l_1550, l_2971, l_9999, l_10000, l_10979, l_65536, l_m1, nI_add, pk_mul, q_sub, q_ltT, q_ltF, q_leT, q_leF, q_eqT, q_eqF, q_inT, q_inF, nI_clamp, q_mlt, q_mle, q_mne, q_mne2, q_mnlt, q_mnle, q_gi, q_gil, q_gir, q_giR, q_gl, q_gli, q_glr, q_glR, q_ra, q_rai, q_ral, q_raR, q_rl, q_rli, q_rll, q_rlr, sa, sA, ia, la, q_srsr, q_sRsR, Option.bind_some, if_true, if_false, reduceIte, ite_not, not_true_eq_false, not_false_eq_true, q_z1, Nat.reduceEqDiff, h, q_one, q_or, q_or0, hc, decide_true]
    · simp (disch := omega) only [fX12_claimsAt_4, l_0, l_1, l_2, l_3, l_4, l_5, l_6, l_7, l_8, l_9, l_10, l_11, l_12, l_13, l_14, l_15, l_16, l_17, l_18, l_19, l_20, l_21, l_22, l_23, l_24, l_25, l_30, l_31, l_32, l_40, l_48, l_54, l_57, l_59, l_60, l_61, l_62, l_63, l_65, l_66, l_72, l_82, l_92, l_93, l_94, l_97, l_99, l_100, l_101, l_102, l_103, l_104, l_105, l_107, l_108, l_109, l_110, l_111, l_112, l_114, l_115, l_116, l_117, l_119, l_121, l_122, l_136, l_200, l_255, l_300, l_364, l_900, l_1000, l_1456, l_1458, l_1459, l_1460, l_1462, l_1471, l_1504, l_1510, l_1522, l_1550, l_2971, l_9999, l_10000, l_10979, l_65536, l_m1, nI_add, pk_mul, q_sub, q_ltT, q_ltF, q_leT, q_leF, q_eqT, q_eqF, q_inT, q_inF, nI_clamp, q_mlt, q_mle, q_mne, q_mne2, q_mnlt, q_mnle, q_gi, q_gil, q_gir, q_giR, q_gl, q_gli, q_glr, q_glR, q_ra, q_rai, q_ral, q_raR, q_rl, q_rli, q_rll, q_rlr, sa, sA, ia, la, q_srsr, q_sRsR, Option.bind_some, if_true, if_false, reduceIte, ite_not, not_true_eq_false, not_false_eq_true, q_z1, Nat.reduceEqDiff, h, q_one, q_or, q_or0, hc, decide_false, Bool.false_eq_true]
end Q21
