/-! names that were told, new names -/
section Q78
variable {R B M T : ms_T} {g : Nat → Nat} {n a e k wn : Nat}
def nfr (s : Nat) : Nat := if s = 0 then 0 else if s = 1 then 9 else 17
theorem M_namesFrom {s : Nat} (hs : s < 3) : fX12_namesFrom (nI s) = some (nI (nfr s)) := by
  rcases (by omega : s = 0 ∨ s = 1 ∨ s = 2) with rfl | rfl | rfl <;> rfl
theorem nm_find {b s cnt : Nat} {w : Int64} (hb : b ≤ 4) (hs : s < 3) (hc : nfr s + cnt ≤ 23) (hcnt : ra M 5 (364 * b + s) = nI cnt) (hw : gl M 19 = w) (hr : ∀ i, i < cnt → rl T 10 (nfr s + i) = rl M 7 (23 * b + (nfr s + i))) :
    ∃ r, fX7_findName T (nI (nfr s)) (nI cnt) w = some r ∧ fX12_named M (nI b) (nI s) = some r ∧ ((r = nM ∧ ∀ i, i < cnt → rl T 10 (nfr s + i) ≠ w) ∨ ∃ x, x < cnt ∧ r = nI x ∧ rl T 10 (nfr s + x) = w) := by
  have hf := M_namesFrom hs
  have nf17 : nfr s ≤ 17 := by unfold nfr; split <;> (try split) <;> omega
  have key : ∀ d i f1 f2, i + d = cnt → d < f1 → d < f2 → (∀ x, x < i → rl T 10 (nfr s + x) ≠ w) → ∃ r, fX7_findName_3 T f1 (nI (nfr s)) (nI cnt) w (nI i) = some r ∧ fX12_named_2 M f2 (nI b) (nI s) (nI i) = some r ∧ ((r = nM ∧ ∀ i, i < cnt → rl T 10 (nfr s + i) ≠ w) ∨ ∃ x, x < cnt ∧ r = nI x ∧ rl T 10 (nfr s + x) = w) := by
    intro d
    induction d with
    | zero =>
      intro i f1 f2 hi h1 h2 hno
      obtain ⟨f1, rfl⟩ : ∃ x, f1 = x + 1 := ⟨f1 - 1, by omega⟩
      obtain ⟨f2, rfl⟩ : ∃ x, f2 = x + 1 := ⟨f2 - 1, by omega⟩
      obtain rfl : i = cnt := by omega
      refine ⟨nM, ?_, ?_, Or.inl ⟨rfl, hno⟩⟩
      · simp (disch := omega) only [fX7_findName_3, l_0, l_1, l_2, l_3, l_4, l_5, l_6, l_7, l_8, l_9, l_10, l_11, l_12, l_13, l_14, l_15, l_16, l_17, l_18, l_19, l_20, l_21, l_22, l_23, l_24, l_25, l_30, l_31, l_32, l_40, l_48, l_54, l_57, l_59, l_60, l_61, l_62, l_63, l_65, l_66, l_72, l_82, l_92, l_93, l_94, l_97, l_99, l_100, l_101, l_102, l_103, l_104, l_105, l_107, l_108, l_109, l_110, l_111, l_112, l_114, l_115, l_116, l_117, l_119, l_121, l_122, l_136, l_200, l_255, l_300, l_364, l_900, l_1000, l_1456, l_1458, l_1459, l_1460, l_1462, l_1471, l_1504, l_1510, l_1522, l_1550, l_2971, l_9999, l_10000, l_10979, l_65536, l_m1, nI_add, pk_mul, q_sub, q_ltT, q_ltF, q_leT, q_leF, q_eqT, q_eqF, q_inT, q_inF, nI_clamp, q_mlt, q_mle, q_mne, q_mne2, q_mnlt, q_mnle, Option.bind_some, if_true, if_false, reduceIte, ite_not, not_true_eq_false, not_false_eq_true, q_z1, Nat.reduceEqDiff]
      · simp (disch := omega) only [fX12_named_2, hcnt, l_0, l_1, l_2, l_3, l_4, l_5, l_6, l_7, l_8, l_9, l_10, l_11, l_12, l_13, l_14, l_15, l_16, l_17, l_18, l_19, l_20, l_21, l_22, l_23, l_24, l_25, l_30, l_31, l_32, l_40, l_48, l_54, l_57, l_59, l_60, l_61, l_62, l_63, l_65, l_66, l_72, l_82, l_92, l_93, l_94, l_97, l_99, l_100, l_101, l_102, l_103, l_104, l_105, l_107, l_108, l_109, l_110, l_111, l_112, l_114, l_115, l_116, l_117, l_119, l_121, l_122, l_136, l_200, l_255, l_300, l_364, l_900, l_1000, l_1456, l_1458, l_1459, l_1460, l_1462, l_1471, l_1504, l_1510, l_1522, l_1550, l_2971, l_9999, l_10000, l_10979, l_65536, l_m1, nI_add, pk_mul, q_sub, q_ltT, q_ltF, q_leT, q_leF, q_eqT, q_eqF, q_inT, q_inF, nI_clamp, q_mlt, q_mle, q_mne, q_mne2, q_mnlt, q_mnle, q_gi, q_gil, q_gir, q_giR, q_gl, q_gli, q_glr, q_glR, q_ra, q_rai, q_ral, q_raR, q_rl, q_rli, q_rll, q_rlr, sa, sA, ia, la, q_srsr, q_sRsR, Option.bind_some, if_true, if_false, reduceIte, ite_not, not_true_eq_false, not_false_eq_true, q_z1, Nat.reduceEqDiff]
    | succ d ih =>
      intro i f1 f2 hi h1 h2 hno
      obtain ⟨f1, rfl⟩ : ∃ x, f1 = x + 1 := ⟨f1 - 1, by omega⟩
      obtain ⟨f2, rfl⟩ : ∃ x, f2 = x + 1 := ⟨f2 - 1, by omega⟩
      have er := hr i (by omega)
      have eq2 : rl M 7 (23 * b + nfr s + i) = rl T 10 (nfr s + i) := by rw [er, Nat.add_assoc]
      by_cases c : rl T 10 (nfr s + i) = w
      · have c' : (lg_cmp (rl T 10 (nfr s + i)) w = nI 0) = True := eq_true ((lg0 _ _).mpr c)
        refine ⟨nI i, ?_, ?_, Or.inr ⟨i, by omega, rfl, c⟩⟩
        · simp (disch := omega) only [fX7_findName_3, c', l_0, l_1, l_2, l_3, l_4, l_5, l_6, l_7, l_8, l_9, l_10, l_11, l_12, l_13, l_14, l_15, l_16, l_17, l_18, l_19, l_20, l_21, l_22, l_23, l_24, l_25, l_30, l_31, l_32, l_40, l_48, l_54, l_57, l_59, l_60, l_61, l_62, l_63, l_65, l_66, l_72, l_82, l_92, l_93, l_94, l_97, l_99, l_100, l_101, l_102, l_103, l_104, l_105, l_107, l_108, l_109, l_110, l_111, l_112, l_114, l_115, l_116, l_117, l_119, l_121, l_122, l_136, l_200, l_255, l_300, l_364, l_900, l_1000, l_1456, l_1458, l_1459, l_1460, l_1462, l_1471, l_1504, l_1510, l_1522, l_1550, l_2971, l_9999, l_10000, l_10979, l_65536, l_m1, nI_add, pk_mul, q_sub, q_ltT, q_ltF, q_leT, q_leF, q_eqT, q_eqF, q_inT, q_inF, nI_clamp, q_mlt, q_mle, q_mne, q_mne2, q_mnlt, q_mnle, q_gi, q_gil, q_gir, q_giR, q_gl, q_gli, q_glr, q_glR, q_ra, q_rai, q_ral, q_raR, q_rl, q_rli, q_rll, q_rlr, sa, sA, ia, la, q_srsr, q_sRsR, Option.bind_some, if_true, if_false, reduceIte, ite_not, not_true_eq_false, not_false_eq_true, q_z1, Nat.reduceEqDiff]
        · simp (disch := omega) only [fX12_named_2, hcnt, hf, hw, eq2, c', l_0, l_1, l_2, l_3, l_4, l_5, l_6, l_7, l_8, l_9, l_10, l_11, l_12, l_13, l_14, l_15, l_16, l_17, l_18, l_19, l_20, l_21, l_22, l_23, l_24, l_25, l_30, l_31, l_32, l_40, l_48, l_54, l_57, l_59, l_60, l_61, l_62, l_63, l_65, l_66, l_72, l_82, l_92, l_93, l_94, l_97, l_99, l_100, l_101, l_102, l_103, l_104, l_105, l_107, l_108, l_109, l_110, l_111, l_112, l_114, l_115, l_116, l_117, l_119, l_121, l_122, l_136, l_200, l_255, l_300, l_364, l_900, l_1000, l_1456, l_1458, l_1459, l_1460, l_1462, l_1471, l_1504, l_1510, l_1522, l_1550, l_2971, l_9999, l_10000, l_10979, l_65536, l_m1, nI_add, pk_mul, q_sub, q_ltT, q_ltF, q_leT, q_leF, q_eqT, q_eqF, q_inT, q_inF, nI_clamp, q_mlt, q_mle, q_mne, q_mne2, q_mnlt, q_mnle, q_gi, q_gil, q_gir, q_giR, q_gl, q_gli, q_glr, q_glR, q_ra, q_rai, q_ral, q_raR, q_rl, q_rli, q_rll, q_rlr, sa, sA, ia, la, q_srsr, q_sRsR, Option.bind_some, if_true, if_false, reduceIte, ite_not, not_true_eq_false, not_false_eq_true, q_z1, Nat.reduceEqDiff]
      · have c' : (lg_cmp (rl T 10 (nfr s + i)) w = nI 0) = False := eq_false (fun q => c ((lg0 _ _).mp q))
        obtain ⟨r, r1, r2, r3⟩ := ih (i + 1) f1 f2 (by omega) (by omega) (by omega) (fun x hx => by
          by_cases d : x = i
          · rw [d]; exact c
          · exact hno x (by omega))
        refine ⟨r, ?_, ?_, r3⟩
        · rw [← r1]
          simp (disch := omega) only [fX7_findName_3, c', l_0, l_1, l_2, l_3, l_4, l_5, l_6, l_7, l_8, l_9, l_10, l_11, l_12, l_13, l_14, l_15, l_16, l_17, l_18, l_19, l_20, l_21, l_22, l_23, l_24, l_25, l_30, l_31, l_32, l_40, l_48, l_54, l_57, l_59, l_60, l_61, l_62, l_63, l_65, l_66, l_72, l_82, l_92, l_93, l_94, l_97, l_99, l_100, l_101, l_102, l_103, l_104, l_105, l_107, l_108, l_109, l_110, l_111, l_112, l_114, l_115, l_116, l_117, l_119, l_121, l_122, l_136, l_200, l_255, l_300, l_364, l_900, l_1000, l_1456, l_1458, l_1459, l_1460, l_1462, l_1471, l_1504, l_1510, l_1522, l_1550, l_2971, l_9999, l_10000, l_10979, l_65536, l_m1, nI_add, pk_mul, q_sub, q_ltT, q_ltF, q_leT, q_leF, q_eqT, q_eqF, q_inT, q_inF, nI_clamp, q_mlt, q_mle, q_mne, q_mne2, q_mnlt, q_mnle, q_gi, q_gil, q_gir, q_giR, q_gl, q_gli, q_glr, q_glR, q_ra, q_rai, q_ral, q_raR, q_rl, q_rli, q_rll, q_rlr, sa, sA, ia, la, q_srsr, q_sRsR, Option.bind_some, if_true, if_false, reduceIte, ite_not, not_true_eq_false, not_false_eq_true, q_z1, Nat.reduceEqDiff]
        · rw [← r2]
          simp (disch := omega) only [fX12_named_2, hcnt, hf, hw, eq2, c', l_0, l_1, l_2, l_3, l_4, l_5, l_6, l_7, l_8, l_9, l_10, l_11, l_12, l_13, l_14, l_15, l_16, l_17, l_18, l_19, l_20, l_21, l_22, l_23, l_24, l_25, l_30, l_31, l_32, l_40, l_48, l_54, l_57, l_59, l_60, l_61, l_62, l_63, l_65, l_66, l_72, l_82, l_92, l_93, l_94, l_97, l_99, l_100, l_101, l_102, l_103, l_104, l_105, l_107, l_108, l_109, l_110, l_111, l_112, l_114, l_115, l_116, l_117, l_119, l_121, l_122, l_136, l_200, l_255, l_300, l_364, l_900, l_1000, l_1456, l_1458, l_1459, l_1460, l_1462, l_1471, l_1504, l_1510, l_1522, l_1550, l_2971, l_9999, l_10000, l_10979, l_65536, l_m1, nI_add, pk_mul, q_sub, q_ltT, q_ltF, q_leT, q_leF, q_eqT, q_eqF, q_inT, q_inF, nI_clamp, q_mlt, q_mle, q_mne, q_mne2, q_mnlt, q_mnle, q_gi, q_gil, q_gir, q_giR, q_gl, q_gli, q_glr, q_glR, q_ra, q_rai, q_ral, q_raR, q_rl, q_rli, q_rll, q_rlr, sa, sA, ia, la, q_srsr, q_sRsR, Option.bind_some, if_true, if_false, reduceIte, ite_not, not_true_eq_false, not_false_eq_true, q_z1, Nat.reduceEqDiff]
  exact key cnt 0 FU FU (by omega) (by unfold FU; omega) (by unfold FU; omega) (fun x hx => by omega)
/-- the names of a table and of a block -/
def nms (T M : ms_T) (b : Nat) (t : Nat → Nat) : Prop := (∀ i, i < t 0 → rl T 10 i = rl M 7 (23 * b + i)) ∧ (∀ i, i < t 1 → rl T 10 (9 + i) = rl M 7 (23 * b + (9 + i))) ∧ ∀ i, i < t 2 → rl T 10 (17 + i) = rl M 7 (23 * b + (17 + i))
theorem jmax_m : jmax (nI 0) nM = nI 0 := by decide
/-- one told ahead -/
theorem rd_told (h : rd B R M g n a e k wn) {b s cnt : Nat} (hb : b ≤ 4) (hs : s < 3) (hc : nfr s + cnt ≤ 23) (hcnt : ra M 5 (364 * b + s) = nI cnt) (hr : ∀ i, i < cnt → rl T 10 (nfr s + i) = rl M 7 (23 * b + (nfr s + i))) :
    (∃ x, x < cnt ∧ k = 1 ∧ a < e ∧ fX4_numberNamedT R T (nI (nfr s)) (nI cnt) = some (nI x, R) ∧ fX12_told M (nI b) (nI s) = some (nI x, M)) ∨
    (∃ R' M', fX4_numberNamedT R T (nI (nfr s)) (nI cnt) = some (nM, R') ∧ fX12_told M (nI b) (nI s) = some (nI 0, M') ∧ bd R' M' ∧ rg R R' ∧ mg M M') := by
  obtain ⟨bb, n1, n2, n3, n4⟩ := rd_name h
  have e4 := h.2.2.2.2.2.2.2.1
  have le : (nI 0 ≤ nI 0) = True := q_leT (by omega) (by omega)
  have nmm : (nM = nM) = True := eq_self _
  cases bb
  · right
    obtain ⟨R', M', q1, q2, q3, q4, q5⟩ := rd_amiss h
    refine ⟨R', M', ?_, ?_, q3, q4, q5⟩
    · simp only [fX4_numberNamedT, n1, q1, bi, b2_0, l_0, l_1, l_2, l_3, l_4, l_5, l_6, l_7, l_8, l_9, l_10, l_11, l_12, l_13, l_14, l_15, l_16, l_17, l_18, l_19, l_20, l_21, l_22, l_23, l_24, l_25, l_30, l_31, l_32, l_40, l_48, l_54, l_57, l_59, l_60, l_61, l_62, l_63, l_65, l_66, l_72, l_82, l_92, l_93, l_94, l_97, l_99, l_100, l_101, l_102, l_103, l_104, l_105, l_107, l_108, l_109, l_110, l_111, l_112, l_114, l_115, l_116, l_117, l_119, l_121, l_122, l_136, l_200, l_255, l_300, l_364, l_900, l_1000, l_1456, l_1458, l_1459, l_1460, l_1462, l_1471, l_1504, l_1510, l_1522, l_1550, l_2971, l_9999, l_10000, l_10979, l_65536, l_m1, Option.bind_some, if_true]
    · obtain ⟨f, pl, f1, f2, f3, f4, f5, f6⟩ := q3
      have nle : (nI f ≤ nI 0) = False := q_leF (by omega) (by omega)
      simp only [fX12_told, fX12_told_18, e4, n2, q2, f5, nle, bi, b2_0, l_0, l_1, l_2, l_3, l_4, l_5, l_6, l_7, l_8, l_9, l_10, l_11, l_12, l_13, l_14, l_15, l_16, l_17, l_18, l_19, l_20, l_21, l_22, l_23, l_24, l_25, l_30, l_31, l_32, l_40, l_48, l_54, l_57, l_59, l_60, l_61, l_62, l_63, l_65, l_66, l_72, l_82, l_92, l_93, l_94, l_97, l_99, l_100, l_101, l_102, l_103, l_104, l_105, l_107, l_108, l_109, l_110, l_111, l_112, l_114, l_115, l_116, l_117, l_119, l_121, l_122, l_136, l_200, l_255, l_300, l_364, l_900, l_1000, l_1456, l_1458, l_1459, l_1460, l_1462, l_1471, l_1504, l_1510, l_1522, l_1550, l_2971, l_9999, l_10000, l_10979, l_65536, l_m1, Option.bind_some, if_true, if_false]
  · obtain ⟨k1, k2, k3, k4, k5⟩ := n3 rfl
    obtain ⟨r, r1, r2, r3⟩ := nm_find (T := T) (M := M) (w := gl R 8) hb hs hc hcnt k4.symm hr
    rcases r3 with ⟨rfl, r3⟩ | ⟨x, hx, rfl, r3⟩
    · right
      obtain ⟨R', M', q1, q2, q3, q4, q5⟩ := rd_fail h (f := 3) (by omega) (by omega) (by omega)
      have lm : (nI 0 ≤ nM) = False := eq_false (by decide)
      refine ⟨R', M', ?_, ?_, q3, q4, q5⟩
      · simp only [fX4_numberNamedT, n1, r1, q1, bi, b2_1, n_10, nmm, l_0, l_1, l_2, l_3, l_4, l_5, l_6, l_7, l_8, l_9, l_10, l_11, l_12, l_13, l_14, l_15, l_16, l_17, l_18, l_19, l_20, l_21, l_22, l_23, l_24, l_25, l_30, l_31, l_32, l_40, l_48, l_54, l_57, l_59, l_60, l_61, l_62, l_63, l_65, l_66, l_72, l_82, l_92, l_93, l_94, l_97, l_99, l_100, l_101, l_102, l_103, l_104, l_105, l_107, l_108, l_109, l_110, l_111, l_112, l_114, l_115, l_116, l_117, l_119, l_121, l_122, l_136, l_200, l_255, l_300, l_364, l_900, l_1000, l_1456, l_1458, l_1459, l_1460, l_1462, l_1471, l_1504, l_1510, l_1522, l_1550, l_2971, l_9999, l_10000, l_10979, l_65536, l_m1, Option.bind_some, if_true, if_false]
      · simp only [fX12_told, fX12_told_18, fX12_told_47, e4, n2, r2, q2, le, lm, bi, b2_1, n_10, jmax_m, l_0, l_1, l_2, l_3, l_4, l_5, l_6, l_7, l_8, l_9, l_10, l_11, l_12, l_13, l_14, l_15, l_16, l_17, l_18, l_19, l_20, l_21, l_22, l_23, l_24, l_25, l_30, l_31, l_32, l_40, l_48, l_54, l_57, l_59, l_60, l_61, l_62, l_63, l_65, l_66, l_72, l_82, l_92, l_93, l_94, l_97, l_99, l_100, l_101, l_102, l_103, l_104, l_105, l_107, l_108, l_109, l_110, l_111, l_112, l_114, l_115, l_116, l_117, l_119, l_121, l_122, l_136, l_200, l_255, l_300, l_364, l_900, l_1000, l_1456, l_1458, l_1459, l_1460, l_1462, l_1471, l_1504, l_1510, l_1522, l_1550, l_2971, l_9999, l_10000, l_10979, l_65536, l_m1, Option.bind_some, if_true, if_false]
    · left
      have xm : (nI x = nM) = False := q_mne2 (by omega)
      have xl : (nI 0 ≤ nI x) = True := q_leT (by omega) (by omega)
      have xj : jmax (nI 0) (nI x) = nI x := q_maxn (by omega)
      refine ⟨x, hx, k1, k3, ?_, ?_⟩
      · simp only [fX4_numberNamedT, n1, r1, xm, bi, b2_1, n_10, l_0, l_1, l_2, l_3, l_4, l_5, l_6, l_7, l_8, l_9, l_10, l_11, l_12, l_13, l_14, l_15, l_16, l_17, l_18, l_19, l_20, l_21, l_22, l_23, l_24, l_25, l_30, l_31, l_32, l_40, l_48, l_54, l_57, l_59, l_60, l_61, l_62, l_63, l_65, l_66, l_72, l_82, l_92, l_93, l_94, l_97, l_99, l_100, l_101, l_102, l_103, l_104, l_105, l_107, l_108, l_109, l_110, l_111, l_112, l_114, l_115, l_116, l_117, l_119, l_121, l_122, l_136, l_200, l_255, l_300, l_364, l_900, l_1000, l_1456, l_1458, l_1459, l_1460, l_1462, l_1471, l_1504, l_1510, l_1522, l_1550, l_2971, l_9999, l_10000, l_10979, l_65536, l_m1, Option.bind_some, if_true, if_false]
      · simp only [fX12_told, fX12_told_18, fX12_told_47, e4, n2, r2, le, xl, xj, bi, b2_1, n_10, l_0, l_1, l_2, l_3, l_4, l_5, l_6, l_7, l_8, l_9, l_10, l_11, l_12, l_13, l_14, l_15, l_16, l_17, l_18, l_19, l_20, l_21, l_22, l_23, l_24, l_25, l_30, l_31, l_32, l_40, l_48, l_54, l_57, l_59, l_60, l_61, l_62, l_63, l_65, l_66, l_72, l_82, l_92, l_93, l_94, l_97, l_99, l_100, l_101, l_102, l_103, l_104, l_105, l_107, l_108, l_109, l_110, l_111, l_112, l_114, l_115, l_116, l_117, l_119, l_121, l_122, l_136, l_200, l_255, l_300, l_364, l_900, l_1000, l_1456, l_1458, l_1459, l_1460, l_1462, l_1471, l_1504, l_1510, l_1522, l_1550, l_2971, l_9999, l_10000, l_10979, l_65536, l_m1, Option.bind_some, if_true, if_false]
/-- .. and read -/
theorem rd_readTold (h : rd B R M g n a e k wn) {b s cnt : Nat} (hb : b ≤ 4) (hs : s < 3) (hc : nfr s + cnt ≤ 23) (hcnt : ra M 5 (364 * b + s) = nI cnt) (hr : ∀ i, i < cnt → rl T 10 (nfr s + i) = rl M 7 (23 * b + (nfr s + i))) :
    (∃ x R' M' a' e' k' wn', x < cnt ∧ fX4_numberNamedT R T (nI (nfr s)) (nI cnt) = some (nI x, R) ∧ fX4_advanceT R B = some R' ∧ fX12_readTold M (nI b) (nI s) = some (nI x, M') ∧ rd B R' M' g n a' e' k' wn' ∧ e ≤ a' ∧ a < e ∧ rg R R' ∧ mg M M') ∨
    (∃ R' M', fX4_numberNamedT R T (nI (nfr s)) (nI cnt) = some (nM, R') ∧ fX12_readTold M (nI b) (nI s) = some (nI 0, M') ∧ bd R' M' ∧ rg R R' ∧ mg M M') := by
  have e4 := h.2.2.2.2.2.2.2.1
  rcases rd_told h hb hs hc hcnt hr with ⟨x, hx, k1, k2, q1, q2⟩ | ⟨R', M', q1, q2, q3, q4, q5⟩
  · left
    obtain ⟨R', M', a', e', k', wn', p1, p2, p3, p4, p5, p6⟩ := rd_adv h
    refine ⟨x, R', M', a', e', k', wn', hx, q1, p1, ?_, p3, p4, k2, p5, p6⟩
    unfold fX12_readTold
    rw [q2, Option.bind_some, l_1, k_must1 e4, p2, Option.bind_some]
  · right
    refine ⟨R', M', q1, ?_, q3, q4, q5⟩
    unfold fX12_readTold
    rw [q2, Option.bind_some, b_must (bd_bm q3), Option.bind_some]
/-- the table that is read into, and the reference's -/
def tt (T R M : ms_T) (t : Nat → Nat) : Prop := tb_W t ∧ tb_C T t ∧ (∀ i, i < 92 → ra M 5 (364 * 4 + i) = nI (t i)) ∧ nms T M 4 t ∧ ((∀ i, t 0 ≤ i → i < 9 → rl T 10 i = 0) ∧ (∀ i, t 1 ≤ i → i < 8 → rl T 10 (9 + i) = 0) ∧ ∀ i, t 2 ≤ i → i < 6 → rl T 10 (17 + i) = 0) ∧ (∀ i, t 2 ≤ i → i < 6 → t (60 + i) = 0) ∧ ∃ o, o ≤ 1 ∧ gi R 12 = nI o ∧ gi M 24 = nI o
/-- all that isn't of the table that is read stays -/
def mh (M M' : ms_T) : Prop := (∀ j, (j < 12 ∨ 18 < j) ∧ j ≠ 24 → gi M' j = gi M j) ∧ (∀ j, j ≠ 19 → gl M' j = gl M j) ∧ (∀ k, k ≠ 5 → ra M' k = ra M k) ∧ (∀ i, i < 1456 ∨ i = 1548 → ra M' 5 i = ra M 5 i) ∧ (∀ k, k ≠ 7 → rl M' k = rl M k) ∧ ∀ i, i < 92 → rl M' 7 i = rl M 7 i
theorem mh_id (M : ms_T) : mh M M := ⟨fun _ _ => rfl, fun _ _ => rfl, fun _ _ => rfl, fun _ _ => rfl, fun _ _ => rfl, fun _ _ => rfl⟩
theorem mh_tr {A B C : ms_T} (h : mh A B) (k : mh B C) : mh A C := ⟨fun j hj => (k.1 j hj).trans (h.1 j hj), fun j hj => (k.2.1 j hj).trans (h.2.1 j hj), fun j hj => (k.2.2.1 j hj).trans (h.2.2.1 j hj), fun j hj => (k.2.2.2.1 j hj).trans (h.2.2.2.1 j hj), fun j hj => (k.2.2.2.2.1 j hj).trans (h.2.2.2.2.1 j hj), fun j hj => (k.2.2.2.2.2 j hj).trans (h.2.2.2.2.2 j hj)⟩
theorem mg_mh {M M' : ms_T} (h : mg M M') : mh M M' := ⟨fun j hj => h.1 j (by omega), h.2.1, fun k _ => mg_ra h k, fun i _ => by rw [mg_ra h], fun k _ => mg_rl h k, fun i _ => by rw [mg_rl h]⟩
theorem mh_5 {M : ms_T} {f : Nat → Int32} (h : ∀ i, i < 1456 ∨ i = 1548 → f i = ra M 5 i) : mh M (sr M 5 f) := ⟨fun _ _ => rfl, fun _ _ => rfl, fun k hk => by rw [q_ra, if_neg hk], fun i hi => by rw [q_ra, if_pos rfl]; exact h i hi, fun _ _ => rfl, fun _ _ => rfl⟩
theorem mh_7 {M : ms_T} {p : Nat} {x : Int64} (h : 92 ≤ p) : mh M (sR M 7 (vp_updL (rl M 7) p x)) := ⟨fun _ _ => rfl, fun _ _ => rfl, fun _ _ => rfl, fun _ _ => rfl, fun k hk => by rw [q_rl, if_neg hk], fun i hi => by rw [q_rl, if_pos rfl]; exact pk_uLn (by omega)⟩
theorem mh_24 {M : ms_T} {x : Int32} : mh M (si M 24 x) := ⟨fun j hj => by rw [q_gi, if_neg (by omega)], fun _ _ => rfl, fun _ _ => rfl, fun _ _ => rfl, fun _ _ => rfl, fun _ _ => rfl⟩
theorem rd_sR {x : Nat → Int64} (h : rd B R M g n a e k wn) : rd B R (sR M 7 x) g n a e k wn := h
/-- whether the name at hand is new -/
theorem rd_isNew {t : Nat → Nat} {R0 : ms_T} (h : rd B R M g n a e k wn) (ht : tt T R0 M t) :
    (k = 1 ∧ a < e ∧ gl R 8 ≠ 0 ∧ gl R 8 = gl M 19 ∧ fX8_isNewNameHere R T = some (nI 1, R) ∧ fX12_isName M = some (nI 1) ∧ ∃ r0 r1 r2, fX12_named M (nI 4) (nI 0) = some r0 ∧ fX12_named M (nI 4) (nI 1) = some r1 ∧ fX12_named M (nI 4) (nI 2) = some r2 ∧ r0 = nM ∧ r1 = nM ∧ r2 = nM) ∨
    (∃ R' M', fX8_isNewNameHere R T = some (nI 0, R') ∧ bd R' M' ∧ rg R R' ∧ mg M M' ∧ ((fX12_isName M = some (nI 0) ∧ fX12_amiss M = some M') ∨ (fX12_isName M = some (nI 1) ∧ fX12_fail M (nI 3) (gi M 15) = some M' ∧ ∃ r0 r1 r2, fX12_named M (nI 4) (nI 0) = some r0 ∧ fX12_named M (nI 4) (nI 1) = some r1 ∧ fX12_named M (nI 4) (nI 2) = some r2 ∧ (nI 0 ≤ r0 ∨ nI 0 ≤ r1 ∨ nI 0 ≤ r2)))) := by
  obtain ⟨w, hC, hN, ⟨m1, m2, m3⟩, ⟨z1, z2, z3⟩, -, -⟩ := ht
  obtain ⟨w0, w1, w2, -⟩ := id w
  obtain ⟨bb, n1, n2, n3, n4⟩ := rd_name h
  cases bb
  · right
    obtain ⟨R', M', q1, q2, q3, q4, q5⟩ := rd_amiss h
    refine ⟨R', M', ?_, q3, q4, q5, Or.inl ⟨n2, q2⟩⟩
    simp only [fX8_isNewNameHere, n1, q1, bi, b2_0, q_z0, l_0, l_1, l_2, l_3, l_4, l_5, l_6, l_7, l_8, l_9, l_10, l_11, l_12, l_13, l_14, l_15, l_16, l_17, l_18, l_19, l_20, l_21, l_22, l_23, l_24, l_25, l_30, l_31, l_32, l_40, l_48, l_54, l_57, l_59, l_60, l_61, l_62, l_63, l_65, l_66, l_72, l_82, l_92, l_93, l_94, l_97, l_99, l_100, l_101, l_102, l_103, l_104, l_105, l_107, l_108, l_109, l_110, l_111, l_112, l_114, l_115, l_116, l_117, l_119, l_121, l_122, l_136, l_200, l_255, l_300, l_364, l_900, l_1000, l_1456, l_1458, l_1459, l_1460, l_1462, l_1471, l_1504, l_1510, l_1522, l_1550, l_2971, l_9999, l_10000, l_10979, l_65536, l_m1, Option.bind_some, if_true]
  · obtain ⟨k1, k2, k3, k4, k5⟩ := n3 rfl
    obtain ⟨r0, a0, b0, c0⟩ := nm_find (T := T) (M := M) (b := 4) (s := 0) (cnt := t 0) (w := gl R 8) (by omega) (by omega) (by show 0 + t 0 ≤ 23; omega) (hN 0 (by omega)) k4.symm (fun i hi => by show rl T 10 (0 + i) = rl M 7 (23 * 4 + (0 + i)); rw [Nat.zero_add]; exact m1 i hi)
    obtain ⟨r1, a1, b1, c1⟩ := nm_find (T := T) (M := M) (b := 4) (s := 1) (cnt := t 1) (w := gl R 8) (by omega) (by omega) (by show 9 + t 1 ≤ 23; omega) (hN 1 (by omega)) k4.symm (fun i hi => m2 i hi)
    obtain ⟨r2, a2, b3, c2⟩ := nm_find (T := T) (M := M) (b := 4) (s := 2) (cnt := t 2) (w := gl R 8) (by omega) (by omega) (by show 17 + t 2 ≤ 23; omega) (hN 2 (by omega)) k4.symm (fun i hi => m3 i hi)
    have f0 : nfr 0 = 0 := rfl
    have f1 : nfr 1 = 9 := rfl
    have f2 : nfr 2 = 17 := rfl
    rw [f0] at c0; rw [f1] at c1; rw [f2] at c2
    -- the class's search through all
    have all : ∃ r, fX7_findName T (nI 0) (nI 23) (gl R 8) = some r ∧ ((r = nM ∧ ∀ i, i < 23 → rl T 10 i ≠ gl R 8) ∨ ∃ x, x < 23 ∧ r = nI x ∧ rl T 10 x = gl R 8) := by
      have key : ∀ d i f, i + d = 23 → d < f → (∀ x, x < i → rl T 10 x ≠ gl R 8) → ∃ r, fX7_findName_3 T f (nI 0) (nI 23) (gl R 8) (nI i) = some r ∧ ((r = nM ∧ ∀ i, i < 23 → rl T 10 i ≠ gl R 8) ∨ ∃ x, x < 23 ∧ r = nI x ∧ rl T 10 x = gl R 8) := by
        intro d
        induction d with
        | zero =>
          intro i f hi hf hno
          obtain ⟨f, rfl⟩ : ∃ x, f = x + 1 := ⟨f - 1, by omega⟩
          obtain rfl : i = 23 := by omega
          exact ⟨nM, by simp (disch := omega) only [fX7_findName_3, l_0, l_1, l_2, l_3, l_4, l_5, l_6, l_7, l_8, l_9, l_10, l_11, l_12, l_13, l_14, l_15, l_16, l_17, l_18, l_19, l_20, l_21, l_22, l_23, l_24, l_25, l_30, l_31, l_32, l_40, l_48, l_54, l_57, l_59, l_60, l_61, l_62, l_63, l_65, l_66, l_72, l_82, l_92, l_93, l_94, l_97, l_99, l_100, l_101, l_102, l_103, l_104, l_105, l_107, l_108, l_109, l_110, l_111, l_112, l_114, l_115, l_116, l_117, l_119, l_121, l_122, l_136, l_200, l_255, l_300, l_364, l_900, l_1000, l_1456, l_1458, l_1459, l_1460, l_1462, l_1471, l_1504, l_1510, l_1522, l_1550, l_2971, l_9999, l_10000, l_10979, l_65536, l_m1, nI_add, pk_mul, q_sub, q_ltT, q_ltF, q_leT, q_leF, q_eqT, q_eqF, q_inT, q_inF, nI_clamp, q_mlt, q_mle, q_mne, q_mne2, q_mnlt, q_mnle, Option.bind_some, if_true, if_false, reduceIte, ite_not, not_true_eq_false, not_false_eq_true, q_z1, Nat.reduceEqDiff], Or.inl ⟨rfl, hno⟩⟩
        | succ d ih =>
          intro i f hi hf hno
          obtain ⟨f, rfl⟩ : ∃ x, f = x + 1 := ⟨f - 1, by omega⟩
          by_cases c : rl T 10 i = gl R 8
          · have c' : (lg_cmp (rl T 10 i) (gl R 8) = nI 0) = True := eq_true ((lg0 _ _).mpr c)
            exact ⟨nI i, by simp (disch := omega) only [fX7_findName_3, Nat.zero_add, c', l_0, l_1, l_2, l_3, l_4, l_5, l_6, l_7, l_8, l_9, l_10, l_11, l_12, l_13, l_14, l_15, l_16, l_17, l_18, l_19, l_20, l_21, l_22, l_23, l_24, l_25, l_30, l_31, l_32, l_40, l_48, l_54, l_57, l_59, l_60, l_61, l_62, l_63, l_65, l_66, l_72, l_82, l_92, l_93, l_94, l_97, l_99, l_100, l_101, l_102, l_103, l_104, l_105, l_107, l_108, l_109, l_110, l_111, l_112, l_114, l_115, l_116, l_117, l_119, l_121, l_122, l_136, l_200, l_255, l_300, l_364, l_900, l_1000, l_1456, l_1458, l_1459, l_1460, l_1462, l_1471, l_1504, l_1510, l_1522, l_1550, l_2971, l_9999, l_10000, l_10979, l_65536, l_m1, nI_add, pk_mul, q_sub, q_ltT, q_ltF, q_leT, q_leF, q_eqT, q_eqF, q_inT, q_inF, nI_clamp, q_mlt, q_mle, q_mne, q_mne2, q_mnlt, q_mnle, q_gi, q_gil, q_gir, q_giR, q_gl, q_gli, q_glr, q_glR, q_ra, q_rai, q_ral, q_raR, q_rl, q_rli, q_rll, q_rlr, sa, sA, ia, la, q_srsr, q_sRsR, Option.bind_some, if_true, if_false, reduceIte, ite_not, not_true_eq_false, not_false_eq_true, q_z1, Nat.reduceEqDiff], Or.inr ⟨i, by omega, rfl, c⟩⟩
          · have c' : (lg_cmp (rl T 10 i) (gl R 8) = nI 0) = False := eq_false (fun q => c ((lg0 _ _).mp q))
            obtain ⟨r, r1, r2⟩ := ih (i + 1) f (by omega) (by omega) (fun x hx => by
              by_cases d : x = i
              · rw [d]; exact c
              · exact hno x (by omega))
            refine ⟨r, ?_, r2⟩
            rw [← r1]
            simp (disch := omega) only [fX7_findName_3, Nat.zero_add, c', l_0, l_1, l_2, l_3, l_4, l_5, l_6, l_7, l_8, l_9, l_10, l_11, l_12, l_13, l_14, l_15, l_16, l_17, l_18, l_19, l_20, l_21, l_22, l_23, l_24, l_25, l_30, l_31, l_32, l_40, l_48, l_54, l_57, l_59, l_60, l_61, l_62, l_63, l_65, l_66, l_72, l_82, l_92, l_93, l_94, l_97, l_99, l_100, l_101, l_102, l_103, l_104, l_105, l_107, l_108, l_109, l_110, l_111, l_112, l_114, l_115, l_116, l_117, l_119, l_121, l_122, l_136, l_200, l_255, l_300, l_364, l_900, l_1000, l_1456, l_1458, l_1459, l_1460, l_1462, l_1471, l_1504, l_1510, l_1522, l_1550, l_2971, l_9999, l_10000, l_10979, l_65536, l_m1, nI_add, pk_mul, q_sub, q_ltT, q_ltF, q_leT, q_leF, q_eqT, q_eqF, q_inT, q_inF, nI_clamp, q_mlt, q_mle, q_mne, q_mne2, q_mnlt, q_mnle, q_gi, q_gil, q_gir, q_giR, q_gl, q_gli, q_glr, q_glR, q_ra, q_rai, q_ral, q_raR, q_rl, q_rli, q_rll, q_rlr, sa, sA, ia, la, q_srsr, q_sRsR, Option.bind_some, if_true, if_false, reduceIte, ite_not, not_true_eq_false, not_false_eq_true, q_z1, Nat.reduceEqDiff]
      exact key 23 0 FU (by omega) (by unfold FU; omega) (fun x hx => by omega)
    obtain ⟨r, e1, e2⟩ := all
    rcases e2 with ⟨rfl, e2⟩ | ⟨x, hx, rfl, e2⟩
    · left
      refine ⟨k1, k3, k5, k4, ?_, n2, r0, r1, r2, b0, b1, b3, ?_, ?_, ?_⟩
      · have nmm : (nM = nM) = True := eq_self _
        simp only [fX8_isNewNameHere, fX8_isNewNameHere_42, n1, e1, nmm, bi, b2_1, n_10, l_0, l_1, l_2, l_3, l_4, l_5, l_6, l_7, l_8, l_9, l_10, l_11, l_12, l_13, l_14, l_15, l_16, l_17, l_18, l_19, l_20, l_21, l_22, l_23, l_24, l_25, l_30, l_31, l_32, l_40, l_48, l_54, l_57, l_59, l_60, l_61, l_62, l_63, l_65, l_66, l_72, l_82, l_92, l_93, l_94, l_97, l_99, l_100, l_101, l_102, l_103, l_104, l_105, l_107, l_108, l_109, l_110, l_111, l_112, l_114, l_115, l_116, l_117, l_119, l_121, l_122, l_136, l_200, l_255, l_300, l_364, l_900, l_1000, l_1456, l_1458, l_1459, l_1460, l_1462, l_1471, l_1504, l_1510, l_1522, l_1550, l_2971, l_9999, l_10000, l_10979, l_65536, l_m1, Option.bind_some, if_true, if_false]
      · rcases c0 with c | ⟨y, hy, _, c⟩
        · exact c.1
        · rw [Nat.zero_add] at c; exact absurd c (e2 y (by omega))
      · rcases c1 with c | ⟨y, hy, _, c⟩
        · exact c.1
        · exact absurd c (e2 (9 + y) (by omega))
      · rcases c2 with c | ⟨y, hy, _, c⟩
        · exact c.1
        · exact absurd c (e2 (17 + y) (by omega))
    · right
      obtain ⟨R', M', q1, q2, q3, q4, q5⟩ := rd_fail h (f := 3) (by omega) (by omega) (by omega)
      refine ⟨R', M', ?_, q3, q4, q5, Or.inr ⟨n2, q2, r0, r1, r2, b0, b1, b3, ?_⟩⟩
      · have xm : (nI x = nM) = False := q_mne2 (by omega)
        simp only [fX8_isNewNameHere, fX8_isNewNameHere_42, n1, e1, xm, q1, bi, b2_1, n_10, l_0, l_1, l_2, l_3, l_4, l_5, l_6, l_7, l_8, l_9, l_10, l_11, l_12, l_13, l_14, l_15, l_16, l_17, l_18, l_19, l_20, l_21, l_22, l_23, l_24, l_25, l_30, l_31, l_32, l_40, l_48, l_54, l_57, l_59, l_60, l_61, l_62, l_63, l_65, l_66, l_72, l_82, l_92, l_93, l_94, l_97, l_99, l_100, l_101, l_102, l_103, l_104, l_105, l_107, l_108, l_109, l_110, l_111, l_112, l_114, l_115, l_116, l_117, l_119, l_121, l_122, l_136, l_200, l_255, l_300, l_364, l_900, l_1000, l_1456, l_1458, l_1459, l_1460, l_1462, l_1471, l_1504, l_1510, l_1522, l_1550, l_2971, l_9999, l_10000, l_10979, l_65536, l_m1, Option.bind_some, if_true, if_false]
      · have pos : ∀ r : Int32, ∀ y : Nat, y < 100 → r = nI y → nI 0 ≤ r := fun r y hy e => by rw [e]; exact nI_le (by omega) (by omega)
        by_cases x0 : x < 9
        · by_cases x1 : x < t 0
          · left
            rcases c0 with ⟨_, c⟩ | ⟨y, hy, ey, c⟩
            · have := c x x1; rw [Nat.zero_add] at this; exact absurd e2 this
            · exact pos r0 y (by omega) ey
          · exact absurd ((z1 x (by omega) x0).symm.trans e2).symm k5
        · by_cases x2 : x < 17
          · obtain ⟨y, rfl⟩ : ∃ y, x = 9 + y := ⟨x - 9, by omega⟩
            by_cases x1 : y < t 1
            · right; left
              rcases c1 with ⟨_, c⟩ | ⟨y', hy, ey, c⟩
              · exact absurd e2 (c y x1)
              · exact pos r1 y' (by omega) ey
            · exact absurd ((z2 y (by omega) (by omega)).symm.trans e2).symm k5
          · obtain ⟨y, rfl⟩ : ∃ y, x = 17 + y := ⟨x - 17, by omega⟩
            by_cases x1 : y < t 2
            · right; right
              rcases c2 with ⟨_, c⟩ | ⟨y', hy, ey, c⟩
              · exact absurd e2 (c y x1)
              · exact pos r2 y' (by omega) ey
            · exact absurd ((z3 y (by omega) (by omega)).symm.trans e2).symm k5
end Q78
