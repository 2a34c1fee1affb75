/-! seats: the reference -/
section Q68
variable {T M U S : ms_T} {t : Nat → Nat}
def ss (M S : ms_T) : Prop := (∀ k, k ≠ 37 → gi S k = gi M k) ∧ (∀ k, gl S k = gl M k) ∧ (∀ k, k ≠ 10 → k ≠ 11 → ra S k = ra M k) ∧ ∀ k, rl S k = rl M k
theorem ss_N (h : tb_N M t) (s : ss M S) : tb_N S t := fun i hi => by rw [s.2.2.1 5 (by omega) (by omega)]; exact h i hi
theorem ss_10 {f : Nat → Int32} (s : ss M S) : ss M (sr S 10 f) := ⟨s.1, s.2.1, fun k hk hk2 => by rw [q_ra, if_neg hk]; exact s.2.2.1 k hk hk2, s.2.2.2⟩
theorem ss_11 {f : Nat → Int32} (s : ss M S) : ss M (sr S 11 f) := ⟨s.1, s.2.1, fun k hk hk2 => by rw [q_ra, if_neg hk2]; exact s.2.2.1 k hk hk2, s.2.2.2⟩
theorem ss_37 {x : Int32} (s : ss M S) : ss M (si S 37 x) := ⟨fun k h1 => by rw [q_gi, if_neg h1]; exact s.1 k h1, s.2.1, s.2.2.1, s.2.2.2⟩
theorem M_isBeside (w : tb_W t) (h : tb_N M t) {a b : Nat} (ha : a < t 2) (hb : b < t 2) : fX12_isBeside M (nI a) (nI b) = some (bi (bsb (t 2) a b)) := by
  have w2 := w.2.2.1
  have hu : ra M 5 2 = nI (t 2) := h 2 (by omega)
  have e1 : nI (a + 1) - nI (a + 1) / nI (t 2) * nI (t 2) = nI ((a + 1) % t 2) := pk_rem (by omega) (by omega) (by omega)
  have e2 : nI (b + 1) - nI (b + 1) / nI (t 2) * nI (t 2) = nI ((b + 1) % t 2) := pk_rem (by omega) (by omega) (by omega)
  have l1 : (a + 1) % t 2 < t 2 := Nat.mod_lt _ (by omega)
  have l2 : (b + 1) % t 2 < t 2 := Nat.mod_lt _ (by omega)
  unfold bsb
  by_cases c1 : (a + 1) % t 2 = b
  · rw [decide_eq_true c1]
    simp (disch := omega) only [fX12_isBeside, hu, e1, c1, bi, Bool.true_or, b2_1, l_0, l_1, l_2, l_3, l_4, l_5, l_6, l_7, l_8, l_9, l_10, l_11, l_12, l_13, l_14, l_15, l_16, l_17, l_18, l_19, l_20, l_21, l_22, l_23, l_24, l_25, l_30, l_31, l_32, l_40, l_48, l_54, l_57, l_59, l_60, l_61, l_62, l_63, l_65, l_66, l_72, l_82, l_92, l_93, l_94, l_97, l_99, l_100, l_101, l_102, l_103, l_104, l_105, l_107, l_108, l_109, l_110, l_111, l_112, l_114, l_115, l_116, l_117, l_119, l_121, l_122, l_136, l_200, l_255, l_300, l_364, l_900, l_1000, l_1456, l_1458, l_1459, l_1460, l_1462, l_1471, l_1504, l_1510, l_1522, l_1550, l_2971, l_9999, l_10000, l_10979, l_65536, l_m1, nI_add, pk_mul, q_sub, q_ltT, q_ltF, q_leT, q_leF, q_eqT, q_eqF, q_inT, q_inF, nI_clamp, q_mlt, q_mle, q_mne, q_mne2, q_mnlt, q_mnle, q_gi, q_gil, q_gir, q_giR, q_gl, q_gli, q_glr, q_glR, q_ra, q_rai, q_ral, q_raR, q_rl, q_rli, q_rll, q_rlr, sa, sA, ia, la, q_srsr, q_sRsR, Option.bind_some, if_true, if_false, reduceIte, ite_not, not_true_eq_false, not_false_eq_true, q_z1, Nat.reduceEqDiff]
  · rw [decide_eq_false c1]
    by_cases c2 : (b + 1) % t 2 = a
    · rw [decide_eq_true c2]
      simp (disch := omega) only [fX12_isBeside, hu, e1, e2, c2, bi, Bool.or_true, b2_1, l_0, l_1, l_2, l_3, l_4, l_5, l_6, l_7, l_8, l_9, l_10, l_11, l_12, l_13, l_14, l_15, l_16, l_17, l_18, l_19, l_20, l_21, l_22, l_23, l_24, l_25, l_30, l_31, l_32, l_40, l_48, l_54, l_57, l_59, l_60, l_61, l_62, l_63, l_65, l_66, l_72, l_82, l_92, l_93, l_94, l_97, l_99, l_100, l_101, l_102, l_103, l_104, l_105, l_107, l_108, l_109, l_110, l_111, l_112, l_114, l_115, l_116, l_117, l_119, l_121, l_122, l_136, l_200, l_255, l_300, l_364, l_900, l_1000, l_1456, l_1458, l_1459, l_1460, l_1462, l_1471, l_1504, l_1510, l_1522, l_1550, l_2971, l_9999, l_10000, l_10979, l_65536, l_m1, nI_add, pk_mul, q_sub, q_ltT, q_ltF, q_leT, q_leF, q_eqT, q_eqF, q_inT, q_inF, nI_clamp, q_mlt, q_mle, q_mne, q_mne2, q_mnlt, q_mnle, q_gi, q_gil, q_gir, q_giR, q_gl, q_gli, q_glr, q_glR, q_ra, q_rai, q_ral, q_raR, q_rl, q_rli, q_rll, q_rlr, sa, sA, ia, la, q_srsr, q_sRsR, Option.bind_some, if_true, if_false, reduceIte, ite_not, not_true_eq_false, not_false_eq_true, q_z1, Nat.reduceEqDiff]
    · rw [decide_eq_false c2]
      simp (disch := omega) only [fX12_isBeside, hu, e1, e2, bi, Bool.or_false, b2_0, l_0, l_1, l_2, l_3, l_4, l_5, l_6, l_7, l_8, l_9, l_10, l_11, l_12, l_13, l_14, l_15, l_16, l_17, l_18, l_19, l_20, l_21, l_22, l_23, l_24, l_25, l_30, l_31, l_32, l_40, l_48, l_54, l_57, l_59, l_60, l_61, l_62, l_63, l_65, l_66, l_72, l_82, l_92, l_93, l_94, l_97, l_99, l_100, l_101, l_102, l_103, l_104, l_105, l_107, l_108, l_109, l_110, l_111, l_112, l_114, l_115, l_116, l_117, l_119, l_121, l_122, l_136, l_200, l_255, l_300, l_364, l_900, l_1000, l_1456, l_1458, l_1459, l_1460, l_1462, l_1471, l_1504, l_1510, l_1522, l_1550, l_2971, l_9999, l_10000, l_10979, l_65536, l_m1, nI_add, pk_mul, q_sub, q_ltT, q_ltF, q_leT, q_leF, q_eqT, q_eqF, q_inT, q_inF, nI_clamp, q_mlt, q_mle, q_mne, q_mne2, q_mnlt, q_mnle, q_gi, q_gil, q_gir, q_giR, q_gl, q_gli, q_glr, q_glR, q_ra, q_rai, q_ral, q_raR, q_rl, q_rli, q_rll, q_rlr, sa, sA, ia, la, q_srsr, q_sRsR, Option.bind_some, if_true, if_false, reduceIte, ite_not, not_true_eq_false, not_false_eq_true, q_z1, Nat.reduceEqDiff]
theorem M_besideNow (w : tb_W t) (h : tb_N M t) {r : Nat → Nat} (hr : ∀ j, j < t 2 → ra M 10 j = nI (r j)) (hl : ∀ j, j < t 2 → r j < t 2) : fX12_besideNow M = some (nI (bsd t r)) := by
  obtain ⟨w0, w1, w2, w3, w4, w5, w6, w7, w8, w9⟩ := id w
  have hu : ∀ i, i < 92 → ra M 5 i = nI (t i) := h
  unfold fX12_besideNow
  obtain ⟨x, e, rfl⟩ := lp_up (fun x k s => fX12_besideNow_4 M x s k) (t 3) (fun k s => s = nI (sm (fun k => b2 (bsb (t 2) (ps r (t (72 + k)) (t 2)) (ps r (t (82 + k)) (t 2)))) k)) (fun x => x = nI (bsd t r))
    (fun x s hs => ⟨s, by simp (disch := omega) only [fX12_besideNow_4, hu, l_0, l_1, l_2, l_3, l_4, l_5, l_6, l_7, l_8, l_9, l_10, l_11, l_12, l_13, l_14, l_15, l_16, l_17, l_18, l_19, l_20, l_21, l_22, l_23, l_24, l_25, l_30, l_31, l_32, l_40, l_48, l_54, l_57, l_59, l_60, l_61, l_62, l_63, l_65, l_66, l_72, l_82, l_92, l_93, l_94, l_97, l_99, l_100, l_101, l_102, l_103, l_104, l_105, l_107, l_108, l_109, l_110, l_111, l_112, l_114, l_115, l_116, l_117, l_119, l_121, l_122, l_136, l_200, l_255, l_300, l_364, l_900, l_1000, l_1456, l_1458, l_1459, l_1460, l_1462, l_1471, l_1504, l_1510, l_1522, l_1550, l_2971, l_9999, l_10000, l_10979, l_65536, l_m1, nI_add, pk_mul, q_sub, q_ltT, q_ltF, q_leT, q_leF, q_eqT, q_eqF, q_inT, q_inF, nI_clamp, q_mlt, q_mle, q_mne, q_mne2, q_mnlt, q_mnle, q_gi, q_gil, q_gir, q_giR, q_gl, q_gli, q_glr, q_glR, q_ra, q_rai, q_ral, q_raR, q_rl, q_rli, q_rll, q_rlr, sa, sA, ia, la, q_srsr, q_sRsR, Option.bind_some, if_true, if_false, reduceIte, ite_not, not_true_eq_false, not_false_eq_true, q_z1, Nat.reduceEqDiff], hs⟩)
    (fun x k s hk hs => by
      left
      subst hs
      refine ⟨_, rfl, ?_⟩
      have b8 := w8 k hk
      have u1 : ra M 5 (72 + k) = nI (t (72 + k)) := hu _ (by omega)
      have u2 : ra M 5 (82 + k) = nI (t (82 + k)) := hu _ (by omega)
      have u3 : ra M 5 2 = nI (t 2) := hu _ (by omega)
      have u4 : ra M 5 3 = nI (t 3) := hu _ (by omega)
      generalize hV : sm (fun k => b2 (bsb (t 2) (ps r (t (72 + k)) (t 2)) (ps r (t (82 + k)) (t 2)))) k = V
      obtain ⟨v, v1, v2⟩ := lp_eq (fun y j s => fX12_besideNow_22 M (fX12_besideNow_4 M x) y (nI V) (nI k) s.1 s.2 j) (fun s => (fX12_isBeside M s.1 s.2).bind fun z1 => if z1 = 0 then fX12_besideNow_4 M x (nI V + 0) (nI k + 1) else fX12_besideNow_4 M x (nI V + 1) (nI k + 1)) (t 2)
        (fun j s => s = ((nI (ps r (t (72 + k)) j), nI (ps r (t (82 + k)) j)) : Int32 × Int32))
        (fun y s hs => by
          have : (nI (t 2) ≤ nI (t 2)) = True := q_leT (by omega) (by omega)
          simp only [fX12_besideNow_22, ia, l_2, nI_clamp (show 2 < 2147483648 by omega), u3, this, if_true])
        (fun y j s hj hs => by
          subst hs
          have er := hr j hj
          have lr := hl j hj
          refine ⟨_, rfl, ?_⟩
          rw [ps_s, ps_s]
          have n1 : (nI (t 2) ≤ nI j) = False := q_leF (by omega) (by omega)
          by_cases c1 : r j = t (72 + k)
          · by_cases c2 : r j = t (82 + k)
            · exact absurd (c1.symm.trans c2) b8.2.2
            · have c2' : (nI (r j) = nI (t (82 + k))) = False := q_eqF c2 (by omega) (by omega)
              have c1' : (nI (r j) = nI (t (72 + k))) = True := q_eqT c1
              rw [if_pos c1, if_neg c2]
              simp (disch := omega) only [fX12_besideNow_22, fX12_besideNow_58, u1, u2, u3, er, n1, c1', c2', l_0, l_1, l_2, l_3, l_4, l_5, l_6, l_7, l_8, l_9, l_10, l_11, l_12, l_13, l_14, l_15, l_16, l_17, l_18, l_19, l_20, l_21, l_22, l_23, l_24, l_25, l_30, l_31, l_32, l_40, l_48, l_54, l_57, l_59, l_60, l_61, l_62, l_63, l_65, l_66, l_72, l_82, l_92, l_93, l_94, l_97, l_99, l_100, l_101, l_102, l_103, l_104, l_105, l_107, l_108, l_109, l_110, l_111, l_112, l_114, l_115, l_116, l_117, l_119, l_121, l_122, l_136, l_200, l_255, l_300, l_364, l_900, l_1000, l_1456, l_1458, l_1459, l_1460, l_1462, l_1471, l_1504, l_1510, l_1522, l_1550, l_2971, l_9999, l_10000, l_10979, l_65536, l_m1, nI_add, pk_mul, q_sub, q_ltT, q_ltF, q_leT, q_leF, q_eqT, q_eqF, q_inT, q_inF, nI_clamp, q_mlt, q_mle, q_mne, q_mne2, q_mnlt, q_mnle, q_gi, q_gil, q_gir, q_giR, q_gl, q_gli, q_glr, q_glR, q_ra, q_rai, q_ral, q_raR, q_rl, q_rli, q_rll, q_rlr, sa, sA, ia, la, q_srsr, q_sRsR, Option.bind_some, if_true, if_false, reduceIte, ite_not, not_true_eq_false, not_false_eq_true, q_z1, Nat.reduceEqDiff]
          · have c1' : (nI (r j) = nI (t (72 + k))) = False := q_eqF c1 (by omega) (by omega)
            by_cases c2 : r j = t (82 + k)
            · have c2' : (nI (r j) = nI (t (82 + k))) = True := q_eqT c2
              rw [if_neg c1, if_pos c2]
              simp (disch := omega) only [fX12_besideNow_22, fX12_besideNow_58, u1, u2, u3, er, n1, c1', c2', l_0, l_1, l_2, l_3, l_4, l_5, l_6, l_7, l_8, l_9, l_10, l_11, l_12, l_13, l_14, l_15, l_16, l_17, l_18, l_19, l_20, l_21, l_22, l_23, l_24, l_25, l_30, l_31, l_32, l_40, l_48, l_54, l_57, l_59, l_60, l_61, l_62, l_63, l_65, l_66, l_72, l_82, l_92, l_93, l_94, l_97, l_99, l_100, l_101, l_102, l_103, l_104, l_105, l_107, l_108, l_109, l_110, l_111, l_112, l_114, l_115, l_116, l_117, l_119, l_121, l_122, l_136, l_200, l_255, l_300, l_364, l_900, l_1000, l_1456, l_1458, l_1459, l_1460, l_1462, l_1471, l_1504, l_1510, l_1522, l_1550, l_2971, l_9999, l_10000, l_10979, l_65536, l_m1, nI_add, pk_mul, q_sub, q_ltT, q_ltF, q_leT, q_leF, q_eqT, q_eqF, q_inT, q_inF, nI_clamp, q_mlt, q_mle, q_mne, q_mne2, q_mnlt, q_mnle, q_gi, q_gil, q_gir, q_giR, q_gl, q_gli, q_glr, q_glR, q_ra, q_rai, q_ral, q_raR, q_rl, q_rli, q_rll, q_rlr, sa, sA, ia, la, q_srsr, q_sRsR, Option.bind_some, if_true, if_false, reduceIte, ite_not, not_true_eq_false, not_false_eq_true, q_z1, Nat.reduceEqDiff]
            · have c2' : (nI (r j) = nI (t (82 + k))) = False := q_eqF c2 (by omega) (by omega)
              rw [if_neg c1, if_neg c2]
              simp (disch := omega) only [fX12_besideNow_22, fX12_besideNow_58, u1, u2, u3, er, n1, c1', c2', l_0, l_1, l_2, l_3, l_4, l_5, l_6, l_7, l_8, l_9, l_10, l_11, l_12, l_13, l_14, l_15, l_16, l_17, l_18, l_19, l_20, l_21, l_22, l_23, l_24, l_25, l_30, l_31, l_32, l_40, l_48, l_54, l_57, l_59, l_60, l_61, l_62, l_63, l_65, l_66, l_72, l_82, l_92, l_93, l_94, l_97, l_99, l_100, l_101, l_102, l_103, l_104, l_105, l_107, l_108, l_109, l_110, l_111, l_112, l_114, l_115, l_116, l_117, l_119, l_121, l_122, l_136, l_200, l_255, l_300, l_364, l_900, l_1000, l_1456, l_1458, l_1459, l_1460, l_1462, l_1471, l_1504, l_1510, l_1522, l_1550, l_2971, l_9999, l_10000, l_10979, l_65536, l_m1, nI_add, pk_mul, q_sub, q_ltT, q_ltF, q_leT, q_leF, q_eqT, q_eqF, q_inT, q_inF, nI_clamp, q_mlt, q_mle, q_mne, q_mne2, q_mnlt, q_mnle, q_gi, q_gil, q_gir, q_giR, q_gl, q_gli, q_glr, q_glR, q_ra, q_rai, q_ral, q_raR, q_rl, q_rli, q_rll, q_rlr, sa, sA, ia, la, q_srsr, q_sRsR, Option.bind_some, if_true, if_false, reduceIte, ite_not, not_true_eq_false, not_false_eq_true, q_z1, Nat.reduceEqDiff])
        (nI 0, nI 0) FU rfl (by unfold FU; omega)
      subst v1
      have step : fX12_besideNow_4 M (x + 1) (nI V) (nI k) = fX12_besideNow_22 M (fX12_besideNow_4 M x) FU (nI V) (nI k) (nI 0) (nI 0) (nI 0) := by
        have n1 : (nI (t 3) ≤ nI k) = False := q_leF (by omega) (by omega)
        simp (disch := omega) only [fX12_besideNow_4, u4, n1, l_0, l_1, l_2, l_3, l_4, l_5, l_6, l_7, l_8, l_9, l_10, l_11, l_12, l_13, l_14, l_15, l_16, l_17, l_18, l_19, l_20, l_21, l_22, l_23, l_24, l_25, l_30, l_31, l_32, l_40, l_48, l_54, l_57, l_59, l_60, l_61, l_62, l_63, l_65, l_66, l_72, l_82, l_92, l_93, l_94, l_97, l_99, l_100, l_101, l_102, l_103, l_104, l_105, l_107, l_108, l_109, l_110, l_111, l_112, l_114, l_115, l_116, l_117, l_119, l_121, l_122, l_136, l_200, l_255, l_300, l_364, l_900, l_1000, l_1456, l_1458, l_1459, l_1460, l_1462, l_1471, l_1504, l_1510, l_1522, l_1550, l_2971, l_9999, l_10000, l_10979, l_65536, l_m1, q_gi, q_gil, q_gir, q_giR, q_gl, q_gli, q_glr, q_glR, q_ra, q_rai, q_ral, q_raR, q_rl, q_rli, q_rll, q_rlr, sa, sA, ia, la, q_srsr, q_sRsR, Option.bind_some, if_true, if_false, reduceIte, ite_not, not_true_eq_false, not_false_eq_true, q_z1, Nat.reduceEqDiff, nI_clamp]
      have pl : ∀ x, x < t 2 → ps r x (t 2) < t 2 := by
        intro x hx
        have key : ∀ n, 0 < n → ps r x n < n := by
          intro n
          induction n with
          | zero => intro h0; omega
          | succ n ih =>
            intro _
            rw [ps_s]
            split
            · omega
            · by_cases c : n = 0
              · subst c; show 0 < 1; omega
              · have := ih (by omega); omega
        exact key (t 2) (by omega)
      have eb := M_isBeside w h (pl _ b8.1) (pl _ b8.2.1)
      show fX12_besideNow_4 M (x + 1) (nI V) (nI k) = _
      rw [step]
      refine Eq.trans v2 ?_
      show (fX12_isBeside M (nI (ps r (t (72 + k)) (t 2))) (nI (ps r (t (82 + k)) (t 2)))).bind _ = _
      rw [eb, Option.bind_some, sm_s, hV]
      cases hB : bsb (t 2) (ps r (t (72 + k)) (t 2)) (ps r (t (82 + k)) (t 2))
      · simp only [bi, b2_0, l_0, l_1, l_2, l_3, l_4, l_5, l_6, l_7, l_8, l_9, l_10, l_11, l_12, l_13, l_14, l_15, l_16, l_17, l_18, l_19, l_20, l_21, l_22, l_23, l_24, l_25, l_30, l_31, l_32, l_40, l_48, l_54, l_57, l_59, l_60, l_61, l_62, l_63, l_65, l_66, l_72, l_82, l_92, l_93, l_94, l_97, l_99, l_100, l_101, l_102, l_103, l_104, l_105, l_107, l_108, l_109, l_110, l_111, l_112, l_114, l_115, l_116, l_117, l_119, l_121, l_122, l_136, l_200, l_255, l_300, l_364, l_900, l_1000, l_1456, l_1458, l_1459, l_1460, l_1462, l_1471, l_1504, l_1510, l_1522, l_1550, l_2971, l_9999, l_10000, l_10979, l_65536, l_m1, if_true, nI_add]
      · have : (nI 1 = nI 0) = False := q_eqF (by omega) (by omega) (by omega)
        simp only [bi, b2_1, l_0, l_1, l_2, l_3, l_4, l_5, l_6, l_7, l_8, l_9, l_10, l_11, l_12, l_13, l_14, l_15, l_16, l_17, l_18, l_19, l_20, l_21, l_22, l_23, l_24, l_25, l_30, l_31, l_32, l_40, l_48, l_54, l_57, l_59, l_60, l_61, l_62, l_63, l_65, l_66, l_72, l_82, l_92, l_93, l_94, l_97, l_99, l_100, l_101, l_102, l_103, l_104, l_105, l_107, l_108, l_109, l_110, l_111, l_112, l_114, l_115, l_116, l_117, l_119, l_121, l_122, l_136, l_200, l_255, l_300, l_364, l_900, l_1000, l_1456, l_1458, l_1459, l_1460, l_1462, l_1471, l_1504, l_1510, l_1522, l_1550, l_2971, l_9999, l_10000, l_10979, l_65536, l_m1, this, if_false, nI_add]) 0 (nI 0) FU (by omega) rfl (by unfold FU; omega)
  exact e
def rep (t : Nat → Nat) (x : Int32) (m : Nat) : Prop := (x = nM ∧ m = t 3 + 1) ∨ (x = nI m ∧ m ≤ t 3)
def sst (t : Nat → Nat) (M S : ms_T) (d : Nat) (r : Nat → Nat) (m : Nat) (k : Nat → Nat) : Prop :=
  ss M S ∧ rep t (gi S 37) m ∧ (∀ j, j < d → ra S 10 j = nI (r j)) ∧ ∀ j, j < t 2 → ra S 11 j = nI (k j)
theorem M_keep {rc : ms_T → Int32 → Int32 → Option ms_T} {n : Nat} (hn : n ≤ 6) : ∃ f, fX12_seats_88 rc FU S (nI n) (nI 0) = some (sr S 11 f) ∧ ∀ i, i < n → f i = ra S 10 i := by
  obtain ⟨r, e, f, rfl, hf⟩ := lp_up (fun x k f => fX12_seats_88 rc x (sr S 11 f) (nI n) k) n (fun k f => ∀ i, i < k → f i = ra S 10 i) (fun r => ∃ f, r = sr S 11 f ∧ ∀ i, i < n → f i = ra S 10 i)
    (fun x f hf => ⟨_, by simp (disch := omega) only [fX12_seats_88, l_0, l_1, l_2, l_3, l_4, l_5, l_6, l_7, l_8, l_9, l_10, l_11, l_12, l_13, l_14, l_15, l_16, l_17, l_18, l_19, l_20, l_21, l_22, l_23, l_24, l_25, l_30, l_31, l_32, l_40, l_48, l_54, l_57, l_59, l_60, l_61, l_62, l_63, l_65, l_66, l_72, l_82, l_92, l_93, l_94, l_97, l_99, l_100, l_101, l_102, l_103, l_104, l_105, l_107, l_108, l_109, l_110, l_111, l_112, l_114, l_115, l_116, l_117, l_119, l_121, l_122, l_136, l_200, l_255, l_300, l_364, l_900, l_1000, l_1456, l_1458, l_1459, l_1460, l_1462, l_1471, l_1504, l_1510, l_1522, l_1550, l_2971, l_9999, l_10000, l_10979, l_65536, l_m1, nI_add, pk_mul, q_sub, q_ltT, q_ltF, q_leT, q_leF, q_eqT, q_eqF, q_inT, q_inF, nI_clamp, q_mlt, q_mle, q_mne, q_mne2, q_mnlt, q_mnle, Option.bind_some, if_true, if_false, reduceIte, ite_not, not_true_eq_false, not_false_eq_true, q_z1, Nat.reduceEqDiff], f, rfl, hf⟩)
    (fun x k f hk hf => by
      left
      refine ⟨upd f k (ra S 10 k), fun i hi => ?_, ?_⟩
      · by_cases c : i = k
        · rw [up_e _ _ _ c, c]
        · rw [up_n _ _ _ c]; exact hf i (by omega)
      · simp (disch := omega) only [fX12_seats_88, l_0, l_1, l_2, l_3, l_4, l_5, l_6, l_7, l_8, l_9, l_10, l_11, l_12, l_13, l_14, l_15, l_16, l_17, l_18, l_19, l_20, l_21, l_22, l_23, l_24, l_25, l_30, l_31, l_32, l_40, l_48, l_54, l_57, l_59, l_60, l_61, l_62, l_63, l_65, l_66, l_72, l_82, l_92, l_93, l_94, l_97, l_99, l_100, l_101, l_102, l_103, l_104, l_105, l_107, l_108, l_109, l_110, l_111, l_112, l_114, l_115, l_116, l_117, l_119, l_121, l_122, l_136, l_200, l_255, l_300, l_364, l_900, l_1000, l_1456, l_1458, l_1459, l_1460, l_1462, l_1471, l_1504, l_1510, l_1522, l_1550, l_2971, l_9999, l_10000, l_10979, l_65536, l_m1, nI_add, pk_mul, q_sub, q_ltT, q_ltF, q_leT, q_leF, q_eqT, q_eqF, q_inT, q_inF, nI_clamp, q_mlt, q_mle, q_mne, q_mne2, q_mnlt, q_mnle, q_gi, q_gil, q_gir, q_giR, q_gl, q_gli, q_glr, q_glR, q_ra, q_rai, q_ral, q_raR, q_rl, q_rli, q_rll, q_rlr, sa, sA, ia, la, q_srsr, q_sRsR, Option.bind_some, if_true, if_false, reduceIte, ite_not, not_true_eq_false, not_false_eq_true, q_z1, Nat.reduceEqDiff]) 0 (ra S 11) FU (by omega) (fun i hi => by omega) (by unfold FU; omega)
  refine ⟨f, ?_, hf⟩
  rw [← e]
  exact congrArg (fun m => fX12_seats_88 rc FU m (nI n) (nI 0)) (sr_self S 11)
theorem M_seats (w : tb_W t) (h : tb_N M t) : ∀ e fu d S r m k, d + e = t 2 → e < fu → (∀ j, j < d → r j < t 2) → ij r d → sst t M S d r m k →
    ∃ S' m' k', fX12_seats fu S (nI d) (nI (usd r d)) = some S' ∧ sst t M S' d r m' k' ∧ pst (bsd t) (fun s => cdw (t 2) s (t 2)) (prc (t 2) r d) m k m' k' := by
  obtain ⟨w0, w1, w2, w3, w4, w5, w6, w7, w8, w9⟩ := id w
  intro e
  induction e with
  | zero =>
    intro fu d S r m k hd hf hr hg hu
    obtain ⟨fu, rfl⟩ : ∃ x, fu = x + 1 := ⟨fu - 1, by omega⟩
    obtain rfl : d = t 2 := by omega
    obtain ⟨s1, s2, s3, s4⟩ := hu
    have hNS := ss_N h s1
    have u2 : ra S 5 2 = nI (t 2) := hNS 2 (by omega)
    have eb := M_besideNow w hNS s3 hr
    have bl := bsd_le t r
    have same : ∀ s, prc (t 2) r (t 2) s → bsd t s = bsd t r := fun s hs => bsd_cong hs.1
    have nm : (nM < nI 0) = True := eq_true (by decide)
    have n1 : (nI (t 2) ≤ nI (t 2)) = True := q_leT (by omega) (by omega)
    obtain ⟨f, k1, k2⟩ := M_keep (S := si S 37 (nI (bsd t r))) (rc := fX12_seats fu) (n := t 2) w2
    have good : bsd t r < m → fX12_seats (fu + 1) S (nI (t 2)) (nI (usd r (t 2))) = some (sr (si S 37 (nI (bsd t r))) 11 f) → ∃ S' m' k', fX12_seats (fu + 1) S (nI (t 2)) (nI (usd r (t 2))) = some S' ∧ sst t M S' (t 2) r m' k' ∧ pst (bsd t) (fun s => cdw (t 2) s (t 2)) (prc (t 2) r (t 2)) m k m' k' := by
      intro hlt he
      refine ⟨_, bsd t r, r, he, ⟨ss_11 (ss_37 s1), Or.inr ⟨rfl, bl⟩, s3, fun j hj => ?_⟩, ⟨fun s hs => by rw [same s hs]; exact Nat.le_refl _, Or.inr ⟨hlt, ⟨fun j _ => rfl, hr, hg⟩, rfl, fun s hs hl => ?_⟩⟩⟩
      · show f j = _
        rw [k2 j hj]; exact s3 j hj
      · have hl : cdw (t 2) s (t 2) < cdw (t 2) r (t 2) := hl
        rw [cdw_cong hs.1] at hl
        omega
    rcases s2 with ⟨g1, g2⟩ | ⟨g1, g2⟩
    · refine good (by omega) ?_
      show fX12_seats_0 (fX12_seats fu) S _ _ = _
      unfold fX12_seats_0
      rw [← k1]
      simp (disch := omega) only [u2, n1, eb, g1, nm, l_0, l_1, l_2, l_3, l_4, l_5, l_6, l_7, l_8, l_9, l_10, l_11, l_12, l_13, l_14, l_15, l_16, l_17, l_18, l_19, l_20, l_21, l_22, l_23, l_24, l_25, l_30, l_31, l_32, l_40, l_48, l_54, l_57, l_59, l_60, l_61, l_62, l_63, l_65, l_66, l_72, l_82, l_92, l_93, l_94, l_97, l_99, l_100, l_101, l_102, l_103, l_104, l_105, l_107, l_108, l_109, l_110, l_111, l_112, l_114, l_115, l_116, l_117, l_119, l_121, l_122, l_136, l_200, l_255, l_300, l_364, l_900, l_1000, l_1456, l_1458, l_1459, l_1460, l_1462, l_1471, l_1504, l_1510, l_1522, l_1550, l_2971, l_9999, l_10000, l_10979, l_65536, l_m1, q_gi, q_gil, q_gir, q_giR, q_gl, q_gli, q_glr, q_glR, q_ra, q_rai, q_ral, q_raR, q_rl, q_rli, q_rll, q_rlr, sa, sA, ia, la, q_srsr, q_sRsR, Option.bind_some, if_true, if_false, reduceIte, ite_not, not_true_eq_false, not_false_eq_true, q_z1, Nat.reduceEqDiff, nI_clamp]
    · by_cases c : bsd t r < m
      · refine good c ?_
        show fX12_seats_0 (fX12_seats fu) S _ _ = _
        unfold fX12_seats_0
        rw [← k1]
        simp (disch := omega) only [u2, n1, eb, g1, l_0, l_1, l_2, l_3, l_4, l_5, l_6, l_7, l_8, l_9, l_10, l_11, l_12, l_13, l_14, l_15, l_16, l_17, l_18, l_19, l_20, l_21, l_22, l_23, l_24, l_25, l_30, l_31, l_32, l_40, l_48, l_54, l_57, l_59, l_60, l_61, l_62, l_63, l_65, l_66, l_72, l_82, l_92, l_93, l_94, l_97, l_99, l_100, l_101, l_102, l_103, l_104, l_105, l_107, l_108, l_109, l_110, l_111, l_112, l_114, l_115, l_116, l_117, l_119, l_121, l_122, l_136, l_200, l_255, l_300, l_364, l_900, l_1000, l_1456, l_1458, l_1459, l_1460, l_1462, l_1471, l_1504, l_1510, l_1522, l_1550, l_2971, l_9999, l_10000, l_10979, l_65536, l_m1, nI_add, pk_mul, q_sub, q_ltT, q_ltF, q_leT, q_leF, q_eqT, q_eqF, q_inT, q_inF, nI_clamp, q_mlt, q_mle, q_mne, q_mne2, q_mnlt, q_mnle, q_gi, q_gil, q_gir, q_giR, q_gl, q_gli, q_glr, q_glR, q_ra, q_rai, q_ral, q_raR, q_rl, q_rli, q_rll, q_rlr, sa, sA, ia, la, q_srsr, q_sRsR, Option.bind_some, if_true, if_false, reduceIte, ite_not, not_true_eq_false, not_false_eq_true, q_z1, Nat.reduceEqDiff]
      · refine ⟨S, m, k, ?_, ⟨s1, Or.inr ⟨g1, g2⟩, s3, s4⟩, pst_nil (fun s hs => by rw [same s hs]; omega)⟩
        show fX12_seats_0 (fX12_seats fu) S _ _ = _
        unfold fX12_seats_0
        simp (disch := omega) only [u2, n1, eb, g1, l_0, l_1, l_2, l_3, l_4, l_5, l_6, l_7, l_8, l_9, l_10, l_11, l_12, l_13, l_14, l_15, l_16, l_17, l_18, l_19, l_20, l_21, l_22, l_23, l_24, l_25, l_30, l_31, l_32, l_40, l_48, l_54, l_57, l_59, l_60, l_61, l_62, l_63, l_65, l_66, l_72, l_82, l_92, l_93, l_94, l_97, l_99, l_100, l_101, l_102, l_103, l_104, l_105, l_107, l_108, l_109, l_110, l_111, l_112, l_114, l_115, l_116, l_117, l_119, l_121, l_122, l_136, l_200, l_255, l_300, l_364, l_900, l_1000, l_1456, l_1458, l_1459, l_1460, l_1462, l_1471, l_1504, l_1510, l_1522, l_1550, l_2971, l_9999, l_10000, l_10979, l_65536, l_m1, nI_add, pk_mul, q_sub, q_ltT, q_ltF, q_leT, q_leF, q_eqT, q_eqF, q_inT, q_inF, nI_clamp, q_mlt, q_mle, q_mne, q_mne2, q_mnlt, q_mnle, q_gi, q_gil, q_gir, q_giR, q_gl, q_gli, q_glr, q_glR, q_ra, q_rai, q_ral, q_raR, q_rl, q_rli, q_rll, q_rlr, sa, sA, ia, la, q_srsr, q_sRsR, Option.bind_some, if_true, if_false, reduceIte, ite_not, not_true_eq_false, not_false_eq_true, q_z1, Nat.reduceEqDiff]
  | succ e ih =>
    intro fu d S r m k hd hf hr hg hu
    obtain ⟨fu, rfl⟩ : ∃ x, fu = x + 1 := ⟨fu - 1, by omega⟩
    have ub := usd_lt (r := r) (d := d) (fun j hj => by have := hr j hj; omega)
    obtain ⟨S', e1, m', k', e2, e3⟩ := lp_up (fun x i S => fX12_seats_12 (fX12_seats fu) x S (nI d) (nI (usd r d)) i) (t 2)
      (fun x S => ∃ m' k', sst t M S d r m' k' ∧ pst (bsd t) (fun s => cdw (t 2) s (t 2)) (fun s => prc (t 2) r d s ∧ s d < x) m k m' k')
      (fun S' => ∃ m' k', sst t M S' d r m' k' ∧ pst (bsd t) (fun s => cdw (t 2) s (t 2)) (prc (t 2) r d) m k m' k')
      (fun x S hS => by
        obtain ⟨m', k', hu', hp⟩ := hS
        refine ⟨S, ?_, m', k', hu', pst_iff hp (fun s => ⟨fun g => ⟨g, g.2.1 d (by omega)⟩, fun g => g.1⟩)⟩
        have u2 : ra S 5 2 = nI (t 2) := ss_N h hu'.1 2 (by omega)
        simp (disch := omega) only [fX12_seats_12, u2, l_0, l_1, l_2, l_3, l_4, l_5, l_6, l_7, l_8, l_9, l_10, l_11, l_12, l_13, l_14, l_15, l_16, l_17, l_18, l_19, l_20, l_21, l_22, l_23, l_24, l_25, l_30, l_31, l_32, l_40, l_48, l_54, l_57, l_59, l_60, l_61, l_62, l_63, l_65, l_66, l_72, l_82, l_92, l_93, l_94, l_97, l_99, l_100, l_101, l_102, l_103, l_104, l_105, l_107, l_108, l_109, l_110, l_111, l_112, l_114, l_115, l_116, l_117, l_119, l_121, l_122, l_136, l_200, l_255, l_300, l_364, l_900, l_1000, l_1456, l_1458, l_1459, l_1460, l_1462, l_1471, l_1504, l_1510, l_1522, l_1550, l_2971, l_9999, l_10000, l_10979, l_65536, l_m1, nI_add, pk_mul, q_sub, q_ltT, q_ltF, q_leT, q_leF, q_eqT, q_eqF, q_inT, q_inF, nI_clamp, q_mlt, q_mle, q_mne, q_mne2, q_mnlt, q_mnle, q_gi, q_gil, q_gir, q_giR, q_gl, q_gli, q_glr, q_glR, q_ra, q_rai, q_ral, q_raR, q_rl, q_rli, q_rll, q_rlr, sa, sA, ia, la, q_srsr, q_sRsR, Option.bind_some, if_true, if_false, reduceIte, ite_not, not_true_eq_false, not_false_eq_true, q_z1, Nat.reduceEqDiff])
      (fun n x S hx hS => by
        left
        obtain ⟨m', k', ⟨s1, s2, s3, s4⟩, hp⟩ := hS
        have u2 : ra S 5 2 = nI (t 2) := ss_N h s1 2 (by omega)
        have eh := N_has (x := usd r d) (k := x) (by omega) (by omega)
        cases hb : (usd r d).testBit x
        · rw [hb] at eh
          have rr : ∀ j, j < d → tu r d x j = r j := fun j hj => tu_n _ _ _ (by omega)
          have rd : tu r d x d = x := tu_e _ _ _ rfl
          have hrow : ∀ j, j < d + 1 → upd (ra S 10) d (nI x) j = nI (tu r d x j) := fun j hj => by
            by_cases q : j = d
            · rw [up_e _ _ _ q, tu_e _ _ _ q]
            · rw [up_n _ _ _ q, tu_n _ _ _ q]; exact s3 j (by omega)
          have hr' : ∀ j, j < d + 1 → tu r d x j < t 2 := fun j hj => by
            by_cases q : j = d
            · rw [q, rd]; omega
            · rw [rr j (by omega)]; exact hr j (by omega)
          obtain ⟨S', m2, k2, i1, ⟨v1, v2, v3, v4⟩, i3⟩ := ih fu (d + 1) (sr S 10 (upd (ra S 10) d (nI x))) (tu r d x) m' k' (by omega) (by omega) hr' (ij_tu hg hb) ⟨ss_10 s1, s2, hrow, s4⟩
          rw [usd_tu] at i1
          refine ⟨S', ⟨m2, k2, ⟨v1, v2, fun j hj => by rw [v3 j (by omega), rr j hj], v4⟩, pst_cat hp i3 (fun a b ha hb => prc_lt (by omega) ha hb) (fun s => prc_iff)⟩, ?_⟩
          have es : nI (usd r d) ||| ((nI 1) <<< (nI x &&& nI 31)) = nI (usd r d ||| 2 ^ x) := q_set1 (by omega)
          simp (disch := omega) only [fX12_seats_12, u2, eh, bi, b2_0, es, i1, l_0, l_1, l_2, l_3, l_4, l_5, l_6, l_7, l_8, l_9, l_10, l_11, l_12, l_13, l_14, l_15, l_16, l_17, l_18, l_19, l_20, l_21, l_22, l_23, l_24, l_25, l_30, l_31, l_32, l_40, l_48, l_54, l_57, l_59, l_60, l_61, l_62, l_63, l_65, l_66, l_72, l_82, l_92, l_93, l_94, l_97, l_99, l_100, l_101, l_102, l_103, l_104, l_105, l_107, l_108, l_109, l_110, l_111, l_112, l_114, l_115, l_116, l_117, l_119, l_121, l_122, l_136, l_200, l_255, l_300, l_364, l_900, l_1000, l_1456, l_1458, l_1459, l_1460, l_1462, l_1471, l_1504, l_1510, l_1522, l_1550, l_2971, l_9999, l_10000, l_10979, l_65536, l_m1, nI_add, pk_mul, q_sub, q_ltT, q_ltF, q_leT, q_leF, q_eqT, q_eqF, q_inT, q_inF, nI_clamp, q_mlt, q_mle, q_mne, q_mne2, q_mnlt, q_mnle, q_gi, q_gil, q_gir, q_giR, q_gl, q_gli, q_glr, q_glR, q_ra, q_rai, q_ral, q_raR, q_rl, q_rli, q_rll, q_rlr, sa, sA, ia, la, q_srsr, q_sRsR, Option.bind_some, if_true, if_false, reduceIte, ite_not, not_true_eq_false, not_false_eq_true, q_z1, Nat.reduceEqDiff]
        · rw [hb] at eh
          refine ⟨S, ⟨m', k', ⟨s1, s2, s3, s4⟩, pst_iff hp (fun s => ⟨fun g => ?_, fun g => ⟨g.1, by omega⟩⟩)⟩, ?_⟩
          · rcases prc_iff.mp g with q | q
            · exact q
            · exact absurd q (prc_no (by omega) hb)
          · simp (disch := omega) only [fX12_seats_12, u2, eh, bi, b2_1, l_0, l_1, l_2, l_3, l_4, l_5, l_6, l_7, l_8, l_9, l_10, l_11, l_12, l_13, l_14, l_15, l_16, l_17, l_18, l_19, l_20, l_21, l_22, l_23, l_24, l_25, l_30, l_31, l_32, l_40, l_48, l_54, l_57, l_59, l_60, l_61, l_62, l_63, l_65, l_66, l_72, l_82, l_92, l_93, l_94, l_97, l_99, l_100, l_101, l_102, l_103, l_104, l_105, l_107, l_108, l_109, l_110, l_111, l_112, l_114, l_115, l_116, l_117, l_119, l_121, l_122, l_136, l_200, l_255, l_300, l_364, l_900, l_1000, l_1456, l_1458, l_1459, l_1460, l_1462, l_1471, l_1504, l_1510, l_1522, l_1550, l_2971, l_9999, l_10000, l_10979, l_65536, l_m1, nI_add, pk_mul, q_sub, q_ltT, q_ltF, q_leT, q_leF, q_eqT, q_eqF, q_inT, q_inF, nI_clamp, q_mlt, q_mle, q_mne, q_mne2, q_mnlt, q_mnle, q_gi, q_gil, q_gir, q_giR, q_gl, q_gli, q_glr, q_glR, q_ra, q_rai, q_ral, q_raR, q_rl, q_rli, q_rll, q_rlr, sa, sA, ia, la, q_srsr, q_sRsR, Option.bind_some, if_true, if_false, reduceIte, ite_not, not_true_eq_false, not_false_eq_true, q_z1, Nat.reduceEqDiff]) 0 S FU (by omega) ⟨m, k, hu, pst_nil (fun s hs => absurd hs.2 (by omega))⟩ (by unfold FU; omega)
    refine ⟨S', m', k', ?_, e2, e3⟩
    show fX12_seats_0 (fX12_seats fu) S _ _ = _
    unfold fX12_seats_0
    have e1' : fX12_seats_12 (fX12_seats fu) FU S (nI d) (nI (usd r d)) (nI 0) = some S' := e1
    rw [← e1']
    have u2 : ra S 5 2 = nI (t 2) := ss_N h hu.1 2 (by omega)
    simp (disch := omega) only [u2, l_0, l_1, l_2, l_3, l_4, l_5, l_6, l_7, l_8, l_9, l_10, l_11, l_12, l_13, l_14, l_15, l_16, l_17, l_18, l_19, l_20, l_21, l_22, l_23, l_24, l_25, l_30, l_31, l_32, l_40, l_48, l_54, l_57, l_59, l_60, l_61, l_62, l_63, l_65, l_66, l_72, l_82, l_92, l_93, l_94, l_97, l_99, l_100, l_101, l_102, l_103, l_104, l_105, l_107, l_108, l_109, l_110, l_111, l_112, l_114, l_115, l_116, l_117, l_119, l_121, l_122, l_136, l_200, l_255, l_300, l_364, l_900, l_1000, l_1456, l_1458, l_1459, l_1460, l_1462, l_1471, l_1504, l_1510, l_1522, l_1550, l_2971, l_9999, l_10000, l_10979, l_65536, l_m1, nI_add, pk_mul, q_sub, q_ltT, q_ltF, q_leT, q_leF, q_eqT, q_eqF, q_inT, q_inF, nI_clamp, q_mlt, q_mle, q_mne, q_mne2, q_mnlt, q_mnle, q_gi, q_gil, q_gir, q_giR, q_gl, q_gli, q_glr, q_glR, q_ra, q_rai, q_ral, q_raR, q_rl, q_rli, q_rll, q_rlr, sa, sA, ia, la, q_srsr, q_sRsR, Option.bind_some, if_true, if_false, reduceIte, ite_not, not_true_eq_false, not_false_eq_true, q_z1, Nat.reduceEqDiff]
theorem M_laysSeats (w : tb_W t) (h : tb_N M t) : ∃ S' m k, fX12_laysSeats M = some S' ∧ ss M S' ∧ gi S' 37 = nI m ∧ (∀ j, j < t 2 → ra S' 11 j = nI (k j)) ∧ prm (t 2) k ∧ bsd t k = m ∧ (∀ s, prm (t 2) s → m ≤ bsd t s) ∧ ∀ s, prm (t 2) s → cdw (t 2) s (t 2) < cdw (t 2) k (t 2) → m < bsd t s := by
  have w2 := w.2.2.1
  obtain ⟨S', m, k, e1, ⟨v1, v2, v3, v4⟩, e3, e4⟩ := M_seats w h (t 2) 8 0 (si M 37 nM) (fun _ => 0) (t 3 + 1) (fun j => (ra M 11 j).toBitVec.toNat) (by omega) (by omega) (fun j hj => by omega) (fun i j _ hj => by omega) ⟨ss_37 ⟨fun _ _ => rfl, fun _ => rfl, fun _ _ _ => rfl, fun _ => rfl⟩, Or.inl ⟨rfl, rfl⟩, fun j hj => by omega, fun j _ => (nI_bv _).symm⟩
  have cc : ∀ s, prm (t 2) s → prc (t 2) (fun _ => 0) 0 s := fun s hs => ⟨fun j hj => by omega, hs⟩
  have id1 : prm (t 2) (fun j => j) := ⟨fun j hj => hj, fun i j hij _ => by show i ≠ j; omega⟩
  have q0 := e3 _ (cc _ id1)
  have q1 := bsd_le t (fun j => j)
  rcases e4 with ⟨g, _⟩ | ⟨g1, g2, g3, g4⟩
  · omega
  · refine ⟨S', m, k, ?_, v1, ?_, v4, g2.2, g3, fun s hs => e3 s (cc s hs), fun s hs hl => g4 s (cc s hs) hl⟩
    · unfold fX12_laysSeats
      have e1' : fX12_seats 8 (si M 37 nM) (nI 0) (nI 0) = some S' := e1
      simp only [l_0, l_1, l_2, l_3, l_4, l_5, l_6, l_7, l_8, l_9, l_10, l_11, l_12, l_13, l_14, l_15, l_16, l_17, l_18, l_19, l_20, l_21, l_22, l_23, l_24, l_25, l_30, l_31, l_32, l_40, l_48, l_54, l_57, l_59, l_60, l_61, l_62, l_63, l_65, l_66, l_72, l_82, l_92, l_93, l_94, l_97, l_99, l_100, l_101, l_102, l_103, l_104, l_105, l_107, l_108, l_109, l_110, l_111, l_112, l_114, l_115, l_116, l_117, l_119, l_121, l_122, l_136, l_200, l_255, l_300, l_364, l_900, l_1000, l_1456, l_1458, l_1459, l_1460, l_1462, l_1471, l_1504, l_1510, l_1522, l_1550, l_2971, l_9999, l_10000, l_10979, l_65536, l_m1, e1', Option.bind_some]
    · rcases v2 with ⟨_, g⟩ | ⟨g, _⟩
      · omega
      · exact g
end Q68
