/-! a talker is read -/
section Q82
variable {R B M T : ms_T} {g t : Nat → Nat} {n a e k wn : Nat}
def ttk (t : Nat → Nat) (s x f : Nat) : Nat → Nat := tu (tu (tu (tu t (48 + t 2) s) (54 + t 2) (x + 1)) (66 + t 2) f) 2 (t 2 + 1)
theorem ttk_n {s x f j : Nat} (h1 : j ≠ 48 + t 2) (h2 : j ≠ 54 + t 2) (h3 : j ≠ 66 + t 2) (h4 : j ≠ 2) : ttk t s x f j = t j := by unfold ttk; rw [tu_n _ _ _ h4, tu_n _ _ _ h3, tu_n _ _ _ h2, tu_n _ _ _ h1]
theorem ttk_2 {s x f : Nat} : ttk t s x f 2 = t 2 + 1 := by unfold ttk; rw [tu_e _ _ _ rfl]
theorem ttk_a {s x f : Nat} : ttk t s x f (48 + t 2) = s := by unfold ttk; rw [tu_n _ _ _ (by omega), tu_n _ _ _ (by omega), tu_n _ _ _ (by omega), tu_e _ _ _ rfl]
theorem ttk_b {s x f : Nat} : ttk t s x f (54 + t 2) = x + 1 := by unfold ttk; rw [tu_n _ _ _ (by omega), tu_n _ _ _ (by omega), tu_e _ _ _ rfl]
theorem ttk_c {s x f : Nat} : ttk t s x f (66 + t 2) = f := by unfold ttk; rw [tu_n _ _ _ (by omega), tu_e _ _ _ rfl]
theorem W_ttk (w : tb_W t) {s x f : Nat} (hk : t 2 < 6) (hs : s ≤ 9) (hx : x < t 0) (hf : f ≤ 16) (h6 : t (60 + t 2) = 0) : tb_W (ttk t s x f) := by
  obtain ⟨w0, w1, w2, w3, w4, w5, w6, w7, w8, w9⟩ := w
  have e0 : ttk t s x f 0 = t 0 := ttk_n (by omega) (by omega) (by omega) (by omega)
  have e1 : ttk t s x f 1 = t 1 := ttk_n (by omega) (by omega) (by omega) (by omega)
  have e3 : ttk t s x f 3 = t 3 := ttk_n (by omega) (by omega) (by omega) (by omega)
  have e4 : ttk t s x f 4 = t 4 := ttk_n (by omega) (by omega) (by omega) (by omega)
  unfold tb_W
  rw [e0, e1, e3, e4, ttk_2]
  refine ⟨w0, w1, by omega, w3, w4, ?_, ?_, ?_, ?_, ?_⟩
  · intro i hi
    rw [ttk_n (by omega) (by omega) (by omega) (by omega), ttk_n (by omega) (by omega) (by omega) (by omega)]; exact w5 i hi
  · intro i hi
    rw [ttk_n (by omega) (by omega) (by omega) (by omega), ttk_n (by omega) (by omega) (by omega) (by omega), ttk_n (by omega) (by omega) (by omega) (by omega)]; exact w6 i hi
  · intro i hi
    by_cases c : i = t 2
    · subst c
      rw [ttk_a, ttk_b, ttk_c, ttk_n (by omega) (by omega) (by omega) (by omega), h6]
      exact ⟨hs, by omega, by omega, hf⟩
    · rw [ttk_n (by omega) (by omega) (by omega) (by omega), ttk_n (by omega) (by omega) (by omega) (by omega), ttk_n (by omega) (by omega) (by omega) (by omega), ttk_n (by omega) (by omega) (by omega) (by omega)]; exact w7 i (by omega)
  · intro i hi
    rw [ttk_n (by omega) (by omega) (by omega) (by omega), ttk_n (by omega) (by omega) (by omega) (by omega)]
    have := w8 i hi
    exact ⟨by omega, by omega, this.2.2⟩
  · intro i j hi hj
    rw [ttk_n (by omega) (by omega) (by omega) (by omega), ttk_n (by omega) (by omega) (by omega) (by omega), ttk_n (by omega) (by omega) (by omega) (by omega), ttk_n (by omega) (by omega) (by omega) (by omega)]; exact w9 i j hi hj
theorem C_ttk (w : tb_W t) (h : tb_C T t) {s x f : Nat} {nm : Nat → Int64} {F : Nat → Int32} (hk : t 2 < 6) (h6 : t (60 + t 2) = 0) (hF : F (t 2) = nI f) (hF2 : ∀ i, i < t 2 → F i = ra T 7 i) : tb_C (si (sr (sr (sr (sR T 10 nm) 5 (upd (ra T 5) (t 2) (nI s))) 6 (upd (ra T 6) (t 2) (nI (x + 1)))) 7 F) 8 (nI (t 2 + 1))) (ttk t s x f) := by
  obtain ⟨w0, w1, w2, w3, w4, w5, w6, w7, w8, w9⟩ := w
  obtain ⟨h0, h1, h2, h3, h4, h5, h6', h7, h8, h9, h10, h11, h12, h13, h14, h15, h16⟩ := h
  have e0 : ttk t s x f 0 = t 0 := ttk_n (by omega) (by omega) (by omega) (by omega)
  have e1 : ttk t s x f 1 = t 1 := ttk_n (by omega) (by omega) (by omega) (by omega)
  have e3 : ttk t s x f 3 = t 3 := ttk_n (by omega) (by omega) (by omega) (by omega)
  have e4 : ttk t s x f 4 = t 4 := ttk_n (by omega) (by omega) (by omega) (by omega)
  have e5 : ttk t s x f 5 = t 5 := ttk_n (by omega) (by omega) (by omega) (by omega)
  unfold tb_C
  rw [e0, e1, e3, e4, e5, ttk_2]
  refine ⟨h0, h1, h2, ?_, rfl, ?_, h6', h7, ?_, ?_, ?_, ?_, ?_, ?_, ?_, ?_, ?_⟩
  · have e : bs (tb_pp (ttk t s x f)) (t 1) = bs (tb_pp t) (t 1) := bs_eq (fun k hk => by unfold tb_pp; rw [ttk_n (by omega) (by omega) (by omega) (by omega)])
    rw [e]; exact h3
  · have e : bs (tb_ff (ttk t s x f)) (t 2) = bs (tb_ff t) (t 2) := bs_eq (fun k hk => by unfold tb_ff; rw [ttk_n (by omega) (by omega) (by omega) (by omega)])
    have e2 : tb_ff (ttk t s x f) (bs (tb_ff t) (t 2)) (t 2) = false := by
      unfold tb_ff
      rw [ttk_n (by omega) (by omega) (by omega) (by omega), h6]; rfl
    rw [bs_s, e, e2]; exact h5
  · intro i hi; rw [ttk_n (by omega) (by omega) (by omega) (by omega)]; exact h8 i hi
  · intro i hi; rw [ttk_n (by omega) (by omega) (by omega) (by omega)]; exact h9 i hi
  · intro i hi; rw [ttk_n (by omega) (by omega) (by omega) (by omega)]; exact h10 i hi
  · intro i hi; rw [ttk_n (by omega) (by omega) (by omega) (by omega)]; exact h11 i hi
  · intro i hi
    show upd (ra T 5) (t 2) (nI s) i = _
    by_cases c : i = t 2
    · subst c; rw [up_e _ _ _ rfl, ttk_a]
    · rw [up_n _ _ _ c, ttk_n (by omega) (by omega) (by omega) (by omega)]; exact h12 i (by omega)
  · intro i hi
    show upd (ra T 6) (t 2) (nI (x + 1)) i = _
    by_cases c : i = t 2
    · subst c; rw [up_e _ _ _ rfl, ttk_b]
    · rw [up_n _ _ _ c, ttk_n (by omega) (by omega) (by omega) (by omega)]; exact h13 i (by omega)
  · intro i hi
    show F i = _
    by_cases c : i = t 2
    · subst c; rw [hF, ttk_c]
    · rw [hF2 i (by omega), ttk_n (by omega) (by omega) (by omega) (by omega)]; exact h14 i (by omega)
  · intro i hi; rw [ttk_n (by omega) (by omega) (by omega) (by omega)]; exact h15 i hi
  · intro i hi; rw [ttk_n (by omega) (by omega) (by omega) (by omega)]; exact h16 i hi
/-- whether a seat is free -/
theorem free_seat {R' : ms_T} {v : Nat} (hc : t 2 ≤ 6) (hv : v < 100) (h8 : gi T 8 = nI (t 2)) (h5 : ∀ i, i < t 2 → ra T 5 i = nI (t (48 + i)) ∧ t (48 + i) ≤ 9) (m2 : ra M 5 1458 = nI (t 2)) (m5 : ∀ i, i < t 2 → ra M 5 (1504 + i) = nI (t (48 + i))) (hr : gi R 5 = nI v) (hq : fX4_refuseHereT R (nI 5) = some (nI 0, R')) :
    (fX8_isFreeSeatHere_14 T FU R (nI 0) = some (nI 1, R) ∧ fX12_isTaken M (nI v) = some (nI 0)) ∨ (fX8_isFreeSeatHere_14 T FU R (nI 0) = some (nI 0, R') ∧ fX12_isTaken M (nI v) = some (nI 1)) := by
  have key : ∀ d i f1 f2, i + d = t 2 → d < f1 → d < f2 → (fX8_isFreeSeatHere_14 T f1 R (nI i) = some (nI 1, R) ∧ fX12_isTaken_2 M f2 (nI v) (nI i) = some (nI 0)) ∨ (fX8_isFreeSeatHere_14 T f1 R (nI i) = some (nI 0, R') ∧ fX12_isTaken_2 M f2 (nI v) (nI i) = some (nI 1)) := by
    intro d
    induction d with
    | zero =>
      intro i f1 f2 hi hf1 hf2
      obtain ⟨f1, rfl⟩ : ∃ x, f1 = x + 1 := ⟨f1 - 1, by omega⟩
      obtain ⟨f2, rfl⟩ : ∃ x, f2 = x + 1 := ⟨f2 - 1, by omega⟩
      left
      refine ⟨?_, ?_⟩
      · simp (disch := omega) only [fX8_isFreeSeatHere_14, h8, l_0, l_1, l_2, l_3, l_4, l_5, l_6, l_7, l_8, l_9, l_10, l_11, l_12, l_13, l_14, l_15, l_16, l_17, l_18, l_19, l_20, l_21, l_22, l_23, l_24, l_25, l_30, l_31, l_32, l_40, l_48, l_54, l_57, l_59, l_60, l_61, l_62, l_63, l_65, l_66, l_72, l_82, l_92, l_93, l_94, l_97, l_99, l_100, l_101, l_102, l_103, l_104, l_105, l_107, l_108, l_109, l_110, l_111, l_112, l_114, l_115, l_116, l_117, l_119, l_121, l_122, l_136, l_200, l_255, l_300, l_364, l_900, l_1000, l_1456, l_1458, l_1459, l_1460, l_1462, l_1471, l_1504, l_1510, l_1522, l_1550, l_2971, l_9999, l_10000, l_10979, l_65536, l_m1, nI_add, pk_mul, q_sub, q_ltT, q_ltF, q_leT, q_leF, q_eqT, q_eqF, q_inT, q_inF, nI_clamp, q_mlt, q_mle, q_mne, q_mne2, q_mnlt, q_mnle, Option.bind_some, if_true, if_false, reduceIte, ite_not, not_true_eq_false, not_false_eq_true, q_z1, Nat.reduceEqDiff]
      · simp (disch := omega) only [fX12_isTaken_2, m2, l_0, l_1, l_2, l_3, l_4, l_5, l_6, l_7, l_8, l_9, l_10, l_11, l_12, l_13, l_14, l_15, l_16, l_17, l_18, l_19, l_20, l_21, l_22, l_23, l_24, l_25, l_30, l_31, l_32, l_40, l_48, l_54, l_57, l_59, l_60, l_61, l_62, l_63, l_65, l_66, l_72, l_82, l_92, l_93, l_94, l_97, l_99, l_100, l_101, l_102, l_103, l_104, l_105, l_107, l_108, l_109, l_110, l_111, l_112, l_114, l_115, l_116, l_117, l_119, l_121, l_122, l_136, l_200, l_255, l_300, l_364, l_900, l_1000, l_1456, l_1458, l_1459, l_1460, l_1462, l_1471, l_1504, l_1510, l_1522, l_1550, l_2971, l_9999, l_10000, l_10979, l_65536, l_m1, nI_add, pk_mul, q_sub, q_ltT, q_ltF, q_leT, q_leF, q_eqT, q_eqF, q_inT, q_inF, nI_clamp, q_mlt, q_mle, q_mne, q_mne2, q_mnlt, q_mnle, q_gi, q_gil, q_gir, q_giR, q_gl, q_gli, q_glr, q_glR, q_ra, q_rai, q_ral, q_raR, q_rl, q_rli, q_rll, q_rlr, sa, sA, ia, la, q_srsr, q_sRsR, Option.bind_some, if_true, if_false, reduceIte, ite_not, not_true_eq_false, not_false_eq_true, q_z1, Nat.reduceEqDiff]
    | succ d ih =>
      intro i f1 f2 hi hf1 hf2
      obtain ⟨f1, rfl⟩ : ∃ x, f1 = x + 1 := ⟨f1 - 1, by omega⟩
      obtain ⟨f2, rfl⟩ : ∃ x, f2 = x + 1 := ⟨f2 - 1, by omega⟩
      obtain ⟨e1, e2⟩ := h5 i (by omega)
      have e3 := m5 i (by omega)
      by_cases c : t (48 + i) = v
      · right
        refine ⟨?_, ?_⟩
        · simp (disch := omega) only [fX8_isFreeSeatHere_14, h8, e1, hr, c, hq, q_z0, l_0, l_1, l_2, l_3, l_4, l_5, l_6, l_7, l_8, l_9, l_10, l_11, l_12, l_13, l_14, l_15, l_16, l_17, l_18, l_19, l_20, l_21, l_22, l_23, l_24, l_25, l_30, l_31, l_32, l_40, l_48, l_54, l_57, l_59, l_60, l_61, l_62, l_63, l_65, l_66, l_72, l_82, l_92, l_93, l_94, l_97, l_99, l_100, l_101, l_102, l_103, l_104, l_105, l_107, l_108, l_109, l_110, l_111, l_112, l_114, l_115, l_116, l_117, l_119, l_121, l_122, l_136, l_200, l_255, l_300, l_364, l_900, l_1000, l_1456, l_1458, l_1459, l_1460, l_1462, l_1471, l_1504, l_1510, l_1522, l_1550, l_2971, l_9999, l_10000, l_10979, l_65536, l_m1, nI_add, pk_mul, q_sub, q_ltT, q_ltF, q_leT, q_leF, q_eqT, q_eqF, q_inT, q_inF, nI_clamp, q_mlt, q_mle, q_mne, q_mne2, q_mnlt, q_mnle, q_gi, q_gil, q_gir, q_giR, q_gl, q_gli, q_glr, q_glR, q_ra, q_rai, q_ral, q_raR, q_rl, q_rli, q_rll, q_rlr, sa, sA, ia, la, q_srsr, q_sRsR, Option.bind_some, if_true, if_false, reduceIte, ite_not, not_true_eq_false, not_false_eq_true, q_z1, Nat.reduceEqDiff]
        · simp (disch := omega) only [fX12_isTaken_2, m2, e3, c, l_0, l_1, l_2, l_3, l_4, l_5, l_6, l_7, l_8, l_9, l_10, l_11, l_12, l_13, l_14, l_15, l_16, l_17, l_18, l_19, l_20, l_21, l_22, l_23, l_24, l_25, l_30, l_31, l_32, l_40, l_48, l_54, l_57, l_59, l_60, l_61, l_62, l_63, l_65, l_66, l_72, l_82, l_92, l_93, l_94, l_97, l_99, l_100, l_101, l_102, l_103, l_104, l_105, l_107, l_108, l_109, l_110, l_111, l_112, l_114, l_115, l_116, l_117, l_119, l_121, l_122, l_136, l_200, l_255, l_300, l_364, l_900, l_1000, l_1456, l_1458, l_1459, l_1460, l_1462, l_1471, l_1504, l_1510, l_1522, l_1550, l_2971, l_9999, l_10000, l_10979, l_65536, l_m1, nI_add, pk_mul, q_sub, q_ltT, q_ltF, q_leT, q_leF, q_eqT, q_eqF, q_inT, q_inF, nI_clamp, q_mlt, q_mle, q_mne, q_mne2, q_mnlt, q_mnle, q_gi, q_gil, q_gir, q_giR, q_gl, q_gli, q_glr, q_glR, q_ra, q_rai, q_ral, q_raR, q_rl, q_rli, q_rll, q_rlr, sa, sA, ia, la, q_srsr, q_sRsR, Option.bind_some, if_true, if_false, reduceIte, ite_not, not_true_eq_false, not_false_eq_true, q_z1, Nat.reduceEqDiff]
      · rcases ih (i + 1) f1 f2 (by omega) (by omega) (by omega) with ⟨q1, q2⟩ | ⟨q1, q2⟩
        · left
          refine ⟨?_, ?_⟩
          · rw [← q1]
            simp (disch := omega) only [fX8_isFreeSeatHere_14, h8, e1, hr, l_0, l_1, l_2, l_3, l_4, l_5, l_6, l_7, l_8, l_9, l_10, l_11, l_12, l_13, l_14, l_15, l_16, l_17, l_18, l_19, l_20, l_21, l_22, l_23, l_24, l_25, l_30, l_31, l_32, l_40, l_48, l_54, l_57, l_59, l_60, l_61, l_62, l_63, l_65, l_66, l_72, l_82, l_92, l_93, l_94, l_97, l_99, l_100, l_101, l_102, l_103, l_104, l_105, l_107, l_108, l_109, l_110, l_111, l_112, l_114, l_115, l_116, l_117, l_119, l_121, l_122, l_136, l_200, l_255, l_300, l_364, l_900, l_1000, l_1456, l_1458, l_1459, l_1460, l_1462, l_1471, l_1504, l_1510, l_1522, l_1550, l_2971, l_9999, l_10000, l_10979, l_65536, l_m1, nI_add, pk_mul, q_sub, q_ltT, q_ltF, q_leT, q_leF, q_eqT, q_eqF, q_inT, q_inF, nI_clamp, q_mlt, q_mle, q_mne, q_mne2, q_mnlt, q_mnle, q_gi, q_gil, q_gir, q_giR, q_gl, q_gli, q_glr, q_glR, q_ra, q_rai, q_ral, q_raR, q_rl, q_rli, q_rll, q_rlr, sa, sA, ia, la, q_srsr, q_sRsR, Option.bind_some, if_true, if_false, reduceIte, ite_not, not_true_eq_false, not_false_eq_true, q_z1, Nat.reduceEqDiff]
          · rw [← q2]
            simp (disch := omega) only [fX12_isTaken_2, m2, e3, l_0, l_1, l_2, l_3, l_4, l_5, l_6, l_7, l_8, l_9, l_10, l_11, l_12, l_13, l_14, l_15, l_16, l_17, l_18, l_19, l_20, l_21, l_22, l_23, l_24, l_25, l_30, l_31, l_32, l_40, l_48, l_54, l_57, l_59, l_60, l_61, l_62, l_63, l_65, l_66, l_72, l_82, l_92, l_93, l_94, l_97, l_99, l_100, l_101, l_102, l_103, l_104, l_105, l_107, l_108, l_109, l_110, l_111, l_112, l_114, l_115, l_116, l_117, l_119, l_121, l_122, l_136, l_200, l_255, l_300, l_364, l_900, l_1000, l_1456, l_1458, l_1459, l_1460, l_1462, l_1471, l_1504, l_1510, l_1522, l_1550, l_2971, l_9999, l_10000, l_10979, l_65536, l_m1, nI_add, pk_mul, q_sub, q_ltT, q_ltF, q_leT, q_leF, q_eqT, q_eqF, q_inT, q_inF, nI_clamp, q_mlt, q_mle, q_mne, q_mne2, q_mnlt, q_mnle, q_gi, q_gil, q_gir, q_giR, q_gl, q_gli, q_glr, q_glR, q_ra, q_rai, q_ral, q_raR, q_rl, q_rli, q_rll, q_rlr, sa, sA, ia, la, q_srsr, q_sRsR, Option.bind_some, if_true, if_false, reduceIte, ite_not, not_true_eq_false, not_false_eq_true, q_z1, Nat.reduceEqDiff]
        · right
          refine ⟨?_, ?_⟩
          · rw [← q1]
            simp (disch := omega) only [fX8_isFreeSeatHere_14, h8, e1, hr, l_0, l_1, l_2, l_3, l_4, l_5, l_6, l_7, l_8, l_9, l_10, l_11, l_12, l_13, l_14, l_15, l_16, l_17, l_18, l_19, l_20, l_21, l_22, l_23, l_24, l_25, l_30, l_31, l_32, l_40, l_48, l_54, l_57, l_59, l_60, l_61, l_62, l_63, l_65, l_66, l_72, l_82, l_92, l_93, l_94, l_97, l_99, l_100, l_101, l_102, l_103, l_104, l_105, l_107, l_108, l_109, l_110, l_111, l_112, l_114, l_115, l_116, l_117, l_119, l_121, l_122, l_136, l_200, l_255, l_300, l_364, l_900, l_1000, l_1456, l_1458, l_1459, l_1460, l_1462, l_1471, l_1504, l_1510, l_1522, l_1550, l_2971, l_9999, l_10000, l_10979, l_65536, l_m1, nI_add, pk_mul, q_sub, q_ltT, q_ltF, q_leT, q_leF, q_eqT, q_eqF, q_inT, q_inF, nI_clamp, q_mlt, q_mle, q_mne, q_mne2, q_mnlt, q_mnle, q_gi, q_gil, q_gir, q_giR, q_gl, q_gli, q_glr, q_glR, q_ra, q_rai, q_ral, q_raR, q_rl, q_rli, q_rll, q_rlr, sa, sA, ia, la, q_srsr, q_sRsR, Option.bind_some, if_true, if_false, reduceIte, ite_not, not_true_eq_false, not_false_eq_true, q_z1, Nat.reduceEqDiff]
          · rw [← q2]
            simp (disch := omega) only [fX12_isTaken_2, m2, e3, l_0, l_1, l_2, l_3, l_4, l_5, l_6, l_7, l_8, l_9, l_10, l_11, l_12, l_13, l_14, l_15, l_16, l_17, l_18, l_19, l_20, l_21, l_22, l_23, l_24, l_25, l_30, l_31, l_32, l_40, l_48, l_54, l_57, l_59, l_60, l_61, l_62, l_63, l_65, l_66, l_72, l_82, l_92, l_93, l_94, l_97, l_99, l_100, l_101, l_102, l_103, l_104, l_105, l_107, l_108, l_109, l_110, l_111, l_112, l_114, l_115, l_116, l_117, l_119, l_121, l_122, l_136, l_200, l_255, l_300, l_364, l_900, l_1000, l_1456, l_1458, l_1459, l_1460, l_1462, l_1471, l_1504, l_1510, l_1522, l_1550, l_2971, l_9999, l_10000, l_10979, l_65536, l_m1, nI_add, pk_mul, q_sub, q_ltT, q_ltF, q_leT, q_leF, q_eqT, q_eqF, q_inT, q_inF, nI_clamp, q_mlt, q_mle, q_mne, q_mne2, q_mnlt, q_mnle, q_gi, q_gil, q_gir, q_giR, q_gl, q_gli, q_glr, q_glR, q_ra, q_rai, q_ral, q_raR, q_rl, q_rli, q_rll, q_rlr, sa, sA, ia, la, q_srsr, q_sRsR, Option.bind_some, if_true, if_false, reduceIte, ite_not, not_true_eq_false, not_false_eq_true, q_z1, Nat.reduceEqDiff]
  exact key (t 2) 0 FU FU (by omega) (by unfold FU; omega) (by unfold FU; omega)
theorem b_95 (h : bm M) (x y z u : Int32) : fX12_readTalker_95 M x y z u = some M := by
  obtain ⟨f, f1, f2, f3⟩ := h
  have nle : (nI f ≤ nI 0) = False := q_leF (by omega) (by omega)
  simp only [fX12_readTalker_95, f3, l_0, l_1, l_2, l_3, l_4, l_5, l_6, l_7, l_8, l_9, l_10, l_11, l_12, l_13, l_14, l_15, l_16, l_17, l_18, l_19, l_20, l_21, l_22, l_23, l_24, l_25, l_30, l_31, l_32, l_40, l_48, l_54, l_57, l_59, l_60, l_61, l_62, l_63, l_65, l_66, l_72, l_82, l_92, l_93, l_94, l_97, l_99, l_100, l_101, l_102, l_103, l_104, l_105, l_107, l_108, l_109, l_110, l_111, l_112, l_114, l_115, l_116, l_117, l_119, l_121, l_122, l_136, l_200, l_255, l_300, l_364, l_900, l_1000, l_1456, l_1458, l_1459, l_1460, l_1462, l_1471, l_1504, l_1510, l_1522, l_1550, l_2971, l_9999, l_10000, l_10979, l_65536, l_m1, nle, if_false]
theorem b_50 (h : bm M) (x : Int32) : fX12_readTalker_50 M x = some M := by
  have b1 := b_count h (nI 0) (nI 9)
  have b3 := b_must h
  have b4 := b_readTold h (nI 4) (nI 0)
  have b5 := b_perhaps h
  have b6 := b_95 h
  simp only [fX12_readTalker_50, l_0, l_1, l_2, l_3, l_4, l_5, l_6, l_7, l_8, l_9, l_10, l_11, l_12, l_13, l_14, l_15, l_16, l_17, l_18, l_19, l_20, l_21, l_22, l_23, l_24, l_25, l_30, l_31, l_32, l_40, l_48, l_54, l_57, l_59, l_60, l_61, l_62, l_63, l_65, l_66, l_72, l_82, l_92, l_93, l_94, l_97, l_99, l_100, l_101, l_102, l_103, l_104, l_105, l_107, l_108, l_109, l_110, l_111, l_112, l_114, l_115, l_116, l_117, l_119, l_121, l_122, l_136, l_200, l_255, l_300, l_364, l_900, l_1000, l_1456, l_1458, l_1459, l_1460, l_1462, l_1471, l_1504, l_1510, l_1522, l_1550, l_2971, l_9999, l_10000, l_10979, l_65536, l_m1, b1, w_10, b3, b4, w_11, b5, b6, if_true, Option.bind_some]
theorem b_talker {M2 : ms_T} {x : Int32} (h : fX12_readNew M (nI 2) (nI 6) = some (x, M2)) (hb : bm M2) : fX12_readTalker M = some M2 := by
  have b3 := b_must hb
  have b4 := b_stands hb
  have b5 := b_50 hb
  obtain ⟨f, f1, f2, f3⟩ := hb
  have n0 : (nI f = nI 0) = False := q_eqF (by omega) (by omega) (by omega)
  simp only [fX12_readTalker, l_0, l_1, l_2, l_3, l_4, l_5, l_6, l_7, l_8, l_9, l_10, l_11, l_12, l_13, l_14, l_15, l_16, l_17, l_18, l_19, l_20, l_21, l_22, l_23, l_24, l_25, l_30, l_31, l_32, l_40, l_48, l_54, l_57, l_59, l_60, l_61, l_62, l_63, l_65, l_66, l_72, l_82, l_92, l_93, l_94, l_97, l_99, l_100, l_101, l_102, l_103, l_104, l_105, l_107, l_108, l_109, l_110, l_111, l_112, l_114, l_115, l_116, l_117, l_119, l_121, l_122, l_136, l_200, l_255, l_300, l_364, l_900, l_1000, l_1456, l_1458, l_1459, l_1460, l_1462, l_1471, l_1504, l_1510, l_1522, l_1550, l_2971, l_9999, l_10000, l_10979, l_65536, l_m1, h, w_9, b3, b4, b5, f3, n0, if_false, Option.bind_some]
/-- perhaps a word stands -/
theorem k_perh1 (h : gi M 12 = nI 0) : fX12_perhaps M (nI 1) = (fX12_advance M).bind fun z => some (nI 1, z) := by
  have lt : (nI 0 < nI 0) = False := q_ltF (by omega) (by omega)
  simp only [fX12_perhaps, h, lt, n_10, l_0, l_1, l_2, l_3, l_4, l_5, l_6, l_7, l_8, l_9, l_10, l_11, l_12, l_13, l_14, l_15, l_16, l_17, l_18, l_19, l_20, l_21, l_22, l_23, l_24, l_25, l_30, l_31, l_32, l_40, l_48, l_54, l_57, l_59, l_60, l_61, l_62, l_63, l_65, l_66, l_72, l_82, l_92, l_93, l_94, l_97, l_99, l_100, l_101, l_102, l_103, l_104, l_105, l_107, l_108, l_109, l_110, l_111, l_112, l_114, l_115, l_116, l_117, l_119, l_121, l_122, l_136, l_200, l_255, l_300, l_364, l_900, l_1000, l_1456, l_1458, l_1459, l_1460, l_1462, l_1471, l_1504, l_1510, l_1522, l_1550, l_2971, l_9999, l_10000, l_10979, l_65536, l_m1, if_false]
theorem k_perh0 (h : gi M 12 = nI 0) : fX12_perhaps M (nI 0) = some (nI 0, M) := by
  have lt : (nI 0 < nI 0) = False := q_ltF (by omega) (by omega)
  simp only [fX12_perhaps, h, lt, l_0, l_1, l_2, l_3, l_4, l_5, l_6, l_7, l_8, l_9, l_10, l_11, l_12, l_13, l_14, l_15, l_16, l_17, l_18, l_19, l_20, l_21, l_22, l_23, l_24, l_25, l_30, l_31, l_32, l_40, l_48, l_54, l_57, l_59, l_60, l_61, l_62, l_63, l_65, l_66, l_72, l_82, l_92, l_93, l_94, l_97, l_99, l_100, l_101, l_102, l_103, l_104, l_105, l_107, l_108, l_109, l_110, l_111, l_112, l_114, l_115, l_116, l_117, l_119, l_121, l_122, l_136, l_200, l_255, l_300, l_364, l_900, l_1000, l_1456, l_1458, l_1459, l_1460, l_1462, l_1471, l_1504, l_1510, l_1522, l_1550, l_2971, l_9999, l_10000, l_10979, l_65536, l_m1, if_false, if_true]
theorem rd_w (h : rd B R M g n a e k wn) {j : Nat} (hj : j < 26) : (wn = j ∧ (gi R 7 = nI j) = True ∧ bi (wb M j) = nI 1) ∨ (wn ≠ j ∧ (gi R 7 = nI j) = False ∧ bi (wb M j) = nI 0) := by
  have e1 := wnI_eq (wn := wn) (j := j) h.2.2.2.1 hj
  have e2 := h.2.2.2.2.2.1 j hj
  have e3 := h.2.2.2.2.1
  by_cases c : wn = j
  · exact Or.inl ⟨c, by rw [e3, e1]; exact eq_true c, by rw [e2, decide_eq_true c]; rfl⟩
  · exact Or.inr ⟨c, by rw [e3, e1]; exact eq_false c, by rw [e2, decide_eq_false c]; rfl⟩
end Q82
