section Q57
variable {T M W : ms_T} {t : Nat → Nat} {g : Nat}
/-- the first saying from a that leads to a height of layer m -/
def nx (t : Nat → Nat) (g m a i q : Nat) : Prop := i < t 1 * 4 ∧ nrb (t (24 + i / 4) + 1) a = true ∧ evv t (i / 4) (i % 4) = nI q ∧ q ≤ t 0 ∧ rx t g m q ∧ ∀ j q', j < i → q' ≤ t 0 → nrb (t (24 + j / 4) + 1) a = true → evv t (j / 4) (j % 4) = nI q' → ¬ rx t g m q'
theorem nx_of {m a : Nat} (hx : rx t g (m + 1) a) : ∃ i q, nx t g m a i q := by
  obtain ⟨_, _, q, q1, ⟨k, b, k1, k2, k3, k4⟩, q3⟩ := rx_b hx
  have key : ∀ n, (∃ i q, i < n ∧ i < t 1 * 4 ∧ nrb (t (24 + i / 4) + 1) a = true ∧ evv t (i / 4) (i % 4) = nI q ∧ q ≤ t 0 ∧ rx t g m q) → ∃ i q, nx t g m a i q := by
    intro n
    induction n with
    | zero => intro ⟨i, q, h, _⟩; omega
    | succ n ih =>
      intro ⟨i, q, h1, h2, h3, h4, h5, h6⟩
      by_cases c : ∃ j q', j < i ∧ q' ≤ t 0 ∧ nrb (t (24 + j / 4) + 1) a = true ∧ evv t (j / 4) (j % 4) = nI q' ∧ rx t g m q'
      · obtain ⟨j, q', c1, c2, c3, c4, c5⟩ := c
        exact ih ⟨j, q', by omega, by omega, c3, c4, c2, c5⟩
      · exact ⟨i, q, h2, h3, h4, h5, h6, fun j q' c1 c2 c3 c4 c5 => c ⟨j, q', c1, c2, c3, c4, c5⟩⟩
  refine key (k * 4 + b + 1) ⟨k * 4 + b, q, by omega, by omega, ?_, ?_, q1, q3⟩
  · rw [show (k * 4 + b) / 4 = k by omega]; exact k3
  · rw [show (k * 4 + b) / 4 = k by omega, show (k * 4 + b) % 4 = b by omega]; exact k4
theorem hz_v (w : tb_W t) {n q : Nat} {v : Int32} (h : hz t g q v) (hn : n < 100) : v = nI n ↔ rx t g n q := by
  have w0 := w.1
  rcases h with ⟨m, h1, h2, rfl⟩ | ⟨h1, rfl⟩
  · rw [nI_eq (by omega) (by omega)]
    exact ⟨fun e => e ▸ h2, fun e => rx_u h2 e⟩
  · rw [nI_eq (by omega) (by omega)]
    exact ⟨fun e => by omega, fun e => absurd e.1 (h1 n)⟩
theorem W_next (w : tb_W t) (h : tb_C T t) (hw : wy W t) {f : Nat → Int32} (hf : ∀ q, q ≤ t 0 → hz t g q (f q)) {m a i q : Nat} (hm : m < 9) (ha : a ≤ t 0) (hx : rx t g (m + 1) a) (hi : nx t g m a i q) : fX10_nextSaying (sr W 2 f) T (nI a) = some (nI i) := by
  obtain ⟨i1, i2, i3, i4, i5, i6⟩ := hi
  have w0 := w.1
  have w1 := w.2.1
  have h2 := h.2.2.1
  have fa := (hz_v w (hf a ha) (by omega)).mpr hx
  unfold fX10_nextSaying
  obtain ⟨r, e, rfl⟩ := lp_up (σ := Unit) (fun x j _ => fX10_nextSaying_2 (sr W 2 f) T x (nI a) j) (t 1 * 4) (fun j _ => j ≤ i) (fun r => r = nI i)
    (fun x _ hj => by omega)
    (fun x j _ hj hji => by
      have ei := wy_i hw hj
      have en := T_isNear w h (k := j / 4) (a := a) (by omega) (by omega)
      have ed : nI j / nI 4 = nI (j / 4) := pk_div (by omega) (by omega) (by omega)
      rcases evv_n w (k := j / 4) (b := j % 4) (by omega) with d | ⟨q', hq', d⟩
      · left
        refine ⟨(), ?_, ?_⟩
        · by_cases c : j = i
          · subst c; rw [d, q_mne (by omega)] at i3; cases i3
          · omega
        · rw [d] at ei
          simp (disch := omega) only [fX10_nextSaying_2, fX10_nextSaying_44, h2, ei, l_0, l_1, l_2, l_3, l_4, l_5, l_6, l_7, l_8, l_9, l_10, l_11, l_12, l_13, l_14, l_15, l_16, l_17, l_18, l_19, l_20, l_21, l_22, l_23, l_24, l_25, l_30, l_31, l_32, l_40, l_48, l_54, l_57, l_59, l_60, l_61, l_62, l_63, l_65, l_66, l_72, l_82, l_92, l_93, l_94, l_97, l_99, l_100, l_101, l_102, l_103, l_104, l_105, l_107, l_108, l_109, l_110, l_111, l_112, l_114, l_115, l_116, l_117, l_119, l_121, l_122, l_136, l_200, l_255, l_300, l_364, l_900, l_1000, l_1456, l_1458, l_1459, l_1460, l_1462, l_1471, l_1504, l_1510, l_1522, l_1550, l_2971, l_9999, l_10000, l_10979, l_65536, l_m1, nI_add, pk_mul, q_sub, q_ltT, q_ltF, q_leT, q_leF, q_eqT, q_eqF, q_inT, q_inF, nI_clamp, q_mlt, q_mle, q_mne, q_mne2, q_mnlt, q_mnle, q_gi, q_gil, q_gir, q_giR, q_gl, q_gli, q_glr, q_glR, q_ra, q_rai, q_ral, q_raR, q_rl, q_rli, q_rll, q_rlr, sa, sA, ia, la, q_srsr, q_sRsR, Option.bind_some, if_true, if_false, reduceIte, ite_not, not_true_eq_false, not_false_eq_true, q_z1, Nat.reduceEqDiff]
      · rw [d] at ei
        cases hn : nrb (t (24 + j / 4) + 1) a
        · rw [hn] at en
          left
          refine ⟨(), ?_, ?_⟩
          · by_cases c : j = i
            · subst c; rw [hn] at i2; cases i2
            · omega
          · simp (disch := omega) only [fX10_nextSaying_2, fX10_nextSaying_44, h2, ei, ed, en, bi, b2_0, l_0, l_1, l_2, l_3, l_4, l_5, l_6, l_7, l_8, l_9, l_10, l_11, l_12, l_13, l_14, l_15, l_16, l_17, l_18, l_19, l_20, l_21, l_22, l_23, l_24, l_25, l_30, l_31, l_32, l_40, l_48, l_54, l_57, l_59, l_60, l_61, l_62, l_63, l_65, l_66, l_72, l_82, l_92, l_93, l_94, l_97, l_99, l_100, l_101, l_102, l_103, l_104, l_105, l_107, l_108, l_109, l_110, l_111, l_112, l_114, l_115, l_116, l_117, l_119, l_121, l_122, l_136, l_200, l_255, l_300, l_364, l_900, l_1000, l_1456, l_1458, l_1459, l_1460, l_1462, l_1471, l_1504, l_1510, l_1522, l_1550, l_2971, l_9999, l_10000, l_10979, l_65536, l_m1, nI_add, pk_mul, q_sub, q_ltT, q_ltF, q_leT, q_leF, q_eqT, q_eqF, q_inT, q_inF, nI_clamp, q_mlt, q_mle, q_mne, q_mne2, q_mnlt, q_mnle, q_gi, q_gil, q_gir, q_giR, q_gl, q_gli, q_glr, q_glR, q_ra, q_rai, q_ral, q_raR, q_rl, q_rli, q_rll, q_rlr, sa, sA, ia, la, q_srsr, q_sRsR, Option.bind_some, if_true, if_false, reduceIte, ite_not, not_true_eq_false, not_false_eq_true, q_z1, Nat.reduceEqDiff]
        · rw [hn] at en
          by_cases c : rx t g m q'
          · right
            have e9 := (hz_v w (hf q' hq') (n := m) (by omega)).mpr c
            have ji : j = i := by
              by_cases cj : j = i
              · exact cj
              · exact absurd c (i6 j q' (by omega) hq' hn d)
            subst ji
            exact ⟨nI j, by simp (disch := omega) only [fX10_nextSaying_2, fX10_nextSaying_44, h2, ei, ed, en, e9, fa, Nat.add_sub_cancel, bi, b2_1, l_0, l_1, l_2, l_3, l_4, l_5, l_6, l_7, l_8, l_9, l_10, l_11, l_12, l_13, l_14, l_15, l_16, l_17, l_18, l_19, l_20, l_21, l_22, l_23, l_24, l_25, l_30, l_31, l_32, l_40, l_48, l_54, l_57, l_59, l_60, l_61, l_62, l_63, l_65, l_66, l_72, l_82, l_92, l_93, l_94, l_97, l_99, l_100, l_101, l_102, l_103, l_104, l_105, l_107, l_108, l_109, l_110, l_111, l_112, l_114, l_115, l_116, l_117, l_119, l_121, l_122, l_136, l_200, l_255, l_300, l_364, l_900, l_1000, l_1456, l_1458, l_1459, l_1460, l_1462, l_1471, l_1504, l_1510, l_1522, l_1550, l_2971, l_9999, l_10000, l_10979, l_65536, l_m1, nI_add, pk_mul, q_sub, q_ltT, q_ltF, q_leT, q_leF, q_eqT, q_eqF, q_inT, q_inF, nI_clamp, q_mlt, q_mle, q_mne, q_mne2, q_mnlt, q_mnle, q_gi, q_gil, q_gir, q_giR, q_gl, q_gli, q_glr, q_glR, q_ra, q_rai, q_ral, q_raR, q_rl, q_rli, q_rll, q_rlr, sa, sA, ia, la, q_srsr, q_sRsR, Option.bind_some, if_true, if_false, reduceIte, ite_not, not_true_eq_false, not_false_eq_true, q_z1, Nat.reduceEqDiff], rfl⟩
          · left
            have e9 : ¬ f q' = nI m := fun e => c ((hz_v w (hf q' hq') (by omega)).mp e)
            refine ⟨(), ?_, ?_⟩
            · by_cases cj : j = i
              · subst cj
                rw [d, nI_eq (by omega) (by omega)] at i3
                subst i3; exact absurd i5 c
              · omega
            · simp (disch := omega) only [fX10_nextSaying_2, fX10_nextSaying_44, h2, ei, ed, en, e9, fa, Nat.add_sub_cancel, bi, b2_1, l_0, l_1, l_2, l_3, l_4, l_5, l_6, l_7, l_8, l_9, l_10, l_11, l_12, l_13, l_14, l_15, l_16, l_17, l_18, l_19, l_20, l_21, l_22, l_23, l_24, l_25, l_30, l_31, l_32, l_40, l_48, l_54, l_57, l_59, l_60, l_61, l_62, l_63, l_65, l_66, l_72, l_82, l_92, l_93, l_94, l_97, l_99, l_100, l_101, l_102, l_103, l_104, l_105, l_107, l_108, l_109, l_110, l_111, l_112, l_114, l_115, l_116, l_117, l_119, l_121, l_122, l_136, l_200, l_255, l_300, l_364, l_900, l_1000, l_1456, l_1458, l_1459, l_1460, l_1462, l_1471, l_1504, l_1510, l_1522, l_1550, l_2971, l_9999, l_10000, l_10979, l_65536, l_m1, nI_add, pk_mul, q_sub, q_ltT, q_ltF, q_leT, q_leF, q_eqT, q_eqF, q_inT, q_inF, nI_clamp, q_mlt, q_mle, q_mne, q_mne2, q_mnlt, q_mnle, q_gi, q_gil, q_gir, q_giR, q_gl, q_gli, q_glr, q_glR, q_ra, q_rai, q_ral, q_raR, q_rl, q_rli, q_rll, q_rlr, sa, sA, ia, la, q_srsr, q_sRsR, Option.bind_some, if_true, if_false, reduceIte, ite_not, not_true_eq_false, not_false_eq_true, q_z1, Nat.reduceEqDiff]) 0 () FU (by omega) (Nat.zero_le _) (by unfold FU; omega)
  exact e
theorem N_first (w : tb_W t) (h : tb_N M t) {f : Nat → Int32} (hf : ∀ q, q ≤ t 0 → hdw t g 9 q (f q)) {m a i q : Nat} (hm : m < 9) (ha : a ≤ t 0) (hx : rx t g (m + 1) a) (hi : nx t g m a i q) : fX12_firstSaying (sr M 8 f) (nI a) = some (nI i) := by
  obtain ⟨i1, i2, i3, i4, i5, i6⟩ := hi
  have w0 := w.1
  have w1 := w.2.1
  have hN := N_sr8 (f := f) h
  have hu : ∀ i, i < 92 → ra M 5 i = nI (t i) := h
  have fa := (hdw_v (hf a ha) (n := m + 1) (by omega) (by omega)).mpr hx
  have key : ∀ d k x, k + d = t 1 → t 1 < x + k → 4 * k ≤ i → fX12_firstSaying_2 (sr M 8 f) x (nI a) (nI k) = some (nI i) := by
    intro d
    induction d with
    | zero => intro k x h1 h2 h3; omega
    | succ d ih =>
      intro k x h1 h2 h3
      obtain ⟨y, rfl⟩ : ∃ y, x = y + 1 := ⟨x - 1, by omega⟩
      have hk : k < t 1 := by omega
      have en := N_isNearTo w hN hk (a := a) (by omega)
      have inner : ∃ r, fX12_firstSaying_14 (sr M 8 f) (fX12_firstSaying_2 (sr M 8 f) y) FU (nI a) (nI k) (nI 0) = some r ∧ r = nI i := by
        refine lp_up (σ := Unit) (fun z b _ => fX12_firstSaying_14 (sr M 8 f) (fX12_firstSaying_2 (sr M 8 f) y) z (nI a) (nI k) b) 4 (fun b _ => 4 * k + b ≤ i) (fun r => r = nI i) ?_ ?_ 0 () FU (by omega) (by omega) (by unfold FU; omega)
        · intro z _ hb
          refine ⟨nI i, ?_, rfl⟩
          rw [← ih (k + 1) y (by omega) (by omega) (by omega)]
          simp (disch := omega) only [fX12_firstSaying_14, l_0, l_1, l_2, l_3, l_4, l_5, l_6, l_7, l_8, l_9, l_10, l_11, l_12, l_13, l_14, l_15, l_16, l_17, l_18, l_19, l_20, l_21, l_22, l_23, l_24, l_25, l_30, l_31, l_32, l_40, l_48, l_54, l_57, l_59, l_60, l_61, l_62, l_63, l_65, l_66, l_72, l_82, l_92, l_93, l_94, l_97, l_99, l_100, l_101, l_102, l_103, l_104, l_105, l_107, l_108, l_109, l_110, l_111, l_112, l_114, l_115, l_116, l_117, l_119, l_121, l_122, l_136, l_200, l_255, l_300, l_364, l_900, l_1000, l_1456, l_1458, l_1459, l_1460, l_1462, l_1471, l_1504, l_1510, l_1522, l_1550, l_2971, l_9999, l_10000, l_10979, l_65536, l_m1, nI_add, pk_mul, q_sub, q_ltT, q_ltF, q_leT, q_leF, q_eqT, q_eqF, q_inT, q_inF, nI_clamp, q_mlt, q_mle, q_mne, q_mne2, q_mnlt, q_mnle, Option.bind_some, if_true, if_false, reduceIte, ite_not, not_true_eq_false, not_false_eq_true, q_z1, Nat.reduceEqDiff]
        · intro z b _ hb hbi
          have ee := N_endOf w hN hk hb
          have eq1 : (4 * k + b) / 4 = k := by omega
          have eq2 : (4 * k + b) % 4 = b := by omega
          cases hn : nrb (t (24 + k) + 1) a
          · rw [hn] at en
            right
            have hne : i / 4 ≠ k := fun c => by rw [c, hn] at i2; cases i2
            refine ⟨nI i, ?_, rfl⟩
            rw [← ih (k + 1) y (by omega) (by omega) (by omega)]
            simp (disch := omega) only [fX12_firstSaying_14, en, bi, b2_0, l_0, l_1, l_2, l_3, l_4, l_5, l_6, l_7, l_8, l_9, l_10, l_11, l_12, l_13, l_14, l_15, l_16, l_17, l_18, l_19, l_20, l_21, l_22, l_23, l_24, l_25, l_30, l_31, l_32, l_40, l_48, l_54, l_57, l_59, l_60, l_61, l_62, l_63, l_65, l_66, l_72, l_82, l_92, l_93, l_94, l_97, l_99, l_100, l_101, l_102, l_103, l_104, l_105, l_107, l_108, l_109, l_110, l_111, l_112, l_114, l_115, l_116, l_117, l_119, l_121, l_122, l_136, l_200, l_255, l_300, l_364, l_900, l_1000, l_1456, l_1458, l_1459, l_1460, l_1462, l_1471, l_1504, l_1510, l_1522, l_1550, l_2971, l_9999, l_10000, l_10979, l_65536, l_m1, nI_add, pk_mul, q_sub, q_ltT, q_ltF, q_leT, q_leF, q_eqT, q_eqF, q_inT, q_inF, nI_clamp, q_mlt, q_mle, q_mne, q_mne2, q_mnlt, q_mnle, Option.bind_some, if_true, if_false, reduceIte, ite_not, not_true_eq_false, not_false_eq_true, q_z1, Nat.reduceEqDiff]
          · rw [hn] at en
            rcases evv_n w (k := k) (b := b) hk with d | ⟨q', hq', d⟩
            · left
              refine ⟨(), ?_, ?_⟩
              · by_cases c : 4 * k + b = i
                · subst c; rw [eq1, eq2, d, q_mne (by omega)] at i3; cases i3
                · omega
              · simp (disch := omega) only [fX12_firstSaying_14, en, ee, d, bi, b2_1, l_0, l_1, l_2, l_3, l_4, l_5, l_6, l_7, l_8, l_9, l_10, l_11, l_12, l_13, l_14, l_15, l_16, l_17, l_18, l_19, l_20, l_21, l_22, l_23, l_24, l_25, l_30, l_31, l_32, l_40, l_48, l_54, l_57, l_59, l_60, l_61, l_62, l_63, l_65, l_66, l_72, l_82, l_92, l_93, l_94, l_97, l_99, l_100, l_101, l_102, l_103, l_104, l_105, l_107, l_108, l_109, l_110, l_111, l_112, l_114, l_115, l_116, l_117, l_119, l_121, l_122, l_136, l_200, l_255, l_300, l_364, l_900, l_1000, l_1456, l_1458, l_1459, l_1460, l_1462, l_1471, l_1504, l_1510, l_1522, l_1550, l_2971, l_9999, l_10000, l_10979, l_65536, l_m1, nI_add, pk_mul, q_sub, q_ltT, q_ltF, q_leT, q_leF, q_eqT, q_eqF, q_inT, q_inF, nI_clamp, q_mlt, q_mle, q_mne, q_mne2, q_mnlt, q_mnle, Option.bind_some, if_true, if_false, reduceIte, ite_not, not_true_eq_false, not_false_eq_true, q_z1, Nat.reduceEqDiff]
            · by_cases c : rx t g m q'
              · right
                have e9 := (hdw_v (hf q' hq') (n := m) (by omega) (by omega)).mpr c
                have ji : 4 * k + b = i := by
                  by_cases cj : 4 * k + b = i
                  · exact cj
                  · exact absurd c (i6 (4 * k + b) q' (by omega) hq' (by rw [eq1]; exact hn) (by rw [eq1, eq2]; exact d))
                refine ⟨nI i, ?_, rfl⟩
                rw [← ji]
                simp (disch := omega) only [fX12_firstSaying_14, en, ee, d, e9, fa, Nat.add_sub_cancel, bi, b2_1, l_0, l_1, l_2, l_3, l_4, l_5, l_6, l_7, l_8, l_9, l_10, l_11, l_12, l_13, l_14, l_15, l_16, l_17, l_18, l_19, l_20, l_21, l_22, l_23, l_24, l_25, l_30, l_31, l_32, l_40, l_48, l_54, l_57, l_59, l_60, l_61, l_62, l_63, l_65, l_66, l_72, l_82, l_92, l_93, l_94, l_97, l_99, l_100, l_101, l_102, l_103, l_104, l_105, l_107, l_108, l_109, l_110, l_111, l_112, l_114, l_115, l_116, l_117, l_119, l_121, l_122, l_136, l_200, l_255, l_300, l_364, l_900, l_1000, l_1456, l_1458, l_1459, l_1460, l_1462, l_1471, l_1504, l_1510, l_1522, l_1550, l_2971, l_9999, l_10000, l_10979, l_65536, l_m1, nI_add, pk_mul, q_sub, q_ltT, q_ltF, q_leT, q_leF, q_eqT, q_eqF, q_inT, q_inF, nI_clamp, q_mlt, q_mle, q_mne, q_mne2, q_mnlt, q_mnle, q_gi, q_gil, q_gir, q_giR, q_gl, q_gli, q_glr, q_glR, q_ra, q_rai, q_ral, q_raR, q_rl, q_rli, q_rll, q_rlr, sa, sA, ia, la, q_srsr, q_sRsR, Option.bind_some, if_true, if_false, reduceIte, ite_not, not_true_eq_false, not_false_eq_true, q_z1, Nat.reduceEqDiff]
              · left
                have e9 : ¬ f q' = nI m := fun e => c ((hdw_v (hf q' hq') (by omega) (by omega)).mp e)
                refine ⟨(), ?_, ?_⟩
                · by_cases cj : 4 * k + b = i
                  · subst cj
                    rw [eq1, eq2, d, nI_eq (by omega) (by omega)] at i3
                    subst i3; exact absurd i5 c
                  · omega
                · simp (disch := omega) only [fX12_firstSaying_14, en, ee, d, e9, fa, Nat.add_sub_cancel, bi, b2_1, l_0, l_1, l_2, l_3, l_4, l_5, l_6, l_7, l_8, l_9, l_10, l_11, l_12, l_13, l_14, l_15, l_16, l_17, l_18, l_19, l_20, l_21, l_22, l_23, l_24, l_25, l_30, l_31, l_32, l_40, l_48, l_54, l_57, l_59, l_60, l_61, l_62, l_63, l_65, l_66, l_72, l_82, l_92, l_93, l_94, l_97, l_99, l_100, l_101, l_102, l_103, l_104, l_105, l_107, l_108, l_109, l_110, l_111, l_112, l_114, l_115, l_116, l_117, l_119, l_121, l_122, l_136, l_200, l_255, l_300, l_364, l_900, l_1000, l_1456, l_1458, l_1459, l_1460, l_1462, l_1471, l_1504, l_1510, l_1522, l_1550, l_2971, l_9999, l_10000, l_10979, l_65536, l_m1, nI_add, pk_mul, q_sub, q_ltT, q_ltF, q_leT, q_leF, q_eqT, q_eqF, q_inT, q_inF, nI_clamp, q_mlt, q_mle, q_mne, q_mne2, q_mnlt, q_mnle, q_gi, q_gil, q_gir, q_giR, q_gl, q_gli, q_glr, q_glR, q_ra, q_rai, q_ral, q_raR, q_rl, q_rli, q_rll, q_rlr, sa, sA, ia, la, q_srsr, q_sRsR, Option.bind_some, if_true, if_false, reduceIte, ite_not, not_true_eq_false, not_false_eq_true, q_z1, Nat.reduceEqDiff]
      obtain ⟨r, e, rfl⟩ := inner
      rw [← e]
      simp (disch := omega) only [fX12_firstSaying_2, hu, l_0, l_1, l_2, l_3, l_4, l_5, l_6, l_7, l_8, l_9, l_10, l_11, l_12, l_13, l_14, l_15, l_16, l_17, l_18, l_19, l_20, l_21, l_22, l_23, l_24, l_25, l_30, l_31, l_32, l_40, l_48, l_54, l_57, l_59, l_60, l_61, l_62, l_63, l_65, l_66, l_72, l_82, l_92, l_93, l_94, l_97, l_99, l_100, l_101, l_102, l_103, l_104, l_105, l_107, l_108, l_109, l_110, l_111, l_112, l_114, l_115, l_116, l_117, l_119, l_121, l_122, l_136, l_200, l_255, l_300, l_364, l_900, l_1000, l_1456, l_1458, l_1459, l_1460, l_1462, l_1471, l_1504, l_1510, l_1522, l_1550, l_2971, l_9999, l_10000, l_10979, l_65536, l_m1, nI_add, pk_mul, q_sub, q_ltT, q_ltF, q_leT, q_leF, q_eqT, q_eqF, q_inT, q_inF, nI_clamp, q_mlt, q_mle, q_mne, q_mne2, q_mnlt, q_mnle, q_gi, q_gil, q_gir, q_giR, q_gl, q_gli, q_glr, q_glR, q_ra, q_rai, q_ral, q_raR, q_rl, q_rli, q_rll, q_rlr, sa, sA, ia, la, q_srsr, q_sRsR, Option.bind_some, if_true, if_false, reduceIte, ite_not, not_true_eq_false, not_false_eq_true, q_z1, Nat.reduceEqDiff]
  exact key (t 1) 0 FU (by omega) (by unfold FU; omega) (by omega)
/-- what is told of a saying -/
def tl (v i q : Nat) : Nat := if v = 0 then i / 4 else if v = 1 then i % 4 else q
theorem way_walk (w : tb_W t) (hC : tb_C T t) (hN : tb_N M t) (hw : wy W t) {f f2 : Nat → Int32} (hf : ∀ q, q ≤ t 0 → hz t g q (f q)) (hf2 : ∀ q, q ≤ t 0 → hdw t g 9 q (f2 q)) {n v : Nat} (hn : n < 9) (hv : v < 3) : ∀ s m a x y, m ≤ 9 → a ≤ t 0 → rx t g m a → s < m → s ≤ n → s < x → s + 1 < y → ∃ i r, fX10_nextSaying (sr W 2 f) T (nI a) = some (nI i) ∧ fX10_tellSaying_10 (sr W 2 f) T x (nI n) (nI v) (nI i) (nI (n - s)) = some r ∧ ∀ v6, fX12_wayAt_88 y (sr M 8 f2) (nI n) (nI v) (nI a) v6 (nI (n - s)) = some (r, sr M 8 f2) := by
  have w0 := w.1
  have w1 := w.2.1
  have hN8 := N_sr8 (f := f2) hN
  intro s
  induction s with
  | zero =>
    intro m a x y hm ha hx hs hsn hfx hfy
    obtain ⟨m, rfl⟩ : ∃ k, m = k + 1 := ⟨m - 1, by omega⟩
    obtain ⟨x, rfl⟩ : ∃ k, x = k + 1 := ⟨x - 1, by omega⟩
    obtain ⟨y, rfl⟩ : ∃ k, y = k + 2 := ⟨y - 2, by omega⟩
    obtain ⟨i, q, hi⟩ := nx_of hx
    have e1 := W_next w hC hw hf (by omega) ha hx hi
    have e2 := N_first w hN hf2 (by omega) ha hx hi
    obtain ⟨i1, i2, i3, i4, i5, i6⟩ := hi
    have d1 : nI i / nI 4 = nI (i / 4) := pk_div (by omega) (by omega) (by omega)
    have d2 : i - i / 4 * 4 = i % 4 := by omega
    have e3 := N_endOf w hN8 (k := i / 4) (b := i % 4) (by omega) (by omega)
    rw [i3] at e3
    have ei := wy_i hw i1
    rw [i3] at ei
    refine ⟨i, nI (tl v i q), e1, ?_, fun v6 => ?_⟩
    · unfold tl
      rcases (by omega : v = 0 ∨ v = 1 ∨ v = 2) with rfl | rfl | rfl
      · simp (disch := omega) only [fX10_tellSaying_10, fX10_tellSaying_41, Nat.sub_zero, d1, l_0, l_1, l_2, l_3, l_4, l_5, l_6, l_7, l_8, l_9, l_10, l_11, l_12, l_13, l_14, l_15, l_16, l_17, l_18, l_19, l_20, l_21, l_22, l_23, l_24, l_25, l_30, l_31, l_32, l_40, l_48, l_54, l_57, l_59, l_60, l_61, l_62, l_63, l_65, l_66, l_72, l_82, l_92, l_93, l_94, l_97, l_99, l_100, l_101, l_102, l_103, l_104, l_105, l_107, l_108, l_109, l_110, l_111, l_112, l_114, l_115, l_116, l_117, l_119, l_121, l_122, l_136, l_200, l_255, l_300, l_364, l_900, l_1000, l_1456, l_1458, l_1459, l_1460, l_1462, l_1471, l_1504, l_1510, l_1522, l_1550, l_2971, l_9999, l_10000, l_10979, l_65536, l_m1, nI_add, pk_mul, q_sub, q_ltT, q_ltF, q_leT, q_leF, q_eqT, q_eqF, q_inT, q_inF, nI_clamp, q_mlt, q_mle, q_mne, q_mne2, q_mnlt, q_mnle, q_gi, q_gil, q_gir, q_giR, q_gl, q_gli, q_glr, q_glR, q_ra, q_rai, q_ral, q_raR, q_rl, q_rli, q_rll, q_rlr, sa, sA, ia, la, q_srsr, q_sRsR, Option.bind_some, if_true, if_false, reduceIte, ite_not, not_true_eq_false, not_false_eq_true, q_z1, Nat.reduceEqDiff]
      · simp (disch := omega) only [fX10_tellSaying_10, fX10_tellSaying_41, Nat.sub_zero, d1, d2, l_0, l_1, l_2, l_3, l_4, l_5, l_6, l_7, l_8, l_9, l_10, l_11, l_12, l_13, l_14, l_15, l_16, l_17, l_18, l_19, l_20, l_21, l_22, l_23, l_24, l_25, l_30, l_31, l_32, l_40, l_48, l_54, l_57, l_59, l_60, l_61, l_62, l_63, l_65, l_66, l_72, l_82, l_92, l_93, l_94, l_97, l_99, l_100, l_101, l_102, l_103, l_104, l_105, l_107, l_108, l_109, l_110, l_111, l_112, l_114, l_115, l_116, l_117, l_119, l_121, l_122, l_136, l_200, l_255, l_300, l_364, l_900, l_1000, l_1456, l_1458, l_1459, l_1460, l_1462, l_1471, l_1504, l_1510, l_1522, l_1550, l_2971, l_9999, l_10000, l_10979, l_65536, l_m1, nI_add, pk_mul, q_sub, q_ltT, q_ltF, q_leT, q_leF, q_eqT, q_eqF, q_inT, q_inF, nI_clamp, q_mlt, q_mle, q_mne, q_mne2, q_mnlt, q_mnle, q_gi, q_gil, q_gir, q_giR, q_gl, q_gli, q_glr, q_glR, q_ra, q_rai, q_ral, q_raR, q_rl, q_rli, q_rll, q_rlr, sa, sA, ia, la, q_srsr, q_sRsR, Option.bind_some, if_true, if_false, reduceIte, ite_not, not_true_eq_false, not_false_eq_true, q_z1, Nat.reduceEqDiff, Nat.one_ne_zero]
      · simp (disch := omega) only [fX10_tellSaying_10, fX10_tellSaying_41, fX10_tellSaying_52, Nat.sub_zero, ei, l_0, l_1, l_2, l_3, l_4, l_5, l_6, l_7, l_8, l_9, l_10, l_11, l_12, l_13, l_14, l_15, l_16, l_17, l_18, l_19, l_20, l_21, l_22, l_23, l_24, l_25, l_30, l_31, l_32, l_40, l_48, l_54, l_57, l_59, l_60, l_61, l_62, l_63, l_65, l_66, l_72, l_82, l_92, l_93, l_94, l_97, l_99, l_100, l_101, l_102, l_103, l_104, l_105, l_107, l_108, l_109, l_110, l_111, l_112, l_114, l_115, l_116, l_117, l_119, l_121, l_122, l_136, l_200, l_255, l_300, l_364, l_900, l_1000, l_1456, l_1458, l_1459, l_1460, l_1462, l_1471, l_1504, l_1510, l_1522, l_1550, l_2971, l_9999, l_10000, l_10979, l_65536, l_m1, nI_add, pk_mul, q_sub, q_ltT, q_ltF, q_leT, q_leF, q_eqT, q_eqF, q_inT, q_inF, nI_clamp, q_mlt, q_mle, q_mne, q_mne2, q_mnlt, q_mnle, q_gi, q_gil, q_gir, q_giR, q_gl, q_gli, q_glr, q_glR, q_ra, q_rai, q_ral, q_raR, q_rl, q_rli, q_rll, q_rlr, sa, sA, ia, la, q_srsr, q_sRsR, Option.bind_some, if_true, if_false, reduceIte, ite_not, not_true_eq_false, not_false_eq_true, q_z1, Nat.reduceEqDiff, Nat.reduceEqDiff]
    · unfold tl
      rcases (by omega : v = 0 ∨ v = 1 ∨ v = 2) with rfl | rfl | rfl
      · simp (disch := omega) only [fX12_wayAt_88, Nat.sub_zero, e2, l_4, d1, d2, e3, l_0, l_1, l_2, l_3, l_4, l_5, l_6, l_7, l_8, l_9, l_10, l_11, l_12, l_13, l_14, l_15, l_16, l_17, l_18, l_19, l_20, l_21, l_22, l_23, l_24, l_25, l_30, l_31, l_32, l_40, l_48, l_54, l_57, l_59, l_60, l_61, l_62, l_63, l_65, l_66, l_72, l_82, l_92, l_93, l_94, l_97, l_99, l_100, l_101, l_102, l_103, l_104, l_105, l_107, l_108, l_109, l_110, l_111, l_112, l_114, l_115, l_116, l_117, l_119, l_121, l_122, l_136, l_200, l_255, l_300, l_364, l_900, l_1000, l_1456, l_1458, l_1459, l_1460, l_1462, l_1471, l_1504, l_1510, l_1522, l_1550, l_2971, l_9999, l_10000, l_10979, l_65536, l_m1, nI_add, pk_mul, q_sub, q_ltT, q_ltF, q_leT, q_leF, q_eqT, q_eqF, q_inT, q_inF, nI_clamp, q_mlt, q_mle, q_mne, q_mne2, q_mnlt, q_mnle, q_gi, q_gil, q_gir, q_giR, q_gl, q_gli, q_glr, q_glR, q_ra, q_rai, q_ral, q_raR, q_rl, q_rli, q_rll, q_rlr, sa, sA, ia, la, q_srsr, q_sRsR, Option.bind_some, if_true, if_false, reduceIte, ite_not, not_true_eq_false, not_false_eq_true, q_z1, Nat.reduceEqDiff]
      · simp (disch := omega) only [fX12_wayAt_88, Nat.sub_zero, e2, l_4, d1, d2, e3, l_0, l_1, l_2, l_3, l_4, l_5, l_6, l_7, l_8, l_9, l_10, l_11, l_12, l_13, l_14, l_15, l_16, l_17, l_18, l_19, l_20, l_21, l_22, l_23, l_24, l_25, l_30, l_31, l_32, l_40, l_48, l_54, l_57, l_59, l_60, l_61, l_62, l_63, l_65, l_66, l_72, l_82, l_92, l_93, l_94, l_97, l_99, l_100, l_101, l_102, l_103, l_104, l_105, l_107, l_108, l_109, l_110, l_111, l_112, l_114, l_115, l_116, l_117, l_119, l_121, l_122, l_136, l_200, l_255, l_300, l_364, l_900, l_1000, l_1456, l_1458, l_1459, l_1460, l_1462, l_1471, l_1504, l_1510, l_1522, l_1550, l_2971, l_9999, l_10000, l_10979, l_65536, l_m1, nI_add, pk_mul, q_sub, q_ltT, q_ltF, q_leT, q_leF, q_eqT, q_eqF, q_inT, q_inF, nI_clamp, q_mlt, q_mle, q_mne, q_mne2, q_mnlt, q_mnle, q_gi, q_gil, q_gir, q_giR, q_gl, q_gli, q_glr, q_glR, q_ra, q_rai, q_ral, q_raR, q_rl, q_rli, q_rll, q_rlr, sa, sA, ia, la, q_srsr, q_sRsR, Option.bind_some, if_true, if_false, reduceIte, ite_not, not_true_eq_false, not_false_eq_true, q_z1, Nat.reduceEqDiff, Nat.one_ne_zero]
      · simp (disch := omega) only [fX12_wayAt_88, Nat.sub_zero, e2, l_4, d1, d2, e3, l_0, l_1, l_2, l_3, l_4, l_5, l_6, l_7, l_8, l_9, l_10, l_11, l_12, l_13, l_14, l_15, l_16, l_17, l_18, l_19, l_20, l_21, l_22, l_23, l_24, l_25, l_30, l_31, l_32, l_40, l_48, l_54, l_57, l_59, l_60, l_61, l_62, l_63, l_65, l_66, l_72, l_82, l_92, l_93, l_94, l_97, l_99, l_100, l_101, l_102, l_103, l_104, l_105, l_107, l_108, l_109, l_110, l_111, l_112, l_114, l_115, l_116, l_117, l_119, l_121, l_122, l_136, l_200, l_255, l_300, l_364, l_900, l_1000, l_1456, l_1458, l_1459, l_1460, l_1462, l_1471, l_1504, l_1510, l_1522, l_1550, l_2971, l_9999, l_10000, l_10979, l_65536, l_m1, nI_add, pk_mul, q_sub, q_ltT, q_ltF, q_leT, q_leF, q_eqT, q_eqF, q_inT, q_inF, nI_clamp, q_mlt, q_mle, q_mne, q_mne2, q_mnlt, q_mnle, q_gi, q_gil, q_gir, q_giR, q_gl, q_gli, q_glr, q_glR, q_ra, q_rai, q_ral, q_raR, q_rl, q_rli, q_rll, q_rlr, sa, sA, ia, la, q_srsr, q_sRsR, Option.bind_some, if_true, if_false, reduceIte, ite_not, not_true_eq_false, not_false_eq_true, q_z1, Nat.reduceEqDiff, Nat.reduceEqDiff]
  | succ s ih =>
    intro m a x y hm ha hx hs hsn hfx hfy
    obtain ⟨m, rfl⟩ : ∃ k, m = k + 1 := ⟨m - 1, by omega⟩
    obtain ⟨x, rfl⟩ : ∃ k, x = k + 1 := ⟨x - 1, by omega⟩
    obtain ⟨y, rfl⟩ : ∃ k, y = k + 1 := ⟨y - 1, by omega⟩
    obtain ⟨i, q, hi⟩ := nx_of hx
    have e1 := W_next w hC hw hf (by omega) ha hx hi
    have e2 := N_first w hN hf2 (by omega) ha hx hi
    obtain ⟨i1, i2, i3, i4, i5, i6⟩ := hi
    have d1 : nI i / nI 4 = nI (i / 4) := pk_div (by omega) (by omega) (by omega)
    have d2 : i - i / 4 * 4 = i % 4 := by omega
    have e3 := N_endOf w hN8 (k := i / 4) (b := i % 4) (by omega) (by omega)
    rw [i3] at e3
    have ei := wy_i hw i1
    rw [i3] at ei
    obtain ⟨i', r, k1, k2, k3⟩ := ih m q x y (by omega) i4 i5 (by omega) (by omega) (by omega) (by omega)
    have en : n - (s + 1) + 1 = n - s := by omega
    refine ⟨i, r, e1, ?_, fun v6 => ?_⟩
    · rw [← k2]
      simp (disch := omega) only [fX10_tellSaying_10, ei, k1, en, l_0, l_1, l_2, l_3, l_4, l_5, l_6, l_7, l_8, l_9, l_10, l_11, l_12, l_13, l_14, l_15, l_16, l_17, l_18, l_19, l_20, l_21, l_22, l_23, l_24, l_25, l_30, l_31, l_32, l_40, l_48, l_54, l_57, l_59, l_60, l_61, l_62, l_63, l_65, l_66, l_72, l_82, l_92, l_93, l_94, l_97, l_99, l_100, l_101, l_102, l_103, l_104, l_105, l_107, l_108, l_109, l_110, l_111, l_112, l_114, l_115, l_116, l_117, l_119, l_121, l_122, l_136, l_200, l_255, l_300, l_364, l_900, l_1000, l_1456, l_1458, l_1459, l_1460, l_1462, l_1471, l_1504, l_1510, l_1522, l_1550, l_2971, l_9999, l_10000, l_10979, l_65536, l_m1, nI_add, pk_mul, q_sub, q_ltT, q_ltF, q_leT, q_leF, q_eqT, q_eqF, q_inT, q_inF, nI_clamp, q_mlt, q_mle, q_mne, q_mne2, q_mnlt, q_mnle, q_gi, q_gil, q_gir, q_giR, q_gl, q_gli, q_glr, q_glR, q_ra, q_rai, q_ral, q_raR, q_rl, q_rli, q_rll, q_rlr, sa, sA, ia, la, q_srsr, q_sRsR, Option.bind_some, if_true, if_false, reduceIte, ite_not, not_true_eq_false, not_false_eq_true, q_z1, Nat.reduceEqDiff]
    · rw [← k3 (nI i)]
      simp (disch := omega) only [fX12_wayAt_88, e2, l_4, d1, d2, e3, en, l_0, l_1, l_2, l_3, l_4, l_5, l_6, l_7, l_8, l_9, l_10, l_11, l_12, l_13, l_14, l_15, l_16, l_17, l_18, l_19, l_20, l_21, l_22, l_23, l_24, l_25, l_30, l_31, l_32, l_40, l_48, l_54, l_57, l_59, l_60, l_61, l_62, l_63, l_65, l_66, l_72, l_82, l_92, l_93, l_94, l_97, l_99, l_100, l_101, l_102, l_103, l_104, l_105, l_107, l_108, l_109, l_110, l_111, l_112, l_114, l_115, l_116, l_117, l_119, l_121, l_122, l_136, l_200, l_255, l_300, l_364, l_900, l_1000, l_1456, l_1458, l_1459, l_1460, l_1462, l_1471, l_1504, l_1510, l_1522, l_1550, l_2971, l_9999, l_10000, l_10979, l_65536, l_m1, nI_add, pk_mul, q_sub, q_ltT, q_ltF, q_leT, q_leF, q_eqT, q_eqF, q_inT, q_inF, nI_clamp, q_mlt, q_mle, q_mne, q_mne2, q_mnlt, q_mnle, q_gi, q_gil, q_gir, q_giR, q_gl, q_gli, q_glr, q_glR, q_ra, q_rai, q_ral, q_raR, q_rl, q_rli, q_rll, q_rlr, sa, sA, ia, la, q_srsr, q_sRsR, Option.bind_some, if_true, if_false, reduceIte, ite_not, not_true_eq_false, not_false_eq_true, q_z1, Nat.reduceEqDiff]
end Q57
theorem o_wayAt : op_wayAt Rl := by
  intro SC SY0 SY1 SY2 SY3 SB ST0 SE0 ST2 SE2 ST3 SE3 ST4 SE4 SV0 SM SP0 SW hR a1 a2 a3 a4
  obtain ⟨hs, hF, hU, hT, ⟨hY0, hY1, hY2, hY3⟩, ⟨t, w, hC, hN0, n1, n2, n3, hE⟩, hK, hV⟩ := id hR
  have hN := tb_N0 hN0
  have hN2 : tb_N (si (si SM 1 (nI 0)) 0 (nI 0)) t := hN
  have hNu : ∀ i, i < 92 → ra SM 5 i = nI (t i) := hN
  obtain ⟨w0, w1, w2, w3, w4, w5, w6, w7, w8, w9⟩ := id w
  obtain ⟨h0, h1, h2, h3, h4, h5, h6, h7, h8, h9, h10, h11, h12, h13, h14, h15, h16⟩ := id hC
  have e1 := C_wayStatus w hC SC SP0 a1 a2
  have hN1 : tb_N (si SM 1 (nI 0)) t := hN
  have e2 := N_whyNoWay w hN1 a1 a2
  have bad : ∀ v : Nat, 0 < v → v < 10 → wys t a1 a2 = v → ∃ (z : Int32 × ms_T × ms_T) (w : Int32 × ms_T), fX11_wayAt SC SP0 ST0 SW a1 a2 a3 a4 = some z ∧ fX12_wayAt SM a1 a2 a3 a4 = some w ∧ z.1 = w.1 ∧ Rl z.2.1 SY0 SY1 SY2 SY3 SB ST0 SE0 ST2 SE2 ST3 SE3 ST4 SE4 SV0 w.2 := by
    intro v hv hv2 hv3
    rw [hv3] at e1 e2
    simp (disch := omega) only [fX11_wayAt, fX12_wayAt, fX12_wayAt_40, fX11_answer, fX11_refuse, fX11_deny, fX11_grant, fX12_refuse, fX12_no, e1, e2, l_0, l_1, l_2, l_3, l_4, l_5, l_6, l_7, l_8, l_9, l_10, l_11, l_12, l_13, l_14, l_15, l_16, l_17, l_18, l_19, l_20, l_21, l_22, l_23, l_24, l_25, l_30, l_31, l_32, l_40, l_48, l_54, l_57, l_59, l_60, l_61, l_62, l_63, l_65, l_66, l_72, l_82, l_92, l_93, l_94, l_97, l_99, l_100, l_101, l_102, l_103, l_104, l_105, l_107, l_108, l_109, l_110, l_111, l_112, l_114, l_115, l_116, l_117, l_119, l_121, l_122, l_136, l_200, l_255, l_300, l_364, l_900, l_1000, l_1456, l_1458, l_1459, l_1460, l_1462, l_1471, l_1504, l_1510, l_1522, l_1550, l_2971, l_9999, l_10000, l_10979, l_65536, l_m1, nI_add, pk_mul, q_sub, q_ltT, q_ltF, q_leT, q_leF, q_eqT, q_eqF, q_inT, q_inF, nI_clamp, q_mlt, q_mle, q_mne, q_mne2, q_mnlt, q_mnle, q_gi, q_gil, q_gir, q_giR, q_gl, q_gli, q_glr, q_glR, q_ra, q_rai, q_ral, q_raR, q_rl, q_rli, q_rll, q_rlr, sa, sA, ia, la, q_srsr, q_sRsR, Option.bind_some, if_true, if_false, reduceIte, ite_not, not_true_eq_false, not_false_eq_true, q_z1, Nat.reduceEqDiff]
    exact ⟨_, _, rfl, rfl, rfl, rl_st hR _⟩
  rcases wys_c w a1 a2 with c | ⟨c, a, g, rfl, ha1, ha, rfl, hg⟩
  · rcases c with c | c
    · exact bad 2 (by omega) (by omega) c
    · exact bad 5 (by omega) (by omega) c
  · rw [c] at e1 e2
    have i4 : fX12_isIn a4.toInt64 (0 : Int64) (2 : Int64) = some (bi (inb a4 3)) := q_isInL a4 3 (by omega) (by decide)
    rcases q_ix a4 3 (by omega) with ⟨h, e⟩ | ⟨h, h2', e⟩ | ⟨v, hv, rfl⟩
    · rw [e] at i4
      simp (disch := omega) only [fX11_wayAt, fX12_wayAt, fX11_wayAt_31, fX12_wayAt_40, fX11_answer, fX11_refuse, fX11_deny, fX11_grant, fX12_refuse, fX12_no, e1, e2, i4, h, bi, b2_0, l_0, l_1, l_2, l_3, l_4, l_5, l_6, l_7, l_8, l_9, l_10, l_11, l_12, l_13, l_14, l_15, l_16, l_17, l_18, l_19, l_20, l_21, l_22, l_23, l_24, l_25, l_30, l_31, l_32, l_40, l_48, l_54, l_57, l_59, l_60, l_61, l_62, l_63, l_65, l_66, l_72, l_82, l_92, l_93, l_94, l_97, l_99, l_100, l_101, l_102, l_103, l_104, l_105, l_107, l_108, l_109, l_110, l_111, l_112, l_114, l_115, l_116, l_117, l_119, l_121, l_122, l_136, l_200, l_255, l_300, l_364, l_900, l_1000, l_1456, l_1458, l_1459, l_1460, l_1462, l_1471, l_1504, l_1510, l_1522, l_1550, l_2971, l_9999, l_10000, l_10979, l_65536, l_m1, nI_add, pk_mul, q_sub, q_ltT, q_ltF, q_leT, q_leF, q_eqT, q_eqF, q_inT, q_inF, nI_clamp, q_mlt, q_mle, q_mne, q_mne2, q_mnlt, q_mnle, q_gi, q_gil, q_gir, q_giR, q_gl, q_gli, q_glr, q_glR, q_ra, q_rai, q_ral, q_raR, q_rl, q_rli, q_rll, q_rlr, sa, sA, ia, la, q_srsr, q_sRsR, Option.bind_some, if_true, if_false, reduceIte, ite_not, not_true_eq_false, not_false_eq_true, q_z1, Nat.reduceEqDiff]
      exact ⟨_, _, rfl, rfl, rfl, rl_st2 hR _ _⟩
    · rw [e] at i4
      have n2 : ¬ a4 ≤ nI 2 := fun k => by
        have := Int32.le_trans h k
        rw [q_leF (by omega) (by omega)] at this; exact this
      simp (disch := omega) only [fX11_wayAt, fX12_wayAt, fX11_wayAt_31, fX12_wayAt_40, fX11_answer, fX11_refuse, fX11_deny, fX11_grant, fX12_refuse, fX12_no, e1, e2, i4, h2', n2, bi, b2_0, l_0, l_1, l_2, l_3, l_4, l_5, l_6, l_7, l_8, l_9, l_10, l_11, l_12, l_13, l_14, l_15, l_16, l_17, l_18, l_19, l_20, l_21, l_22, l_23, l_24, l_25, l_30, l_31, l_32, l_40, l_48, l_54, l_57, l_59, l_60, l_61, l_62, l_63, l_65, l_66, l_72, l_82, l_92, l_93, l_94, l_97, l_99, l_100, l_101, l_102, l_103, l_104, l_105, l_107, l_108, l_109, l_110, l_111, l_112, l_114, l_115, l_116, l_117, l_119, l_121, l_122, l_136, l_200, l_255, l_300, l_364, l_900, l_1000, l_1456, l_1458, l_1459, l_1460, l_1462, l_1471, l_1504, l_1510, l_1522, l_1550, l_2971, l_9999, l_10000, l_10979, l_65536, l_m1, nI_add, pk_mul, q_sub, q_ltT, q_ltF, q_leT, q_leF, q_eqT, q_eqF, q_inT, q_inF, nI_clamp, q_mlt, q_mle, q_mne, q_mne2, q_mnlt, q_mnle, q_gi, q_gil, q_gir, q_giR, q_gl, q_gli, q_glr, q_glR, q_ra, q_rai, q_ral, q_raR, q_rl, q_rli, q_rll, q_rlr, sa, sA, ia, la, q_srsr, q_sRsR, Option.bind_some, if_true, if_false, reduceIte, ite_not, not_true_eq_false, not_false_eq_true, q_z1, Nat.reduceEqDiff]
      exact ⟨_, _, rfl, rfl, rfl, rl_st2 hR _ _⟩
    · rw [q_inT hv (by omega)] at i4
      obtain ⟨W', f, x, s1, s2, s3, s4⟩ := W_sayingsTo (W := SW) w hC ha hg
      obtain ⟨f2, p1, p2⟩ := N_laysWays w hN2 hg
      have r8 : ∀ u, Rl (si SC 0 u) SY0 SY1 SY2 SY3 SB ST0 SE0 ST2 SE2 ST3 SE3 ST4 SE4 SV0 (si (sr (si (si SM 1 (nI 0)) 0 (nI 0)) 8 f2) 0 u) := fun u => ⟨rfl, hR.2⟩
      rcases s4 with ⟨m, m1, m2, rfl⟩ | ⟨m1, rfl⟩
      · have q1 := (hdw_v (p2 a ha) (n := m) (by omega) (by omega)).mpr m2
        have i3 : fX12_isIn a3.toInt64 (0 : Int64) ((nI m - nI 1).toInt64) = some (bi (inb a3 m)) := q_isInN a3 (by omega) (q_pred (by omega))
        rcases q_ix a3 m (by omega) with ⟨h, e⟩ | ⟨h, h2', e⟩ | ⟨n, hn, rfl⟩
        · rw [e] at i3
          simp (disch := omega) only [fX11_wayAt, fX12_wayAt, fX11_wayAt_65, fX12_wayAt_40, fX11_answer, fX11_refuse, fX11_deny, fX11_grant, fX12_refuse, fX12_no, e1, e2, i4, s1, p1, q1, h, bi, b2_1, l_0, l_1, l_2, l_3, l_4, l_5, l_6, l_7, l_8, l_9, l_10, l_11, l_12, l_13, l_14, l_15, l_16, l_17, l_18, l_19, l_20, l_21, l_22, l_23, l_24, l_25, l_30, l_31, l_32, l_40, l_48, l_54, l_57, l_59, l_60, l_61, l_62, l_63, l_65, l_66, l_72, l_82, l_92, l_93, l_94, l_97, l_99, l_100, l_101, l_102, l_103, l_104, l_105, l_107, l_108, l_109, l_110, l_111, l_112, l_114, l_115, l_116, l_117, l_119, l_121, l_122, l_136, l_200, l_255, l_300, l_364, l_900, l_1000, l_1456, l_1458, l_1459, l_1460, l_1462, l_1471, l_1504, l_1510, l_1522, l_1550, l_2971, l_9999, l_10000, l_10979, l_65536, l_m1, nI_add, q_ltT, q_ltF, q_leT, q_leF, q_eqT, q_eqF, q_inT, nI_clamp, q_gi, q_gil, q_gir, q_giR, q_gl, q_gli, q_glr, q_glR, q_ra, q_rai, q_ral, q_raR, q_rl, q_rli, q_rll, q_rlr, sa, sA, ia, la, q_srsr, q_sRsR, Option.bind_some, if_true, if_false, reduceIte, ite_not, not_true_eq_false, not_false_eq_true, q_z1, Nat.reduceEqDiff]
          rw [i3]
          simp (disch := omega) only [bi, b2_0, l_0, l_1, l_2, l_3, l_4, l_5, l_6, l_7, l_8, l_9, l_10, l_11, l_12, l_13, l_14, l_15, l_16, l_17, l_18, l_19, l_20, l_21, l_22, l_23, l_24, l_25, l_30, l_31, l_32, l_40, l_48, l_54, l_57, l_59, l_60, l_61, l_62, l_63, l_65, l_66, l_72, l_82, l_92, l_93, l_94, l_97, l_99, l_100, l_101, l_102, l_103, l_104, l_105, l_107, l_108, l_109, l_110, l_111, l_112, l_114, l_115, l_116, l_117, l_119, l_121, l_122, l_136, l_200, l_255, l_300, l_364, l_900, l_1000, l_1456, l_1458, l_1459, l_1460, l_1462, l_1471, l_1504, l_1510, l_1522, l_1550, l_2971, l_9999, l_10000, l_10979, l_65536, l_m1, nI_add, pk_mul, q_sub, q_ltT, q_ltF, q_leT, q_leF, q_eqT, q_eqF, q_inT, q_inF, nI_clamp, q_mlt, q_mle, q_mne, q_mne2, q_mnlt, q_mnle, q_gi, q_gil, q_gir, q_giR, q_gl, q_gli, q_glr, q_glR, q_ra, q_rai, q_ral, q_raR, q_rl, q_rli, q_rll, q_rlr, sa, sA, ia, la, q_srsr, q_sRsR, Option.bind_some, if_true, if_false, reduceIte, ite_not, not_true_eq_false, not_false_eq_true, q_z1, Nat.reduceEqDiff]
          exact ⟨_, _, rfl, rfl, rfl, r8 _⟩
        · rw [e] at i3
          have n2 : ¬ a3 < nI m := Int32.not_lt.mpr h
          simp (disch := omega) only [fX11_wayAt, fX12_wayAt, fX11_wayAt_65, fX12_wayAt_40, fX11_answer, fX11_refuse, fX11_deny, fX11_grant, fX12_refuse, fX12_no, e1, e2, i4, s1, p1, q1, h2', n2, bi, b2_1, l_0, l_1, l_2, l_3, l_4, l_5, l_6, l_7, l_8, l_9, l_10, l_11, l_12, l_13, l_14, l_15, l_16, l_17, l_18, l_19, l_20, l_21, l_22, l_23, l_24, l_25, l_30, l_31, l_32, l_40, l_48, l_54, l_57, l_59, l_60, l_61, l_62, l_63, l_65, l_66, l_72, l_82, l_92, l_93, l_94, l_97, l_99, l_100, l_101, l_102, l_103, l_104, l_105, l_107, l_108, l_109, l_110, l_111, l_112, l_114, l_115, l_116, l_117, l_119, l_121, l_122, l_136, l_200, l_255, l_300, l_364, l_900, l_1000, l_1456, l_1458, l_1459, l_1460, l_1462, l_1471, l_1504, l_1510, l_1522, l_1550, l_2971, l_9999, l_10000, l_10979, l_65536, l_m1, nI_add, q_ltT, q_ltF, q_leT, q_leF, q_eqT, q_eqF, q_inT, nI_clamp, q_gi, q_gil, q_gir, q_giR, q_gl, q_gli, q_glr, q_glR, q_ra, q_rai, q_ral, q_raR, q_rl, q_rli, q_rll, q_rlr, sa, sA, ia, la, q_srsr, q_sRsR, Option.bind_some, if_true, if_false, reduceIte, ite_not, not_true_eq_false, not_false_eq_true, q_z1, Nat.reduceEqDiff]
          rw [i3]
          simp (disch := omega) only [bi, b2_0, l_0, l_1, l_2, l_3, l_4, l_5, l_6, l_7, l_8, l_9, l_10, l_11, l_12, l_13, l_14, l_15, l_16, l_17, l_18, l_19, l_20, l_21, l_22, l_23, l_24, l_25, l_30, l_31, l_32, l_40, l_48, l_54, l_57, l_59, l_60, l_61, l_62, l_63, l_65, l_66, l_72, l_82, l_92, l_93, l_94, l_97, l_99, l_100, l_101, l_102, l_103, l_104, l_105, l_107, l_108, l_109, l_110, l_111, l_112, l_114, l_115, l_116, l_117, l_119, l_121, l_122, l_136, l_200, l_255, l_300, l_364, l_900, l_1000, l_1456, l_1458, l_1459, l_1460, l_1462, l_1471, l_1504, l_1510, l_1522, l_1550, l_2971, l_9999, l_10000, l_10979, l_65536, l_m1, nI_add, pk_mul, q_sub, q_ltT, q_ltF, q_leT, q_leF, q_eqT, q_eqF, q_inT, q_inF, nI_clamp, q_mlt, q_mle, q_mne, q_mne2, q_mnlt, q_mnle, q_gi, q_gil, q_gir, q_giR, q_gl, q_gli, q_glr, q_glR, q_ra, q_rai, q_ral, q_raR, q_rl, q_rli, q_rll, q_rlr, sa, sA, ia, la, q_srsr, q_sRsR, Option.bind_some, if_true, if_false, reduceIte, ite_not, not_true_eq_false, not_false_eq_true, q_z1, Nat.reduceEqDiff]
          exact ⟨_, _, rfl, rfl, rfl, r8 _⟩
        · rw [q_inT hn (by omega)] at i3
          obtain ⟨i, r, k1, k2, k3⟩ := way_walk w hC hN2 s2 s3 p2 (n := n) (v := v) (by omega) hv n m a FU FU (by omega) ha m2 hn (Nat.le_refl _) (by unfold FU; omega) (by unfold FU; omega)
          rw [Nat.sub_self] at k2 k3
          have k3' := k3 (nI 0)
          simp (disch := omega) only [fX11_wayAt, fX12_wayAt, fX10_tellSaying, fX12_wayAt_40, fX11_answer, fX11_refuse, fX11_deny, fX11_grant, fX12_refuse, fX12_no, e1, e2, i4, s1, p1, q1, k1, k2, bi, b2_1, l_0, l_1, l_2, l_3, l_4, l_5, l_6, l_7, l_8, l_9, l_10, l_11, l_12, l_13, l_14, l_15, l_16, l_17, l_18, l_19, l_20, l_21, l_22, l_23, l_24, l_25, l_30, l_31, l_32, l_40, l_48, l_54, l_57, l_59, l_60, l_61, l_62, l_63, l_65, l_66, l_72, l_82, l_92, l_93, l_94, l_97, l_99, l_100, l_101, l_102, l_103, l_104, l_105, l_107, l_108, l_109, l_110, l_111, l_112, l_114, l_115, l_116, l_117, l_119, l_121, l_122, l_136, l_200, l_255, l_300, l_364, l_900, l_1000, l_1456, l_1458, l_1459, l_1460, l_1462, l_1471, l_1504, l_1510, l_1522, l_1550, l_2971, l_9999, l_10000, l_10979, l_65536, l_m1, nI_add, q_ltT, q_ltF, q_leT, q_leF, q_eqT, q_eqF, q_inT, nI_clamp, q_gi, q_gil, q_gir, q_giR, q_gl, q_gli, q_glr, q_glR, q_ra, q_rai, q_ral, q_raR, q_rl, q_rli, q_rll, q_rlr, sa, sA, ia, la, q_srsr, q_sRsR, Option.bind_some, if_true, if_false, reduceIte, ite_not, not_true_eq_false, not_false_eq_true, q_z1, Nat.reduceEqDiff]
          rw [i3]
          simp (disch := omega) only [bi, b2_1, k3', l_0, l_1, l_2, l_3, l_4, l_5, l_6, l_7, l_8, l_9, l_10, l_11, l_12, l_13, l_14, l_15, l_16, l_17, l_18, l_19, l_20, l_21, l_22, l_23, l_24, l_25, l_30, l_31, l_32, l_40, l_48, l_54, l_57, l_59, l_60, l_61, l_62, l_63, l_65, l_66, l_72, l_82, l_92, l_93, l_94, l_97, l_99, l_100, l_101, l_102, l_103, l_104, l_105, l_107, l_108, l_109, l_110, l_111, l_112, l_114, l_115, l_116, l_117, l_119, l_121, l_122, l_136, l_200, l_255, l_300, l_364, l_900, l_1000, l_1456, l_1458, l_1459, l_1460, l_1462, l_1471, l_1504, l_1510, l_1522, l_1550, l_2971, l_9999, l_10000, l_10979, l_65536, l_m1, nI_add, pk_mul, q_sub, q_ltT, q_ltF, q_leT, q_leF, q_eqT, q_eqF, q_inT, q_inF, nI_clamp, q_mlt, q_mle, q_mne, q_mne2, q_mnlt, q_mnle, q_gi, q_gil, q_gir, q_giR, q_gl, q_gli, q_glr, q_glR, q_ra, q_rai, q_ral, q_raR, q_rl, q_rli, q_rll, q_rlr, sa, sA, ia, la, q_srsr, q_sRsR, Option.bind_some, if_true, if_false, reduceIte, ite_not, not_true_eq_false, not_false_eq_true, q_z1, Nat.reduceEqDiff]
          exact ⟨_, _, rfl, rfl, rfl, ⟨rfl, hR.2⟩⟩
      · have q1 : f2 a = nM := by
          rcases p2 a ha with ⟨m, _, x, _⟩ | ⟨_, x⟩
          · exact absurd x.1 (m1 m)
          · exact x
        have i3 : fX12_isIn a3.toInt64 (0 : Int64) ((nM - nI 1).toInt64) = some (nI 0) := by
          rw [q_isIn, decide_eq_false]
          · rfl
          · intro ⟨x, y⟩
            have z : ((nM - nI 1).toInt64).toInt = -2 := by decide
            rw [z] at y
            have z0 : (0 : Int64).toInt = 0 := by decide
            rw [z0] at x
            omega
        by_cases h : a3 < nI 0
        · simp (disch := omega) only [fX11_wayAt, fX12_wayAt, fX11_wayAt_65, fX12_wayAt_40, fX11_answer, fX11_refuse, fX11_deny, fX11_grant, fX12_refuse, fX12_no, e1, e2, i4, s1, p1, q1, i3, h, bi, b2_1, l_0, l_1, l_2, l_3, l_4, l_5, l_6, l_7, l_8, l_9, l_10, l_11, l_12, l_13, l_14, l_15, l_16, l_17, l_18, l_19, l_20, l_21, l_22, l_23, l_24, l_25, l_30, l_31, l_32, l_40, l_48, l_54, l_57, l_59, l_60, l_61, l_62, l_63, l_65, l_66, l_72, l_82, l_92, l_93, l_94, l_97, l_99, l_100, l_101, l_102, l_103, l_104, l_105, l_107, l_108, l_109, l_110, l_111, l_112, l_114, l_115, l_116, l_117, l_119, l_121, l_122, l_136, l_200, l_255, l_300, l_364, l_900, l_1000, l_1456, l_1458, l_1459, l_1460, l_1462, l_1471, l_1504, l_1510, l_1522, l_1550, l_2971, l_9999, l_10000, l_10979, l_65536, l_m1, nI_add, pk_mul, q_sub, q_ltT, q_ltF, q_leT, q_leF, q_eqT, q_eqF, q_inT, q_inF, nI_clamp, q_mlt, q_mle, q_mne, q_mne2, q_mnlt, q_mnle, q_gi, q_gil, q_gir, q_giR, q_gl, q_gli, q_glr, q_glR, q_ra, q_rai, q_ral, q_raR, q_rl, q_rli, q_rll, q_rlr, sa, sA, ia, la, q_srsr, q_sRsR, Option.bind_some, if_true, if_false, reduceIte, ite_not, not_true_eq_false, not_false_eq_true, q_z1, Nat.reduceEqDiff]
          exact ⟨_, _, rfl, rfl, rfl, r8 _⟩
        · have n2 : ¬ a3 < nM := fun k => h (Int32.lt_trans k (by decide))
          simp (disch := omega) only [fX11_wayAt, fX12_wayAt, fX11_wayAt_65, fX12_wayAt_40, fX11_answer, fX11_refuse, fX11_deny, fX11_grant, fX12_refuse, fX12_no, e1, e2, i4, s1, p1, q1, i3, h, n2, bi, b2_1, l_0, l_1, l_2, l_3, l_4, l_5, l_6, l_7, l_8, l_9, l_10, l_11, l_12, l_13, l_14, l_15, l_16, l_17, l_18, l_19, l_20, l_21, l_22, l_23, l_24, l_25, l_30, l_31, l_32, l_40, l_48, l_54, l_57, l_59, l_60, l_61, l_62, l_63, l_65, l_66, l_72, l_82, l_92, l_93, l_94, l_97, l_99, l_100, l_101, l_102, l_103, l_104, l_105, l_107, l_108, l_109, l_110, l_111, l_112, l_114, l_115, l_116, l_117, l_119, l_121, l_122, l_136, l_200, l_255, l_300, l_364, l_900, l_1000, l_1456, l_1458, l_1459, l_1460, l_1462, l_1471, l_1504, l_1510, l_1522, l_1550, l_2971, l_9999, l_10000, l_10979, l_65536, l_m1, nI_add, pk_mul, q_sub, q_ltT, q_ltF, q_leT, q_leF, q_eqT, q_eqF, q_inT, q_inF, nI_clamp, q_mlt, q_mle, q_mne, q_mne2, q_mnlt, q_mnle, q_gi, q_gil, q_gir, q_giR, q_gl, q_gli, q_glr, q_glR, q_ra, q_rai, q_ral, q_raR, q_rl, q_rli, q_rll, q_rlr, sa, sA, ia, la, q_srsr, q_sRsR, Option.bind_some, if_true, if_false, reduceIte, ite_not, not_true_eq_false, not_false_eq_true, q_z1, Nat.reduceEqDiff]
          exact ⟨_, _, rfl, rfl, rfl, r8 _⟩
