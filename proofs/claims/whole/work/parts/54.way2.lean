section Q54
variable {T M W : ms_T} {t : Nat → Nat} {g : Nat}
theorem N_sr8 {f : Nat → Int32} (h : tb_N M t) : tb_N (sr M 8 f) t := h
/-- has a saying from h been found that leads to a height of layer n? -/
def fl (t : Nat → Nat) (g n h : Nat) (s : Int32) (no : Prop) : Prop := (s = nI 1 ∧ ∃ q, q ≤ t 0 ∧ eg t h q ∧ rx t g n q) ∨ (s = nI 0 ∧ no)
theorem N_lays70 (w : tb_W t) (h : tb_N M t) {f : Nat → Int32} {n a k : Nat} (hn : n < 9) (hk : k < t 1) (ha : a < 100) (hf : ∀ q, q ≤ t 0 → (f q = nI n ↔ rx t g n q)) (k32 k40 k56) {s : Int32}
    (hs : fl t g n a s (∀ k' b q, k' < k → b < 4 → q ≤ t 0 → nrb (t (24 + k') + 1) a = true → evv t k' b = nI q → ¬ rx t g n q)) :
    ∃ s', fl t g n a s' (∀ k' b q, k' < k + 1 → b < 4 → q ≤ t 0 → nrb (t (24 + k') + 1) a = true → evv t k' b = nI q → ¬ rx t g n q) ∧ fX12_laysWays_70 k32 k40 k56 FU (sr M 8 f) (nI (n + 1)) (nI a) s (nI k) (nI 0) = k56 (sr M 8 f) (nI (n + 1)) (nI a) s' (nI (k + 1)) := by
  have w0 := w.1
  have w1 := w.2.1
  have hN := N_sr8 (f := f) h
  have en := N_isNearTo w hN hk ha
  obtain ⟨s', h1, h2⟩ := lp_eqx (fun x i s => fX12_laysWays_70 k32 k40 k56 x (sr M 8 f) (nI (n + 1)) (nI a) s (nI k) i) (fun s' => k56 (sr M 8 f) (nI (n + 1)) (nI a) s' (nI (k + 1))) 4
    (fun m s => fl t g n a s ((∀ k' b q, k' < k → b < 4 → q ≤ t 0 → nrb (t (24 + k') + 1) a = true → evv t k' b = nI q → ¬ rx t g n q) ∧ ∀ b q, b < m → q ≤ t 0 → nrb (t (24 + k) + 1) a = true → evv t k b = nI q → ¬ rx t g n q))
    (fun x s hs => by simp (disch := omega) only [fX12_laysWays_70, l_0, l_1, l_2, l_3, l_4, l_5, l_6, l_7, l_8, l_9, l_10, l_11, l_12, l_13, l_14, l_15, l_16, l_17, l_18, l_19, l_20, l_21, l_22, l_23, l_24, l_25, l_30, l_31, l_32, l_40, l_48, l_54, l_57, l_59, l_60, l_61, l_62, l_63, l_65, l_66, l_72, l_82, l_92, l_93, l_94, l_97, l_99, l_100, l_101, l_102, l_103, l_104, l_105, l_107, l_108, l_109, l_110, l_111, l_112, l_114, l_115, l_116, l_117, l_119, l_121, l_122, l_136, l_200, l_255, l_300, l_364, l_900, l_1000, l_1456, l_1458, l_1459, l_1460, l_1462, l_1471, l_1504, l_1510, l_1522, l_1550, l_2971, l_9999, l_10000, l_10979, l_65536, l_m1, nI_add, pk_mul, q_sub, q_ltT, q_ltF, q_leT, q_leF, q_eqT, q_eqF, q_inT, q_inF, nI_clamp, q_mlt, q_mle, q_mne, q_mne2, q_mnlt, q_mnle, Option.bind_some, if_true, if_false, reduceIte, ite_not, not_true_eq_false, not_false_eq_true, q_z1, Nat.reduceEqDiff])
    (fun x m s hm hs => by
      have ee := N_endOf w hN hk hm
      cases hc : nrb (t (24 + k) + 1) a
      · rw [hc] at en
        right
        refine ⟨s, ?_, by simp (disch := omega) only [fX12_laysWays_70, en, bi, b2_0, l_0, l_1, l_2, l_3, l_4, l_5, l_6, l_7, l_8, l_9, l_10, l_11, l_12, l_13, l_14, l_15, l_16, l_17, l_18, l_19, l_20, l_21, l_22, l_23, l_24, l_25, l_30, l_31, l_32, l_40, l_48, l_54, l_57, l_59, l_60, l_61, l_62, l_63, l_65, l_66, l_72, l_82, l_92, l_93, l_94, l_97, l_99, l_100, l_101, l_102, l_103, l_104, l_105, l_107, l_108, l_109, l_110, l_111, l_112, l_114, l_115, l_116, l_117, l_119, l_121, l_122, l_136, l_200, l_255, l_300, l_364, l_900, l_1000, l_1456, l_1458, l_1459, l_1460, l_1462, l_1471, l_1504, l_1510, l_1522, l_1550, l_2971, l_9999, l_10000, l_10979, l_65536, l_m1, nI_add, pk_mul, q_sub, q_ltT, q_ltF, q_leT, q_leF, q_eqT, q_eqF, q_inT, q_inF, nI_clamp, q_mlt, q_mle, q_mne, q_mne2, q_mnlt, q_mnle, Option.bind_some, if_true, if_false, reduceIte, ite_not, not_true_eq_false, not_false_eq_true, q_z1, Nat.reduceEqDiff]⟩
        rcases hs with c | ⟨c1, c2, c3⟩
        · exact Or.inl c
        · refine Or.inr ⟨c1, c2, fun b q _ _ hn2 => ?_⟩
          cases hn2
      · rw [hc] at en
        left
        rcases hs with ⟨rfl, c⟩ | ⟨rfl, c2, c3⟩
        · exact ⟨nI 1, Or.inl ⟨rfl, c⟩, by simp (disch := omega) only [fX12_laysWays_70, en, bi, b2_1, l_0, l_1, l_2, l_3, l_4, l_5, l_6, l_7, l_8, l_9, l_10, l_11, l_12, l_13, l_14, l_15, l_16, l_17, l_18, l_19, l_20, l_21, l_22, l_23, l_24, l_25, l_30, l_31, l_32, l_40, l_48, l_54, l_57, l_59, l_60, l_61, l_62, l_63, l_65, l_66, l_72, l_82, l_92, l_93, l_94, l_97, l_99, l_100, l_101, l_102, l_103, l_104, l_105, l_107, l_108, l_109, l_110, l_111, l_112, l_114, l_115, l_116, l_117, l_119, l_121, l_122, l_136, l_200, l_255, l_300, l_364, l_900, l_1000, l_1456, l_1458, l_1459, l_1460, l_1462, l_1471, l_1504, l_1510, l_1522, l_1550, l_2971, l_9999, l_10000, l_10979, l_65536, l_m1, nI_add, pk_mul, q_sub, q_ltT, q_ltF, q_leT, q_leF, q_eqT, q_eqF, q_inT, q_inF, nI_clamp, q_mlt, q_mle, q_mne, q_mne2, q_mnlt, q_mnle, Option.bind_some, if_true, if_false, reduceIte, ite_not, not_true_eq_false, not_false_eq_true, q_z1, Nat.reduceEqDiff]⟩
        · rcases evv_n w (b := m) hk with d | ⟨q, hq, d⟩
          · refine ⟨nI 0, Or.inr ⟨rfl, c2, fun b q' hb hq' hn2 he => ?_⟩, by simp (disch := omega) only [fX12_laysWays_70, en, ee, d, bi, b2_1, l_0, l_1, l_2, l_3, l_4, l_5, l_6, l_7, l_8, l_9, l_10, l_11, l_12, l_13, l_14, l_15, l_16, l_17, l_18, l_19, l_20, l_21, l_22, l_23, l_24, l_25, l_30, l_31, l_32, l_40, l_48, l_54, l_57, l_59, l_60, l_61, l_62, l_63, l_65, l_66, l_72, l_82, l_92, l_93, l_94, l_97, l_99, l_100, l_101, l_102, l_103, l_104, l_105, l_107, l_108, l_109, l_110, l_111, l_112, l_114, l_115, l_116, l_117, l_119, l_121, l_122, l_136, l_200, l_255, l_300, l_364, l_900, l_1000, l_1456, l_1458, l_1459, l_1460, l_1462, l_1471, l_1504, l_1510, l_1522, l_1550, l_2971, l_9999, l_10000, l_10979, l_65536, l_m1, nI_add, pk_mul, q_sub, q_ltT, q_ltF, q_leT, q_leF, q_eqT, q_eqF, q_inT, q_inF, nI_clamp, q_mlt, q_mle, q_mne, q_mne2, q_mnlt, q_mnle, Option.bind_some, if_true, if_false, reduceIte, ite_not, not_true_eq_false, not_false_eq_true, q_z1, Nat.reduceEqDiff]⟩
            by_cases cb : b = m
            · subst cb
              rw [d, q_mne (by omega)] at he; cases he
            · exact c3 b q' (by omega) hq' hc he
          · by_cases fx : f q = nI n
            · refine ⟨nI 1, Or.inl ⟨rfl, q, hq, ⟨k, m, hk, hm, hc, d⟩, (hf q hq).mp fx⟩, ?_⟩
              simp (disch := omega) only [fX12_laysWays_70, en, ee, d, bi, b2_1, fx, Nat.add_sub_cancel, l_0, l_1, l_2, l_3, l_4, l_5, l_6, l_7, l_8, l_9, l_10, l_11, l_12, l_13, l_14, l_15, l_16, l_17, l_18, l_19, l_20, l_21, l_22, l_23, l_24, l_25, l_30, l_31, l_32, l_40, l_48, l_54, l_57, l_59, l_60, l_61, l_62, l_63, l_65, l_66, l_72, l_82, l_92, l_93, l_94, l_97, l_99, l_100, l_101, l_102, l_103, l_104, l_105, l_107, l_108, l_109, l_110, l_111, l_112, l_114, l_115, l_116, l_117, l_119, l_121, l_122, l_136, l_200, l_255, l_300, l_364, l_900, l_1000, l_1456, l_1458, l_1459, l_1460, l_1462, l_1471, l_1504, l_1510, l_1522, l_1550, l_2971, l_9999, l_10000, l_10979, l_65536, l_m1, nI_add, pk_mul, q_sub, q_ltT, q_ltF, q_leT, q_leF, q_eqT, q_eqF, q_inT, q_inF, nI_clamp, q_mlt, q_mle, q_mne, q_mne2, q_mnlt, q_mnle, q_gi, q_gil, q_gir, q_giR, q_gl, q_gli, q_glr, q_glR, q_ra, q_rai, q_ral, q_raR, q_rl, q_rli, q_rll, q_rlr, sa, sA, ia, la, q_srsr, q_sRsR, Option.bind_some, if_true, if_false, reduceIte, ite_not, not_true_eq_false, not_false_eq_true, q_z1, Nat.reduceEqDiff]
            · refine ⟨nI 0, Or.inr ⟨rfl, c2, fun b q' hb hq' hn2 he => ?_⟩, ?_⟩
              · by_cases cb : b = m
                · subst cb
                  rw [d, nI_eq (by omega) (by omega)] at he
                  subst he
                  exact fun c => fx ((hf q hq).mpr c)
                · exact c3 b q' (by omega) hq' hc he
              · simp (disch := omega) only [fX12_laysWays_70, en, ee, d, bi, b2_1, fx, Nat.add_sub_cancel, l_0, l_1, l_2, l_3, l_4, l_5, l_6, l_7, l_8, l_9, l_10, l_11, l_12, l_13, l_14, l_15, l_16, l_17, l_18, l_19, l_20, l_21, l_22, l_23, l_24, l_25, l_30, l_31, l_32, l_40, l_48, l_54, l_57, l_59, l_60, l_61, l_62, l_63, l_65, l_66, l_72, l_82, l_92, l_93, l_94, l_97, l_99, l_100, l_101, l_102, l_103, l_104, l_105, l_107, l_108, l_109, l_110, l_111, l_112, l_114, l_115, l_116, l_117, l_119, l_121, l_122, l_136, l_200, l_255, l_300, l_364, l_900, l_1000, l_1456, l_1458, l_1459, l_1460, l_1462, l_1471, l_1504, l_1510, l_1522, l_1550, l_2971, l_9999, l_10000, l_10979, l_65536, l_m1, nI_add, pk_mul, q_sub, q_ltT, q_ltF, q_leT, q_leF, q_eqT, q_eqF, q_inT, q_inF, nI_clamp, q_mlt, q_mle, q_mne, q_mne2, q_mnlt, q_mnle, q_gi, q_gil, q_gir, q_giR, q_gl, q_gli, q_glr, q_glR, q_ra, q_rai, q_ral, q_raR, q_rl, q_rli, q_rll, q_rlr, sa, sA, ia, la, q_srsr, q_sRsR, Option.bind_some, if_true, if_false, reduceIte, ite_not, not_true_eq_false, not_false_eq_true, q_z1, Nat.reduceEqDiff])
    s FU (by
      rcases hs with c | ⟨c1, c2⟩
      · exact Or.inl c
      · exact Or.inr ⟨c1, c2, fun b q hb => by omega⟩) (by unfold FU; omega)
  refine ⟨s', ?_, h2⟩
  rcases h1 with c | ⟨c1, c2, c3⟩
  · exact Or.inl c
  · refine Or.inr ⟨c1, fun k' b q hk' hb hq => ?_⟩
    by_cases c : k' = k
    · subst c; exact c3 b q hb hq
    · exact c2 k' b q (by omega) hb hq
theorem N_lays56 (w : tb_W t) (h : tb_N M t) {f : Nat → Int32} {n a : Nat} (hn : n < 9) (ha1 : 1 ≤ a) (ha : a ≤ t 0) (hf : ∀ q, q ≤ t 0 → (f q = nI n ↔ rx t g n q)) (hv : hdw t g n a (f a)) (k32 k40) :
    ∃ v, hdw t g (n + 1) a v ∧ fX12_laysWays_56 k32 k40 FU (sr M 8 f) (nI (n + 1)) (nI a) (nI 0) (nI 0) = k40 (sr M 8 (upd f a v)) (nI (n + 1)) (nI (a + 1)) := by
  have w0 := w.1
  have w1 := w.2.1
  have hu : ∀ i, i < 92 → ra M 5 i = nI (t i) := h
  have same : ∀ v, f a = v → upd f a v = f := fun v e => by
    funext i
    by_cases c : i = a
    · rw [up_e _ _ _ c, ← e, c]
    · rw [up_n _ _ _ c]
  obtain ⟨s', h1, h2⟩ := lp_eq (fun x i s => fX12_laysWays_56 k32 k40 x (sr M 8 f) (nI (n + 1)) (nI a) s i) (fun s' => fX12_laysWays_56 k32 k40 1 (sr M 8 f) (nI (n + 1)) (nI a) s' (nI (t 1))) (t 1)
    (fun k s => fl t g n a s (∀ k' b q, k' < k → b < 4 → q ≤ t 0 → nrb (t (24 + k') + 1) a = true → evv t k' b = nI q → ¬ rx t g n q))
    (fun x s hs => by simp (disch := omega) only [fX12_laysWays_56, hu, l_0, l_1, l_2, l_3, l_4, l_5, l_6, l_7, l_8, l_9, l_10, l_11, l_12, l_13, l_14, l_15, l_16, l_17, l_18, l_19, l_20, l_21, l_22, l_23, l_24, l_25, l_30, l_31, l_32, l_40, l_48, l_54, l_57, l_59, l_60, l_61, l_62, l_63, l_65, l_66, l_72, l_82, l_92, l_93, l_94, l_97, l_99, l_100, l_101, l_102, l_103, l_104, l_105, l_107, l_108, l_109, l_110, l_111, l_112, l_114, l_115, l_116, l_117, l_119, l_121, l_122, l_136, l_200, l_255, l_300, l_364, l_900, l_1000, l_1456, l_1458, l_1459, l_1460, l_1462, l_1471, l_1504, l_1510, l_1522, l_1550, l_2971, l_9999, l_10000, l_10979, l_65536, l_m1, nI_add, pk_mul, q_sub, q_ltT, q_ltF, q_leT, q_leF, q_eqT, q_eqF, q_inT, q_inF, nI_clamp, q_mlt, q_mle, q_mne, q_mne2, q_mnlt, q_mnle, q_gi, q_gil, q_gir, q_giR, q_gl, q_gli, q_glr, q_glR, q_ra, q_rai, q_ral, q_raR, q_rl, q_rli, q_rll, q_rlr, sa, sA, ia, la, q_srsr, q_sRsR, Option.bind_some, if_true, if_false, reduceIte, ite_not, not_true_eq_false, not_false_eq_true, q_z1, Nat.reduceEqDiff])
    (fun x k s hk hs => by
      obtain ⟨s', g1, g2⟩ := N_lays70 w h hn hk (by omega) hf k32 k40 (fX12_laysWays_56 k32 k40 x) hs
      refine ⟨s', g1, ?_⟩
      rw [← g2]
      simp (disch := omega) only [fX12_laysWays_56, hu, l_0, l_1, l_2, l_3, l_4, l_5, l_6, l_7, l_8, l_9, l_10, l_11, l_12, l_13, l_14, l_15, l_16, l_17, l_18, l_19, l_20, l_21, l_22, l_23, l_24, l_25, l_30, l_31, l_32, l_40, l_48, l_54, l_57, l_59, l_60, l_61, l_62, l_63, l_65, l_66, l_72, l_82, l_92, l_93, l_94, l_97, l_99, l_100, l_101, l_102, l_103, l_104, l_105, l_107, l_108, l_109, l_110, l_111, l_112, l_114, l_115, l_116, l_117, l_119, l_121, l_122, l_136, l_200, l_255, l_300, l_364, l_900, l_1000, l_1456, l_1458, l_1459, l_1460, l_1462, l_1471, l_1504, l_1510, l_1522, l_1550, l_2971, l_9999, l_10000, l_10979, l_65536, l_m1, nI_add, pk_mul, q_sub, q_ltT, q_ltF, q_leT, q_leF, q_eqT, q_eqF, q_inT, q_inF, nI_clamp, q_mlt, q_mle, q_mne, q_mne2, q_mnlt, q_mnle, q_gi, q_gil, q_gir, q_giR, q_gl, q_gli, q_glr, q_glR, q_ra, q_rai, q_ral, q_raR, q_rl, q_rli, q_rll, q_rlr, sa, sA, ia, la, q_srsr, q_sRsR, Option.bind_some, if_true, if_false, reduceIte, ite_not, not_true_eq_false, not_false_eq_true, q_z1, Nat.reduceEqDiff])
    (nI 0) FU (Or.inr ⟨rfl, fun k' b q hk => by omega⟩) (by unfold FU; omega)
  rw [h2]
  rcases h1 with ⟨rfl, q, c1, c2, c3⟩ | ⟨rfl, c⟩
  · rcases hv with ⟨m, m1, m2, m3⟩ | ⟨m1, m2⟩
    · refine ⟨f a, Or.inl ⟨m, by omega, m2, m3⟩, ?_⟩
      rw [same _ rfl]
      simp (disch := omega) only [fX12_laysWays_56, hu, m3, l_0, l_1, l_2, l_3, l_4, l_5, l_6, l_7, l_8, l_9, l_10, l_11, l_12, l_13, l_14, l_15, l_16, l_17, l_18, l_19, l_20, l_21, l_22, l_23, l_24, l_25, l_30, l_31, l_32, l_40, l_48, l_54, l_57, l_59, l_60, l_61, l_62, l_63, l_65, l_66, l_72, l_82, l_92, l_93, l_94, l_97, l_99, l_100, l_101, l_102, l_103, l_104, l_105, l_107, l_108, l_109, l_110, l_111, l_112, l_114, l_115, l_116, l_117, l_119, l_121, l_122, l_136, l_200, l_255, l_300, l_364, l_900, l_1000, l_1456, l_1458, l_1459, l_1460, l_1462, l_1471, l_1504, l_1510, l_1522, l_1550, l_2971, l_9999, l_10000, l_10979, l_65536, l_m1, nI_add, pk_mul, q_sub, q_ltT, q_ltF, q_leT, q_leF, q_eqT, q_eqF, q_inT, q_inF, nI_clamp, q_mlt, q_mle, q_mne, q_mne2, q_mnlt, q_mnle, q_gi, q_gil, q_gir, q_giR, q_gl, q_gli, q_glr, q_glR, q_ra, q_rai, q_ral, q_raR, q_rl, q_rli, q_rll, q_rlr, sa, sA, ia, la, q_srsr, q_sRsR, Option.bind_some, if_true, if_false, reduceIte, ite_not, not_true_eq_false, not_false_eq_true, q_z1, Nat.reduceEqDiff]
    · refine ⟨nI (n + 1), Or.inl ⟨n + 1, Nat.le_refl _, ⟨Or.inr ⟨ha1, ha, q, c1, c2, c3.1⟩, fun m hm hc => m1 (rc_mono (by omega) hc)⟩, rfl⟩, ?_⟩
      have nm : (nI 0 ≤ nM) = False := eq_false (by decide)
      simp (disch := omega) only [fX12_laysWays_56, hu, m2, nm, l_0, l_1, l_2, l_3, l_4, l_5, l_6, l_7, l_8, l_9, l_10, l_11, l_12, l_13, l_14, l_15, l_16, l_17, l_18, l_19, l_20, l_21, l_22, l_23, l_24, l_25, l_30, l_31, l_32, l_40, l_48, l_54, l_57, l_59, l_60, l_61, l_62, l_63, l_65, l_66, l_72, l_82, l_92, l_93, l_94, l_97, l_99, l_100, l_101, l_102, l_103, l_104, l_105, l_107, l_108, l_109, l_110, l_111, l_112, l_114, l_115, l_116, l_117, l_119, l_121, l_122, l_136, l_200, l_255, l_300, l_364, l_900, l_1000, l_1456, l_1458, l_1459, l_1460, l_1462, l_1471, l_1504, l_1510, l_1522, l_1550, l_2971, l_9999, l_10000, l_10979, l_65536, l_m1, nI_add, pk_mul, q_sub, q_ltT, q_ltF, q_leT, q_leF, q_eqT, q_eqF, q_inT, q_inF, nI_clamp, q_mlt, q_mle, q_mne, q_mne2, q_mnlt, q_mnle, q_gi, q_gil, q_gir, q_giR, q_gl, q_gli, q_glr, q_glR, q_ra, q_rai, q_ral, q_raR, q_rl, q_rli, q_rll, q_rlr, sa, sA, ia, la, q_srsr, q_sRsR, Option.bind_some, if_true, if_false, reduceIte, ite_not, not_true_eq_false, not_false_eq_true, q_z1, Nat.reduceEqDiff]
  · refine ⟨f a, hdw_keep hv (fun ⟨q, q1, ⟨k, b, e1, e2, e3, e4⟩, q3⟩ => c k b q e1 e2 q1 e3 e4 q3), ?_⟩
    rw [same _ rfl]
    simp (disch := omega) only [fX12_laysWays_56, hu, l_0, l_1, l_2, l_3, l_4, l_5, l_6, l_7, l_8, l_9, l_10, l_11, l_12, l_13, l_14, l_15, l_16, l_17, l_18, l_19, l_20, l_21, l_22, l_23, l_24, l_25, l_30, l_31, l_32, l_40, l_48, l_54, l_57, l_59, l_60, l_61, l_62, l_63, l_65, l_66, l_72, l_82, l_92, l_93, l_94, l_97, l_99, l_100, l_101, l_102, l_103, l_104, l_105, l_107, l_108, l_109, l_110, l_111, l_112, l_114, l_115, l_116, l_117, l_119, l_121, l_122, l_136, l_200, l_255, l_300, l_364, l_900, l_1000, l_1456, l_1458, l_1459, l_1460, l_1462, l_1471, l_1504, l_1510, l_1522, l_1550, l_2971, l_9999, l_10000, l_10979, l_65536, l_m1, nI_add, pk_mul, q_sub, q_ltT, q_ltF, q_leT, q_leF, q_eqT, q_eqF, q_inT, q_inF, nI_clamp, q_mlt, q_mle, q_mne, q_mne2, q_mnlt, q_mnle, q_gi, q_gil, q_gir, q_giR, q_gl, q_gli, q_glr, q_glR, q_ra, q_rai, q_ral, q_raR, q_rl, q_rli, q_rll, q_rlr, sa, sA, ia, la, q_srsr, q_sRsR, Option.bind_some, if_true, if_false, reduceIte, ite_not, not_true_eq_false, not_false_eq_true, q_z1, Nat.reduceEqDiff]
theorem N_lays40 (w : tb_W t) (h : tb_N M t) {f : Nat → Int32} {n : Nat} (hn : n < 9) (hv : ∀ q, q ≤ t 0 → hdw t g n q (f q)) (k32) :
    ∃ f', (∀ q, q ≤ t 0 → hdw t g (n + 1) q (f' q)) ∧ fX12_laysWays_40 k32 FU (sr M 8 f) (nI (n + 1)) (nI 1) = k32 (sr M 8 f') (nI (n + 2)) := by
  have w0 := w.1
  have hu : ∀ i, i < 92 → ra M 5 i = nI (t i) := h
  obtain ⟨f', h1, h2⟩ := lp_eq (fun x i f => fX12_laysWays_40 k32 x (sr M 8 f) (nI (n + 1)) (nI 1 + i)) (fun f => k32 (sr M 8 f) (nI (n + 2))) (t 0)
    (fun k f => ∀ q, q ≤ t 0 → hdw t g (if q ≤ k then n + 1 else n) q (f q))
    (fun x f hf => by simp (disch := omega) only [fX12_laysWays_40, hu, l_0, l_1, l_2, l_3, l_4, l_5, l_6, l_7, l_8, l_9, l_10, l_11, l_12, l_13, l_14, l_15, l_16, l_17, l_18, l_19, l_20, l_21, l_22, l_23, l_24, l_25, l_30, l_31, l_32, l_40, l_48, l_54, l_57, l_59, l_60, l_61, l_62, l_63, l_65, l_66, l_72, l_82, l_92, l_93, l_94, l_97, l_99, l_100, l_101, l_102, l_103, l_104, l_105, l_107, l_108, l_109, l_110, l_111, l_112, l_114, l_115, l_116, l_117, l_119, l_121, l_122, l_136, l_200, l_255, l_300, l_364, l_900, l_1000, l_1456, l_1458, l_1459, l_1460, l_1462, l_1471, l_1504, l_1510, l_1522, l_1550, l_2971, l_9999, l_10000, l_10979, l_65536, l_m1, nI_add, pk_mul, q_sub, q_ltT, q_ltF, q_leT, q_leF, q_eqT, q_eqF, q_inT, q_inF, nI_clamp, q_mlt, q_mle, q_mne, q_mne2, q_mnlt, q_mnle, q_gi, q_gil, q_gir, q_giR, q_gl, q_gli, q_glr, q_glR, q_ra, q_rai, q_ral, q_raR, q_rl, q_rli, q_rll, q_rlr, sa, sA, ia, la, q_srsr, q_sRsR, Option.bind_some, if_true, if_false, reduceIte, ite_not, not_true_eq_false, not_false_eq_true, q_z1, Nat.reduceEqDiff])
    (fun x k f hk hf => by
      have hfn : ∀ q, q ≤ t 0 → (f q = nI n ↔ rx t g n q) := fun q hq => by
        have := hf q hq
        split at this
        · exact hdw_v this (by omega) (by omega)
        · exact hdw_v this (by omega) (by omega)
      have ha := hf (k + 1) (by omega)
      rw [if_neg (by omega)] at ha
      obtain ⟨v, g1, g2⟩ := N_lays56 w h hn (a := k + 1) (by omega) (by omega) hfn ha k32 (fX12_laysWays_40 k32 x)
      refine ⟨upd f (k + 1) v, fun q hq => ?_, ?_⟩
      · by_cases c : q = k + 1
        · rw [up_e _ _ _ c, if_pos (by omega), c]; exact g1
        · rw [up_n _ _ _ c]
          have := hf q hq
          by_cases d : q ≤ k
          · rw [if_pos (by omega)]; rw [if_pos d] at this; exact this
          · rw [if_neg (by omega)]; rw [if_neg d] at this; exact this
      · rw [nI_add, nI_add, Nat.add_comm 1 k, Nat.add_comm 1 (k + 1), ← g2]
        simp (disch := omega) only [fX12_laysWays_40, hu, l_0, l_1, l_2, l_3, l_4, l_5, l_6, l_7, l_8, l_9, l_10, l_11, l_12, l_13, l_14, l_15, l_16, l_17, l_18, l_19, l_20, l_21, l_22, l_23, l_24, l_25, l_30, l_31, l_32, l_40, l_48, l_54, l_57, l_59, l_60, l_61, l_62, l_63, l_65, l_66, l_72, l_82, l_92, l_93, l_94, l_97, l_99, l_100, l_101, l_102, l_103, l_104, l_105, l_107, l_108, l_109, l_110, l_111, l_112, l_114, l_115, l_116, l_117, l_119, l_121, l_122, l_136, l_200, l_255, l_300, l_364, l_900, l_1000, l_1456, l_1458, l_1459, l_1460, l_1462, l_1471, l_1504, l_1510, l_1522, l_1550, l_2971, l_9999, l_10000, l_10979, l_65536, l_m1, nI_add, pk_mul, q_sub, q_ltT, q_ltF, q_leT, q_leF, q_eqT, q_eqF, q_inT, q_inF, nI_clamp, q_mlt, q_mle, q_mne, q_mne2, q_mnlt, q_mnle, q_gi, q_gil, q_gir, q_giR, q_gl, q_gli, q_glr, q_glR, q_ra, q_rai, q_ral, q_raR, q_rl, q_rli, q_rll, q_rlr, sa, sA, ia, la, q_srsr, q_sRsR, Option.bind_some, if_true, if_false, reduceIte, ite_not, not_true_eq_false, not_false_eq_true, q_z1, Nat.reduceEqDiff])
    f FU (fun q hq => by
      by_cases c : q ≤ 0
      · rw [if_pos c]
        obtain rfl : q = 0 := by omega
        exact hdw_0 (hv 0 hq)
      · rw [if_neg c]; exact hv q hq) (by unfold FU; omega)
  refine ⟨f', fun q hq => ?_, h2⟩
  have := h1 q hq
  rw [if_pos hq] at this; exact this
theorem N_laysWays (w : tb_W t) (h : tb_N M t) (hg : g ≤ t 0) : ∃ f, fX12_laysWays M (nI g) = some (sr M 8 f) ∧ ∀ q, q ≤ t 0 → hdw t g 9 q (f q) := by
  have w0 := w.1
  have fin : ∀ f, (∀ q, q ≤ t 0 → hdw t g 0 q (f q)) → ∃ r, fX12_laysWays_32 FU (sr M 8 f) (nI 1) = some r ∧ ∃ f, r = sr M 8 f ∧ ∀ q, q ≤ t 0 → hdw t g 9 q (f q) := by
    intro f hf
    exact lp_up (fun x i f => fX12_laysWays_32 x (sr M 8 f) (nI 1 + i)) 9 (fun k f => ∀ q, q ≤ t 0 → hdw t g k q (f q)) (fun r => ∃ f, r = sr M 8 f ∧ ∀ q, q ≤ t 0 → hdw t g 9 q (f q))
      (fun x f hf => ⟨sr M 8 f, by simp (disch := omega) only [fX12_laysWays_32, l_0, l_1, l_2, l_3, l_4, l_5, l_6, l_7, l_8, l_9, l_10, l_11, l_12, l_13, l_14, l_15, l_16, l_17, l_18, l_19, l_20, l_21, l_22, l_23, l_24, l_25, l_30, l_31, l_32, l_40, l_48, l_54, l_57, l_59, l_60, l_61, l_62, l_63, l_65, l_66, l_72, l_82, l_92, l_93, l_94, l_97, l_99, l_100, l_101, l_102, l_103, l_104, l_105, l_107, l_108, l_109, l_110, l_111, l_112, l_114, l_115, l_116, l_117, l_119, l_121, l_122, l_136, l_200, l_255, l_300, l_364, l_900, l_1000, l_1456, l_1458, l_1459, l_1460, l_1462, l_1471, l_1504, l_1510, l_1522, l_1550, l_2971, l_9999, l_10000, l_10979, l_65536, l_m1, nI_add, pk_mul, q_sub, q_ltT, q_ltF, q_leT, q_leF, q_eqT, q_eqF, q_inT, q_inF, nI_clamp, q_mlt, q_mle, q_mne, q_mne2, q_mnlt, q_mnle, Option.bind_some, if_true, if_false, reduceIte, ite_not, not_true_eq_false, not_false_eq_true, q_z1, Nat.reduceEqDiff], f, rfl, hf⟩)
      (fun x k f hk hf => by
        left
        obtain ⟨f', g1, g2⟩ := N_lays40 w h hk hf (fX12_laysWays_32 x)
        refine ⟨f', g1, ?_⟩
        rw [nI_add, nI_add, Nat.add_comm 1 k, Nat.add_comm 1 (k + 1), ← g2]
        simp (disch := omega) only [fX12_laysWays_32, l_0, l_1, l_2, l_3, l_4, l_5, l_6, l_7, l_8, l_9, l_10, l_11, l_12, l_13, l_14, l_15, l_16, l_17, l_18, l_19, l_20, l_21, l_22, l_23, l_24, l_25, l_30, l_31, l_32, l_40, l_48, l_54, l_57, l_59, l_60, l_61, l_62, l_63, l_65, l_66, l_72, l_82, l_92, l_93, l_94, l_97, l_99, l_100, l_101, l_102, l_103, l_104, l_105, l_107, l_108, l_109, l_110, l_111, l_112, l_114, l_115, l_116, l_117, l_119, l_121, l_122, l_136, l_200, l_255, l_300, l_364, l_900, l_1000, l_1456, l_1458, l_1459, l_1460, l_1462, l_1471, l_1504, l_1510, l_1522, l_1550, l_2971, l_9999, l_10000, l_10979, l_65536, l_m1, nI_add, pk_mul, q_sub, q_ltT, q_ltF, q_leT, q_leF, q_eqT, q_eqF, q_inT, q_inF, nI_clamp, q_mlt, q_mle, q_mne, q_mne2, q_mnlt, q_mnle, Option.bind_some, if_true, if_false, reduceIte, ite_not, not_true_eq_false, not_false_eq_true, q_z1, Nat.reduceEqDiff]) 0 f FU (by omega) hf (by unfold FU; omega)
  have e0 : M = sr M 8 (ra M 8) := by
    unfold sr
    refine Prod.ext rfl (Prod.ext rfl (Prod.ext ?_ rfl))
    funext b
    show M.2.2.1 b = if b = 8 then M.2.2.1 8 else M.2.2.1 b
    split
    · next c => rw [c]
    · rfl
  obtain ⟨r, h1, f, rfl, h2⟩ := lp_up (fun x i f => fX12_laysWays_2 x (sr M 8 f) (nI g) i) 10 (fun k f => ∀ q, q < k → hdw t g 0 q (f q)) (fun r => ∃ f, r = sr M 8 f ∧ ∀ q, q ≤ t 0 → hdw t g 9 q (f q))
    (fun x f hf => by
      obtain ⟨r, e, hr⟩ := fin f (fun q hq => hf q (by omega))
      exact ⟨r, by rw [← e]; simp (disch := omega) only [fX12_laysWays_2, l_0, l_1, l_2, l_3, l_4, l_5, l_6, l_7, l_8, l_9, l_10, l_11, l_12, l_13, l_14, l_15, l_16, l_17, l_18, l_19, l_20, l_21, l_22, l_23, l_24, l_25, l_30, l_31, l_32, l_40, l_48, l_54, l_57, l_59, l_60, l_61, l_62, l_63, l_65, l_66, l_72, l_82, l_92, l_93, l_94, l_97, l_99, l_100, l_101, l_102, l_103, l_104, l_105, l_107, l_108, l_109, l_110, l_111, l_112, l_114, l_115, l_116, l_117, l_119, l_121, l_122, l_136, l_200, l_255, l_300, l_364, l_900, l_1000, l_1456, l_1458, l_1459, l_1460, l_1462, l_1471, l_1504, l_1510, l_1522, l_1550, l_2971, l_9999, l_10000, l_10979, l_65536, l_m1, nI_add, pk_mul, q_sub, q_ltT, q_ltF, q_leT, q_leF, q_eqT, q_eqF, q_inT, q_inF, nI_clamp, q_mlt, q_mle, q_mne, q_mne2, q_mnlt, q_mnle, Option.bind_some, if_true, if_false, reduceIte, ite_not, not_true_eq_false, not_false_eq_true, q_z1, Nat.reduceEqDiff], hr⟩)
    (fun x k f hk hf => by
      left
      by_cases c : k = g
      · refine ⟨upd f k (nI 0), fun q hq => ?_, by subst c; simp (disch := omega) only [fX12_laysWays_2, l_0, l_1, l_2, l_3, l_4, l_5, l_6, l_7, l_8, l_9, l_10, l_11, l_12, l_13, l_14, l_15, l_16, l_17, l_18, l_19, l_20, l_21, l_22, l_23, l_24, l_25, l_30, l_31, l_32, l_40, l_48, l_54, l_57, l_59, l_60, l_61, l_62, l_63, l_65, l_66, l_72, l_82, l_92, l_93, l_94, l_97, l_99, l_100, l_101, l_102, l_103, l_104, l_105, l_107, l_108, l_109, l_110, l_111, l_112, l_114, l_115, l_116, l_117, l_119, l_121, l_122, l_136, l_200, l_255, l_300, l_364, l_900, l_1000, l_1456, l_1458, l_1459, l_1460, l_1462, l_1471, l_1504, l_1510, l_1522, l_1550, l_2971, l_9999, l_10000, l_10979, l_65536, l_m1, nI_add, pk_mul, q_sub, q_ltT, q_ltF, q_leT, q_leF, q_eqT, q_eqF, q_inT, q_inF, nI_clamp, q_mlt, q_mle, q_mne, q_mne2, q_mnlt, q_mnle, q_gi, q_gil, q_gir, q_giR, q_gl, q_gli, q_glr, q_glR, q_ra, q_rai, q_ral, q_raR, q_rl, q_rli, q_rll, q_rlr, sa, sA, ia, la, q_srsr, q_sRsR, Option.bind_some, if_true, if_false, reduceIte, ite_not, not_true_eq_false, not_false_eq_true, q_z1, Nat.reduceEqDiff]⟩
        by_cases d : q = k
        · rw [up_e _ _ _ d]
          exact Or.inl ⟨0, Nat.le_refl _, ⟨by rw [d]; exact c, fun m hm => by omega⟩, rfl⟩
        · rw [up_n _ _ _ d]; exact hf q (by omega)
      · refine ⟨upd f k nM, fun q hq => ?_, by simp (disch := omega) only [fX12_laysWays_2, l_0, l_1, l_2, l_3, l_4, l_5, l_6, l_7, l_8, l_9, l_10, l_11, l_12, l_13, l_14, l_15, l_16, l_17, l_18, l_19, l_20, l_21, l_22, l_23, l_24, l_25, l_30, l_31, l_32, l_40, l_48, l_54, l_57, l_59, l_60, l_61, l_62, l_63, l_65, l_66, l_72, l_82, l_92, l_93, l_94, l_97, l_99, l_100, l_101, l_102, l_103, l_104, l_105, l_107, l_108, l_109, l_110, l_111, l_112, l_114, l_115, l_116, l_117, l_119, l_121, l_122, l_136, l_200, l_255, l_300, l_364, l_900, l_1000, l_1456, l_1458, l_1459, l_1460, l_1462, l_1471, l_1504, l_1510, l_1522, l_1550, l_2971, l_9999, l_10000, l_10979, l_65536, l_m1, nI_add, pk_mul, q_sub, q_ltT, q_ltF, q_leT, q_leF, q_eqT, q_eqF, q_inT, q_inF, nI_clamp, q_mlt, q_mle, q_mne, q_mne2, q_mnlt, q_mnle, q_gi, q_gil, q_gir, q_giR, q_gl, q_gli, q_glr, q_glR, q_ra, q_rai, q_ral, q_raR, q_rl, q_rli, q_rll, q_rlr, sa, sA, ia, la, q_srsr, q_sRsR, Option.bind_some, if_true, if_false, reduceIte, ite_not, not_true_eq_false, not_false_eq_true, q_z1, Nat.reduceEqDiff]⟩
        by_cases d : q = k
        · rw [up_e _ _ _ d]
          exact Or.inr ⟨by rw [d]; exact c, rfl⟩
        · rw [up_n _ _ _ d]; exact hf q (by omega)) 0 (ra M 8) FU (by omega) (fun q hq => by omega) (by unfold FU; omega)
  refine ⟨f, ?_, h2⟩
  unfold fX12_laysWays
  rw [← h1]
  exact congrArg (fun m => fX12_laysWays_2 FU m (nI g) 0) e0
end Q54
