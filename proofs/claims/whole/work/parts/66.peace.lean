/-! peace, quarrels, spread -/
theorem cdw_inj {w : Nat} {r s : Nat → Nat} : ∀ {n : Nat}, (∀ j, j < n → r j < w) → (∀ j, j < n → s j < w) → cdw w r n = cdw w s n → ∀ i, i < n → r i = s i
  | 0, _, _, _, i, hi => absurd hi (by omega)
  | n + 1, hr, hs, e, i, hi => by
    have e : cdw w r n * w + r n = cdw w s n * w + s n := e
    have r1 := hr n (by omega)
    have s1 := hs n (by omega)
    have en : cdw w r n = cdw w s n := by
      rcases Nat.lt_trichotomy (cdw w r n) (cdw w s n) with c | c | c
      · have h2 : (cdw w r n + 1) * w ≤ cdw w s n * w := Nat.mul_le_mul_right _ c
        rw [Nat.add_mul, Nat.one_mul] at h2; omega
      · exact c
      · have h2 : (cdw w s n + 1) * w ≤ cdw w r n * w := Nat.mul_le_mul_right _ c
        rw [Nat.add_mul, Nat.one_mul] at h2; omega
    by_cases c : i = n
    · subst c; rw [en] at e; omega
    · exact cdw_inj (fun j hj => hr j (by omega)) (fun j hj => hs j (by omega)) en i (by omega)
theorem q_in14 {x : Int32} : fX12_isIn x.toInt64 (1 : Int64) (4 : Int64) = some (bi (inb x 5 && decide (x ≠ nI 0))) := by
  rw [q_isIn, Int32.toInt_toInt64]
  have e1 : (1 : Int64).toInt = 1 := by decide
  have e9 : (4 : Int64).toInt = 4 := by decide
  rw [e1, e9]
  rcases q_ix x 5 (by omega) with ⟨h, e⟩ | ⟨h, h2, e⟩ | ⟨j, hj, rfl⟩
  · rw [e, decide_eq_false]; · rfl
    rw [Int32.lt_iff_toInt_lt, nI_toInt (by omega)] at h
    omega
  · rw [e, decide_eq_false]; · rfl
    rw [Int32.le_iff_toInt_le, nI_toInt (by omega)] at h
    omega
  · rw [q_inT hj (by omega), nI_toInt (by omega)]
    by_cases c : j = 0
    · subst c; rfl
    · rw [decide_eq_true (show (1 : Int) ≤ j ∧ (j : Int) ≤ 4 by omega)]
      have : nI j ≠ nI 0 := fun g => c ((nI_eq (by omega) (by omega)).mp g)
      simp [this]
section Q66
variable {T M U S : ms_T} {t : Nat → Nat}
theorem qf_cong (w : tb_W t) {r s : Nat → Nat} (h : ∀ j, j < t 2 → r j = s j) : qf t r = qf t s := by
  unfold qf
  exact sm_cong (fun k hk => by
    have b := w.2.2.2.2.2.2.2.2.1 k hk
    rw [h _ b.1, h _ b.2.1])
theorem fmn_join (w : tb_W t) {wd m i m2 : Nat} {k : Nat → Nat} (hw : 0 < wd) (hf : fmn (qn t wd) (wd ^ t 2) m i) (c1 : cnd wd (t 2) k 0 k) (c2 : qf t k = m2) (c3 : ∀ s, cnd wd (t 2) s 0 s → m2 ≤ qf t s) (c4 : ∀ s, cnd wd (t 2) s 0 s → cdw wd s (t 2) < cdw wd k (t 2) → m2 < qf t s) : m2 = m ∧ ∀ j, j < t 2 → k j = rw_ wd (t 2) i j := by
  obtain ⟨f1, f2, f3, f4⟩ := hf
  have ri : cdw wd (rw_ wd (t 2) i) (t 2) = i := rw_cdw hw f1
  obtain ⟨s, s1, s2, s3, s4⟩ := rgs_least (t := t) (w := wd) (n := t 2) _ (rw_ wd (t 2) i) (Nat.le_refl _) (fun j _ => rw_lt hw)
  have cs : cnd wd (t 2) s 0 s := ⟨fun j hj => by omega, s1, s2⟩
  have a1 := c3 s cs
  have f2' : qf t (rw_ wd (t 2) i) = m := f2
  have kb : cdw wd k (t 2) < wd ^ t 2 := cdw_b c1.2.1
  have rk : cdw wd (rw_ wd (t 2) (cdw wd k (t 2))) (t 2) = cdw wd k (t 2) := rw_cdw hw kb
  have kk := cdw_inj (fun j _ => rw_lt hw) c1.2.1 rk
  have q1 : qn t wd (cdw wd k (t 2)) = m2 := by unfold qn; rw [qf_cong w kk]; exact c2
  have a2 := f3 _ kb
  rw [q1] at a2
  have em : m2 = m := by omega
  refine ⟨em, ?_⟩
  have g1 : i ≤ cdw wd k (t 2) := Nat.le_of_not_lt (fun c => by have := f4 _ c; omega)
  have g2 : cdw wd k (t 2) ≤ i := Nat.le_of_not_lt (fun c => by have := c4 s cs (by omega); omega)
  have g3 : cdw wd k (t 2) = i := by omega
  rw [g3] at kk
  exact fun j hj => (kk j hj).symm
theorem fmn_all (w : tb_W t) {m i : Nat} (h0 : 0 < t 2) (hf : fmn (qn t (t 2)) (t 2 ^ t 2) m i) : m = 0 := by
  obtain ⟨f1, f2, f3, f4⟩ := hf
  have b : cdw (t 2) (fun j => j) (t 2) < t 2 ^ t 2 := cdw_b (fun j hj => hj)
  have rk := rw_cdw h0 b
  have kk := cdw_inj (fun j _ => rw_lt h0) (fun j hj => hj) rk
  have q1 : qn t (t 2) (cdw (t 2) (fun j => j) (t 2)) = 0 := by
    unfold qn
    rw [qf_cong w kk]
    unfold qf
    exact sm_nil (fun k hk => by
      have b8 := w.2.2.2.2.2.2.2.2.1 k hk
      show b2 (decide (t (72 + k) = t (82 + k))) = 0
      rw [decide_eq_false b8.2.2]; rfl)
  have := f3 _ b
  omega
theorem sq_tr {A B C : ms_T} (h1 : sq A B) (h2 : sq B C) : sq A C :=
  ⟨fun k a b => by rw [h2.1 k a b, h1.1 k a b], fun k => by rw [h2.2.1 k, h1.2.1 k], fun k a => by rw [h2.2.2.1 k a, h1.2.2.1 k a], fun k => by rw [h2.2.2.2 k, h1.2.2.2 k]⟩
/-- both walks through the topics at once -/
theorem peace_loop (w : tb_W t) (h : tb_C T t) (hM : tb_N M t) : ∀ e v U S m i fu1 fu2, v + e = t 2 → 1 ≤ v → e < fu1 → e < fu2 → sq M S → gi S 33 = nI m → fmn (qn t v) (v ^ t 2) m i → fbs t (t 3) (ra U 1) → ∃ x U' S', fX3_topicsForPeace_2 fu1 U T (nI v) = some (nI x, U', T) ∧ fX12_peace_28 fu2 S (nI v) = some (nI x, S') ∧ sq M S' := by
  obtain ⟨w0, w1, w2, w3, w4, w5, w6, w7, w8, w9⟩ := id w
  obtain ⟨h0, h1, h2, h3, h4, h5, h6, h7, h8, h9, h10, h11, h12, h13, h14, h15, h16⟩ := id h
  intro e
  induction e with
  | zero =>
    intro v U S m i fu1 fu2 hv hv1 hf1 hf2 hs h33 hf hb
    obtain ⟨fu1, rfl⟩ : ∃ x, fu1 = x + 1 := ⟨fu1 - 1, by omega⟩
    obtain ⟨fu2, rfl⟩ : ∃ x, fu2 = x + 1 := ⟨fu2 - 1, by omega⟩
    obtain rfl : v = t 2 := by omega
    have hm := fmn_all w (by omega) hf
    subst hm
    refine ⟨t 2, U, S, ?_, ?_, hs⟩
    · simp (disch := omega) only [fX3_topicsForPeace_2, h4, l_0, l_1, l_2, l_3, l_4, l_5, l_6, l_7, l_8, l_9, l_10, l_11, l_12, l_13, l_14, l_15, l_16, l_17, l_18, l_19, l_20, l_21, l_22, l_23, l_24, l_25, l_30, l_31, l_32, l_40, l_48, l_54, l_57, l_59, l_60, l_61, l_62, l_63, l_65, l_66, l_72, l_82, l_92, l_93, l_94, l_97, l_99, l_100, l_101, l_102, l_103, l_104, l_105, l_107, l_108, l_109, l_110, l_111, l_112, l_114, l_115, l_116, l_117, l_119, l_121, l_122, l_136, l_200, l_255, l_300, l_364, l_900, l_1000, l_1456, l_1458, l_1459, l_1460, l_1462, l_1471, l_1504, l_1510, l_1522, l_1550, l_2971, l_9999, l_10000, l_10979, l_65536, l_m1, nI_add, pk_mul, q_sub, q_ltT, q_ltF, q_leT, q_leF, q_eqT, q_eqF, q_inT, q_inF, nI_clamp, q_mlt, q_mle, q_mne, q_mne2, q_mnlt, q_mnle, Option.bind_some, if_true, if_false, reduceIte, ite_not, not_true_eq_false, not_false_eq_true, q_z1, Nat.reduceEqDiff]
    · simp (disch := omega) only [fX12_peace_28, h33, l_0, l_1, l_2, l_3, l_4, l_5, l_6, l_7, l_8, l_9, l_10, l_11, l_12, l_13, l_14, l_15, l_16, l_17, l_18, l_19, l_20, l_21, l_22, l_23, l_24, l_25, l_30, l_31, l_32, l_40, l_48, l_54, l_57, l_59, l_60, l_61, l_62, l_63, l_65, l_66, l_72, l_82, l_92, l_93, l_94, l_97, l_99, l_100, l_101, l_102, l_103, l_104, l_105, l_107, l_108, l_109, l_110, l_111, l_112, l_114, l_115, l_116, l_117, l_119, l_121, l_122, l_136, l_200, l_255, l_300, l_364, l_900, l_1000, l_1456, l_1458, l_1459, l_1460, l_1462, l_1471, l_1504, l_1510, l_1522, l_1550, l_2971, l_9999, l_10000, l_10979, l_65536, l_m1, nI_add, pk_mul, q_sub, q_ltT, q_ltF, q_leT, q_leF, q_eqT, q_eqF, q_inT, q_inF, nI_clamp, q_mlt, q_mle, q_mne, q_mne2, q_mnlt, q_mnle, Option.bind_some, if_true, if_false, reduceIte, ite_not, not_true_eq_false, not_false_eq_true, q_z1, Nat.reduceEqDiff]
  | succ e ih =>
    intro v U S m i fu1 fu2 hv hv1 hf1 hf2 hs h33 hf hb
    obtain ⟨fu1, rfl⟩ : ∃ x, fu1 = x + 1 := ⟨fu1 - 1, by omega⟩
    obtain ⟨fu2, rfl⟩ : ∃ x, fu2 = x + 1 := ⟨fu2 - 1, by omega⟩
    obtain ⟨U', m2, k, c1, c2, c3, c4, c5, c6, c7, c8⟩ := U_fewest w h (wd := v) (by omega) (by omega) hb
    obtain ⟨em, -⟩ := fmn_join w (by omega) hf c5 c6 c7 c8
    subst em
    by_cases d : m2 = 0
    · subst d
      refine ⟨v, U', S, ?_, ?_, hs⟩
      · simp (disch := omega) only [fX3_topicsForPeace_2, h4, c1, l_0, l_1, l_2, l_3, l_4, l_5, l_6, l_7, l_8, l_9, l_10, l_11, l_12, l_13, l_14, l_15, l_16, l_17, l_18, l_19, l_20, l_21, l_22, l_23, l_24, l_25, l_30, l_31, l_32, l_40, l_48, l_54, l_57, l_59, l_60, l_61, l_62, l_63, l_65, l_66, l_72, l_82, l_92, l_93, l_94, l_97, l_99, l_100, l_101, l_102, l_103, l_104, l_105, l_107, l_108, l_109, l_110, l_111, l_112, l_114, l_115, l_116, l_117, l_119, l_121, l_122, l_136, l_200, l_255, l_300, l_364, l_900, l_1000, l_1456, l_1458, l_1459, l_1460, l_1462, l_1471, l_1504, l_1510, l_1522, l_1550, l_2971, l_9999, l_10000, l_10979, l_65536, l_m1, nI_add, pk_mul, q_sub, q_ltT, q_ltF, q_leT, q_leF, q_eqT, q_eqF, q_inT, q_inF, nI_clamp, q_mlt, q_mle, q_mne, q_mne2, q_mnlt, q_mnle, Option.bind_some, if_true, if_false, reduceIte, ite_not, not_true_eq_false, not_false_eq_true, q_z1, Nat.reduceEqDiff]
      · simp (disch := omega) only [fX12_peace_28, h33, l_0, l_1, l_2, l_3, l_4, l_5, l_6, l_7, l_8, l_9, l_10, l_11, l_12, l_13, l_14, l_15, l_16, l_17, l_18, l_19, l_20, l_21, l_22, l_23, l_24, l_25, l_30, l_31, l_32, l_40, l_48, l_54, l_57, l_59, l_60, l_61, l_62, l_63, l_65, l_66, l_72, l_82, l_92, l_93, l_94, l_97, l_99, l_100, l_101, l_102, l_103, l_104, l_105, l_107, l_108, l_109, l_110, l_111, l_112, l_114, l_115, l_116, l_117, l_119, l_121, l_122, l_136, l_200, l_255, l_300, l_364, l_900, l_1000, l_1456, l_1458, l_1459, l_1460, l_1462, l_1471, l_1504, l_1510, l_1522, l_1550, l_2971, l_9999, l_10000, l_10979, l_65536, l_m1, nI_add, pk_mul, q_sub, q_ltT, q_ltF, q_leT, q_leF, q_eqT, q_eqF, q_inT, q_inF, nI_clamp, q_mlt, q_mle, q_mne, q_mne2, q_mnlt, q_mnle, Option.bind_some, if_true, if_false, reduceIte, ite_not, not_true_eq_false, not_false_eq_true, q_z1, Nat.reduceEqDiff]
    · obtain ⟨S', m', i', g1, g2, g3, g4, g5⟩ := M_laysQuarrels w (sq_N hM hs) (wd := v + 1) (by omega) (by omega)
      obtain ⟨x, U2, S2, r1, r2, r3⟩ := ih (v + 1) U' S' m' i' fu1 fu2 (by omega) (by omega) (by omega) (by omega) (sq_tr hs g2) g3 g5 c2
      refine ⟨x, U2, S2, ?_, ?_, r3⟩
      · rw [← r1]
        simp (disch := omega) only [fX3_topicsForPeace_2, h4, c1, l_0, l_1, l_2, l_3, l_4, l_5, l_6, l_7, l_8, l_9, l_10, l_11, l_12, l_13, l_14, l_15, l_16, l_17, l_18, l_19, l_20, l_21, l_22, l_23, l_24, l_25, l_30, l_31, l_32, l_40, l_48, l_54, l_57, l_59, l_60, l_61, l_62, l_63, l_65, l_66, l_72, l_82, l_92, l_93, l_94, l_97, l_99, l_100, l_101, l_102, l_103, l_104, l_105, l_107, l_108, l_109, l_110, l_111, l_112, l_114, l_115, l_116, l_117, l_119, l_121, l_122, l_136, l_200, l_255, l_300, l_364, l_900, l_1000, l_1456, l_1458, l_1459, l_1460, l_1462, l_1471, l_1504, l_1510, l_1522, l_1550, l_2971, l_9999, l_10000, l_10979, l_65536, l_m1, nI_add, pk_mul, q_sub, q_ltT, q_ltF, q_leT, q_leF, q_eqT, q_eqF, q_inT, q_inF, nI_clamp, q_mlt, q_mle, q_mne, q_mne2, q_mnlt, q_mnle, Option.bind_some, if_true, if_false, reduceIte, ite_not, not_true_eq_false, not_false_eq_true, q_z1, Nat.reduceEqDiff]
      · rw [← r2]
        simp (disch := omega) only [fX12_peace_28, h33, g1, l_0, l_1, l_2, l_3, l_4, l_5, l_6, l_7, l_8, l_9, l_10, l_11, l_12, l_13, l_14, l_15, l_16, l_17, l_18, l_19, l_20, l_21, l_22, l_23, l_24, l_25, l_30, l_31, l_32, l_40, l_48, l_54, l_57, l_59, l_60, l_61, l_62, l_63, l_65, l_66, l_72, l_82, l_92, l_93, l_94, l_97, l_99, l_100, l_101, l_102, l_103, l_104, l_105, l_107, l_108, l_109, l_110, l_111, l_112, l_114, l_115, l_116, l_117, l_119, l_121, l_122, l_136, l_200, l_255, l_300, l_364, l_900, l_1000, l_1456, l_1458, l_1459, l_1460, l_1462, l_1471, l_1504, l_1510, l_1522, l_1550, l_2971, l_9999, l_10000, l_10979, l_65536, l_m1, nI_add, pk_mul, q_sub, q_ltT, q_ltF, q_leT, q_leF, q_eqT, q_eqF, q_inT, q_inF, nI_clamp, q_mlt, q_mle, q_mne, q_mne2, q_mnlt, q_mnle, Option.bind_some, if_true, if_false, reduceIte, ite_not, not_true_eq_false, not_false_eq_true, q_z1, Nat.reduceEqDiff]
end Q66
theorem rl_sq {SC SY0 SY1 SY2 SY3 SB ST0 SE0 ST2 SE2 ST3 SE3 ST4 SE4 SV0 SM S : ms_T} (hR : Rl SC SY0 SY1 SY2 SY3 SB ST0 SE0 ST2 SE2 ST3 SE3 ST4 SE4 SV0 SM) (s : sq (si (si SM 1 (nI 0)) 0 (nI 0)) S) : Rl (si SC 0 (nI 0)) SY0 SY1 SY2 SY3 SB ST0 SE0 ST2 SE2 ST3 SE3 ST4 SE4 SV0 S :=
  rl_scr hR ⟨⟨s.2.1 2, s.2.1 3⟩, s.1 8 (by omega) (by omega), s.1 10 (by omega) (by omega), s.1 11 (by omega) (by omega), s.1 23 (by omega) (by omega), s.1 40 (by omega) (by omega), s.2.2.1 4 (by omega), s.2.2.1 5 (by omega), s.2.2.1 12 (by omega), s.2.2.2 7⟩ (s.2.2.1 1 (by omega)) (s.2.2.1 2 (by omega)) (s.2.2.2 3) (s.1 0 (by omega) (by omega))
theorem o_peace : op_peace Rl := by
  intro SC SY0 SY1 SY2 SY3 SB ST0 SE0 ST2 SE2 ST3 SE3 ST4 SE4 SV0 SM SP0 SU hR 
  obtain ⟨hs, hF, hU, hT, ⟨hY0, hY1, hY2, hY3⟩, ⟨t, w, hC, hN0, n1, n2, n3, hE⟩, hK, hV⟩ := id hR
  have hN := tb_N0 hN0
  have hN2 : tb_N (si (si SM 1 (nI 0)) 0 (nI 0)) t := hN
  have hNu : ∀ i, i < 92 → ra SM 5 i = nI (t i) := hN
  obtain ⟨w0, w1, w2, w3, w4, w5, w6, w7, w8, w9⟩ := id w
  obtain ⟨h0, h1, h2, h3, h4, h5, h6, h7, h8, h9, h10, h11, h12, h13, h14, h15, h16⟩ := id hC
  obtain ⟨f, b1, b3⟩ := U_begin (U := SU) w hC
  by_cases c : t 2 = 0
  · have e2 : ra SM 5 2 = nI 0 := by rw [hNu 2 (by omega), c]
    rw [c] at h4
    have e1 : fX3_topicsForPeace (sr SU 1 f) ST0 = some (nI 0, sr SU 1 f, ST0) := by
      obtain ⟨y, hy⟩ : ∃ y, FU = y + 1 := ⟨999999, rfl⟩
      unfold fX3_topicsForPeace
      rw [hy]
      simp (disch := omega) only [fX3_topicsForPeace_2, h4, l_0, l_1, l_2, l_3, l_4, l_5, l_6, l_7, l_8, l_9, l_10, l_11, l_12, l_13, l_14, l_15, l_16, l_17, l_18, l_19, l_20, l_21, l_22, l_23, l_24, l_25, l_30, l_31, l_32, l_40, l_48, l_54, l_57, l_59, l_60, l_61, l_62, l_63, l_65, l_66, l_72, l_82, l_92, l_93, l_94, l_97, l_99, l_100, l_101, l_102, l_103, l_104, l_105, l_107, l_108, l_109, l_110, l_111, l_112, l_114, l_115, l_116, l_117, l_119, l_121, l_122, l_136, l_200, l_255, l_300, l_364, l_900, l_1000, l_1456, l_1458, l_1459, l_1460, l_1462, l_1471, l_1504, l_1510, l_1522, l_1550, l_2971, l_9999, l_10000, l_10979, l_65536, l_m1, nI_add, pk_mul, q_sub, q_ltT, q_ltF, q_leT, q_leF, q_eqT, q_eqF, q_inT, q_inF, nI_clamp, q_mlt, q_mle, q_mne, q_mne2, q_mnlt, q_mnle, Option.bind_some, if_true, if_false, reduceIte, ite_not, not_true_eq_false, not_false_eq_true, q_z1, Nat.reduceEqDiff]
    simp (disch := omega) only [fX11_peace, fX12_peace, b1, e1, e2, fX11_answer, fX11_refuse, fX11_deny, fX11_grant, fX12_refuse, fX12_no, l_0, l_1, l_2, l_3, l_4, l_5, l_6, l_7, l_8, l_9, l_10, l_11, l_12, l_13, l_14, l_15, l_16, l_17, l_18, l_19, l_20, l_21, l_22, l_23, l_24, l_25, l_30, l_31, l_32, l_40, l_48, l_54, l_57, l_59, l_60, l_61, l_62, l_63, l_65, l_66, l_72, l_82, l_92, l_93, l_94, l_97, l_99, l_100, l_101, l_102, l_103, l_104, l_105, l_107, l_108, l_109, l_110, l_111, l_112, l_114, l_115, l_116, l_117, l_119, l_121, l_122, l_136, l_200, l_255, l_300, l_364, l_900, l_1000, l_1456, l_1458, l_1459, l_1460, l_1462, l_1471, l_1504, l_1510, l_1522, l_1550, l_2971, l_9999, l_10000, l_10979, l_65536, l_m1, nI_add, pk_mul, q_sub, q_ltT, q_ltF, q_leT, q_leF, q_eqT, q_eqF, q_inT, q_inF, nI_clamp, q_mlt, q_mle, q_mne, q_mne2, q_mnlt, q_mnle, q_gi, q_gil, q_gir, q_giR, q_gl, q_gli, q_glr, q_glR, q_ra, q_rai, q_ral, q_raR, q_rl, q_rli, q_rll, q_rlr, sa, sA, ia, la, q_srsr, q_sRsR, Option.bind_some, if_true, if_false, reduceIte, ite_not, not_true_eq_false, not_false_eq_true, q_z1, Nat.reduceEqDiff]
    exact ⟨_, _, rfl, rfl, rfl, rl_st hR _⟩
  · obtain ⟨S', m', i', g1, g2, g3, g4, g5⟩ := M_laysQuarrels w hN2 (wd := 1) (by omega) (by omega)
    obtain ⟨x, U2, S2, r1, r2, r3⟩ := peace_loop w hC hN2 (t 2 - 1) 1 (sr SU 1 f) S' m' i' FU FU (by omega) (by omega) (by unfold FU; omega) (by unfold FU; omega) g2 g3 g5 b3
    have e1 : fX3_topicsForPeace (sr SU 1 f) ST0 = some (nI x, U2, ST0) := r1
    have e2 : ¬ (nI (t 2) = nI 0) := fun g => c ((nI_eq (by omega) (by omega)).mp g)
    have e3 : ra SM 5 2 = nI (t 2) := hNu 2 (by omega)
    simp (disch := omega) only [fX11_peace, fX12_peace, b1, e1, e2, e3, g1, r2, fX11_answer, fX11_refuse, fX11_deny, fX11_grant, fX12_refuse, fX12_no, l_0, l_1, l_2, l_3, l_4, l_5, l_6, l_7, l_8, l_9, l_10, l_11, l_12, l_13, l_14, l_15, l_16, l_17, l_18, l_19, l_20, l_21, l_22, l_23, l_24, l_25, l_30, l_31, l_32, l_40, l_48, l_54, l_57, l_59, l_60, l_61, l_62, l_63, l_65, l_66, l_72, l_82, l_92, l_93, l_94, l_97, l_99, l_100, l_101, l_102, l_103, l_104, l_105, l_107, l_108, l_109, l_110, l_111, l_112, l_114, l_115, l_116, l_117, l_119, l_121, l_122, l_136, l_200, l_255, l_300, l_364, l_900, l_1000, l_1456, l_1458, l_1459, l_1460, l_1462, l_1471, l_1504, l_1510, l_1522, l_1550, l_2971, l_9999, l_10000, l_10979, l_65536, l_m1, nI_add, pk_mul, q_sub, q_ltT, q_ltF, q_leT, q_leF, q_eqT, q_eqF, q_inT, q_inF, nI_clamp, q_mlt, q_mle, q_mne, q_mne2, q_mnlt, q_mnle, q_gi, q_gil, q_gir, q_giR, q_gl, q_gli, q_glr, q_glR, q_ra, q_rai, q_ral, q_raR, q_rl, q_rli, q_rll, q_rlr, sa, sA, ia, la, q_srsr, q_sRsR, Option.bind_some, if_true, if_false, reduceIte, ite_not, not_true_eq_false, not_false_eq_true, q_z1, Nat.reduceEqDiff]
    exact ⟨_, _, rfl, rfl, rfl, rl_sq hR r3⟩
theorem o_quarrels : op_quarrels Rl := by
  intro SC SY0 SY1 SY2 SY3 SB ST0 SE0 ST2 SE2 ST3 SE3 ST4 SE4 SV0 SM SP0 SU hR a1
  obtain ⟨hs, hF, hU, hT, ⟨hY0, hY1, hY2, hY3⟩, ⟨t, w, hC, hN0, n1, n2, n3, hE⟩, hK, hV⟩ := id hR
  have hN := tb_N0 hN0
  have hN2 : tb_N (si (si SM 1 (nI 0)) 0 (nI 0)) t := hN
  have hNu : ∀ i, i < 92 → ra SM 5 i = nI (t i) := hN
  obtain ⟨w0, w1, w2, w3, w4, w5, w6, w7, w8, w9⟩ := id w
  obtain ⟨h0, h1, h2, h3, h4, h5, h6, h7, h8, h9, h10, h11, h12, h13, h14, h15, h16⟩ := id hC
  have hI := q_in14 (x := a1)
  rcases q_ix a1 5 (by omega) with ⟨h, e⟩ | ⟨h, h2', e⟩ | ⟨n, hn, rfl⟩
  · simp (disch := omega) only [fX11_quarrels, fX12_quarrels, fX11_quarrels_10, fX11_answer, fX11_refuse, fX11_deny, fX11_grant, fX12_refuse, fX12_no, hI, e, Bool.false_and, q_ngl h, bi, b2_0, l_0, l_1, l_2, l_3, l_4, l_5, l_6, l_7, l_8, l_9, l_10, l_11, l_12, l_13, l_14, l_15, l_16, l_17, l_18, l_19, l_20, l_21, l_22, l_23, l_24, l_25, l_30, l_31, l_32, l_40, l_48, l_54, l_57, l_59, l_60, l_61, l_62, l_63, l_65, l_66, l_72, l_82, l_92, l_93, l_94, l_97, l_99, l_100, l_101, l_102, l_103, l_104, l_105, l_107, l_108, l_109, l_110, l_111, l_112, l_114, l_115, l_116, l_117, l_119, l_121, l_122, l_136, l_200, l_255, l_300, l_364, l_900, l_1000, l_1456, l_1458, l_1459, l_1460, l_1462, l_1471, l_1504, l_1510, l_1522, l_1550, l_2971, l_9999, l_10000, l_10979, l_65536, l_m1, nI_add, pk_mul, q_sub, q_ltT, q_ltF, q_leT, q_leF, q_eqT, q_eqF, q_inT, q_inF, nI_clamp, q_mlt, q_mle, q_mne, q_mne2, q_mnlt, q_mnle, Option.bind_some, if_true, if_false, reduceIte, ite_not, not_true_eq_false, not_false_eq_true, q_z1, Nat.reduceEqDiff]
    exact ⟨_, _, rfl, rfl, rfl, rl_st2 hR _ _⟩
  · simp (disch := omega) only [fX11_quarrels, fX12_quarrels, fX11_quarrels_10, fX11_answer, fX11_refuse, fX11_deny, fX11_grant, fX12_refuse, fX12_no, hI, e, Bool.false_and, q_bgl h, q_bgle h, bi, b2_0, l_0, l_1, l_2, l_3, l_4, l_5, l_6, l_7, l_8, l_9, l_10, l_11, l_12, l_13, l_14, l_15, l_16, l_17, l_18, l_19, l_20, l_21, l_22, l_23, l_24, l_25, l_30, l_31, l_32, l_40, l_48, l_54, l_57, l_59, l_60, l_61, l_62, l_63, l_65, l_66, l_72, l_82, l_92, l_93, l_94, l_97, l_99, l_100, l_101, l_102, l_103, l_104, l_105, l_107, l_108, l_109, l_110, l_111, l_112, l_114, l_115, l_116, l_117, l_119, l_121, l_122, l_136, l_200, l_255, l_300, l_364, l_900, l_1000, l_1456, l_1458, l_1459, l_1460, l_1462, l_1471, l_1504, l_1510, l_1522, l_1550, l_2971, l_9999, l_10000, l_10979, l_65536, l_m1, nI_add, pk_mul, q_sub, q_ltT, q_ltF, q_leT, q_leF, q_eqT, q_eqF, q_inT, q_inF, nI_clamp, q_mlt, q_mle, q_mne, q_mne2, q_mnlt, q_mnle, Option.bind_some, if_true, if_false, reduceIte, ite_not, not_true_eq_false, not_false_eq_true, q_z1, Nat.reduceEqDiff]
    exact ⟨_, _, rfl, rfl, rfl, rl_st2 hR _ _⟩
  · have en : inb (nI n) 5 = true := q_inT hn (by omega)
    by_cases c : n = 0
    · subst c
      simp (disch := omega) only [fX11_quarrels, fX12_quarrels, fX11_quarrels_10, fX11_answer, fX11_refuse, fX11_deny, fX11_grant, fX12_refuse, fX12_no, hI, en, ne_eq, not_true_eq_false, decide_false, Bool.and_false, bi, b2_0, b2_1, l_0, l_1, l_2, l_3, l_4, l_5, l_6, l_7, l_8, l_9, l_10, l_11, l_12, l_13, l_14, l_15, l_16, l_17, l_18, l_19, l_20, l_21, l_22, l_23, l_24, l_25, l_30, l_31, l_32, l_40, l_48, l_54, l_57, l_59, l_60, l_61, l_62, l_63, l_65, l_66, l_72, l_82, l_92, l_93, l_94, l_97, l_99, l_100, l_101, l_102, l_103, l_104, l_105, l_107, l_108, l_109, l_110, l_111, l_112, l_114, l_115, l_116, l_117, l_119, l_121, l_122, l_136, l_200, l_255, l_300, l_364, l_900, l_1000, l_1456, l_1458, l_1459, l_1460, l_1462, l_1471, l_1504, l_1510, l_1522, l_1550, l_2971, l_9999, l_10000, l_10979, l_65536, l_m1, nI_add, pk_mul, q_sub, q_ltT, q_ltF, q_leT, q_leF, q_eqT, q_eqF, q_inT, q_inF, nI_clamp, q_mlt, q_mle, q_mne, q_mne2, q_mnlt, q_mnle, Option.bind_some, if_true, if_false, reduceIte, ite_not, not_true_eq_false, not_false_eq_true, q_z1, Nat.reduceEqDiff]
      exact ⟨_, _, rfl, rfl, rfl, rl_st2 hR _ _⟩
    · have c' : nI n ≠ nI 0 := fun g => c ((nI_eq (by omega) (by omega)).mp g)
      obtain ⟨f, b1, b3⟩ := U_begin (U := SU) w hC
      obtain ⟨U', m2, k, c1, c2, c3, c4, c5, c6, c7, c8⟩ := U_fewest (U := sr SU 1 f) w hC (wd := n) (by omega) (by omega) b3
      obtain ⟨S', m', i', g1, g2, g3, g4, g5⟩ := M_laysQuarrels w hN2 (wd := n) (by omega) (by omega)
      obtain ⟨em, -⟩ := fmn_join w (by omega) g5 c5 c6 c7 c8
      subst em
      simp (disch := omega) only [fX11_quarrels, fX12_quarrels, fX11_answer, fX11_refuse, fX11_deny, fX11_grant, fX12_refuse, fX12_no, hI, en, c', ne_eq, not_false_eq_true, decide_true, Bool.and_true, b1, c1, g1, bi, b2_0, b2_1, l_0, l_1, l_2, l_3, l_4, l_5, l_6, l_7, l_8, l_9, l_10, l_11, l_12, l_13, l_14, l_15, l_16, l_17, l_18, l_19, l_20, l_21, l_22, l_23, l_24, l_25, l_30, l_31, l_32, l_40, l_48, l_54, l_57, l_59, l_60, l_61, l_62, l_63, l_65, l_66, l_72, l_82, l_92, l_93, l_94, l_97, l_99, l_100, l_101, l_102, l_103, l_104, l_105, l_107, l_108, l_109, l_110, l_111, l_112, l_114, l_115, l_116, l_117, l_119, l_121, l_122, l_136, l_200, l_255, l_300, l_364, l_900, l_1000, l_1456, l_1458, l_1459, l_1460, l_1462, l_1471, l_1504, l_1510, l_1522, l_1550, l_2971, l_9999, l_10000, l_10979, l_65536, l_m1, nI_add, pk_mul, q_sub, q_ltT, q_ltF, q_leT, q_leF, q_eqT, q_eqF, q_inT, q_inF, nI_clamp, q_mlt, q_mle, q_mne, q_mne2, q_mnlt, q_mnle, Option.bind_some, if_true, if_false, reduceIte, ite_not, not_true_eq_false, not_false_eq_true, q_z1, Nat.reduceEqDiff]
      exact ⟨_, _, rfl, rfl, g3.symm, rl_sq hR g2⟩
theorem o_spread : op_spread Rl := by
  intro SC SY0 SY1 SY2 SY3 SB ST0 SE0 ST2 SE2 ST3 SE3 ST4 SE4 SV0 SM SP0 SU hR a1 a2
  obtain ⟨hs, hF, hU, hT, ⟨hY0, hY1, hY2, hY3⟩, ⟨t, w, hC, hN0, n1, n2, n3, hE⟩, hK, hV⟩ := id hR
  have hN := tb_N0 hN0
  have hN2 : tb_N (si (si SM 1 (nI 0)) 0 (nI 0)) t := hN
  have hNu : ∀ i, i < 92 → ra SM 5 i = nI (t i) := hN
  obtain ⟨w0, w1, w2, w3, w4, w5, w6, w7, w8, w9⟩ := id w
  obtain ⟨h0, h1, h2, h3, h4, h5, h6, h7, h8, h9, h10, h11, h12, h13, h14, h15, h16⟩ := id hC
  have hI := q_in14 (x := a1)
  have e1 := T_isTalker w hC a2
  have e2 := N_isTalkerAt w hN2 a2
  rcases q_ix a2 (t 2) (by omega) with ⟨h, e⟩ | ⟨h, h2', e⟩ | ⟨p, hp, rfl⟩
  · simp (disch := omega) only [fX11_spread, fX12_spread, fX11_answer, fX11_refuse, fX11_deny, fX11_grant, fX12_refuse, fX12_no, e1, e2, e, bi, b2_0, l_0, l_1, l_2, l_3, l_4, l_5, l_6, l_7, l_8, l_9, l_10, l_11, l_12, l_13, l_14, l_15, l_16, l_17, l_18, l_19, l_20, l_21, l_22, l_23, l_24, l_25, l_30, l_31, l_32, l_40, l_48, l_54, l_57, l_59, l_60, l_61, l_62, l_63, l_65, l_66, l_72, l_82, l_92, l_93, l_94, l_97, l_99, l_100, l_101, l_102, l_103, l_104, l_105, l_107, l_108, l_109, l_110, l_111, l_112, l_114, l_115, l_116, l_117, l_119, l_121, l_122, l_136, l_200, l_255, l_300, l_364, l_900, l_1000, l_1456, l_1458, l_1459, l_1460, l_1462, l_1471, l_1504, l_1510, l_1522, l_1550, l_2971, l_9999, l_10000, l_10979, l_65536, l_m1, nI_add, pk_mul, q_sub, q_ltT, q_ltF, q_leT, q_leF, q_eqT, q_eqF, q_inT, q_inF, nI_clamp, q_mlt, q_mle, q_mne, q_mne2, q_mnlt, q_mnle, Option.bind_some, if_true, if_false, reduceIte, ite_not, not_true_eq_false, not_false_eq_true, q_z1, Nat.reduceEqDiff]
    exact ⟨_, _, rfl, rfl, rfl, rl_st2 hR _ _⟩
  · simp (disch := omega) only [fX11_spread, fX12_spread, fX11_answer, fX11_refuse, fX11_deny, fX11_grant, fX12_refuse, fX12_no, e1, e2, e, bi, b2_0, l_0, l_1, l_2, l_3, l_4, l_5, l_6, l_7, l_8, l_9, l_10, l_11, l_12, l_13, l_14, l_15, l_16, l_17, l_18, l_19, l_20, l_21, l_22, l_23, l_24, l_25, l_30, l_31, l_32, l_40, l_48, l_54, l_57, l_59, l_60, l_61, l_62, l_63, l_65, l_66, l_72, l_82, l_92, l_93, l_94, l_97, l_99, l_100, l_101, l_102, l_103, l_104, l_105, l_107, l_108, l_109, l_110, l_111, l_112, l_114, l_115, l_116, l_117, l_119, l_121, l_122, l_136, l_200, l_255, l_300, l_364, l_900, l_1000, l_1456, l_1458, l_1459, l_1460, l_1462, l_1471, l_1504, l_1510, l_1522, l_1550, l_2971, l_9999, l_10000, l_10979, l_65536, l_m1, nI_add, pk_mul, q_sub, q_ltT, q_ltF, q_leT, q_leF, q_eqT, q_eqF, q_inT, q_inF, nI_clamp, q_mlt, q_mle, q_mne, q_mne2, q_mnlt, q_mnle, Option.bind_some, if_true, if_false, reduceIte, ite_not, not_true_eq_false, not_false_eq_true, q_z1, Nat.reduceEqDiff]
    exact ⟨_, _, rfl, rfl, rfl, rl_st2 hR _ _⟩
  · have ep : inb (nI p) (t 2) = true := q_inT hp (by omega)
    rcases q_ix a1 5 (by omega) with ⟨h, e⟩ | ⟨h, h2', e⟩ | ⟨n, hn, rfl⟩
    · simp (disch := omega) only [fX11_spread, fX12_spread, fX11_spread_30, fX11_answer, fX11_refuse, fX11_deny, fX11_grant, fX12_refuse, fX12_no, e1, e2, ep, hI, e, Bool.false_and, q_ngl h, bi, b2_0, b2_1, l_0, l_1, l_2, l_3, l_4, l_5, l_6, l_7, l_8, l_9, l_10, l_11, l_12, l_13, l_14, l_15, l_16, l_17, l_18, l_19, l_20, l_21, l_22, l_23, l_24, l_25, l_30, l_31, l_32, l_40, l_48, l_54, l_57, l_59, l_60, l_61, l_62, l_63, l_65, l_66, l_72, l_82, l_92, l_93, l_94, l_97, l_99, l_100, l_101, l_102, l_103, l_104, l_105, l_107, l_108, l_109, l_110, l_111, l_112, l_114, l_115, l_116, l_117, l_119, l_121, l_122, l_136, l_200, l_255, l_300, l_364, l_900, l_1000, l_1456, l_1458, l_1459, l_1460, l_1462, l_1471, l_1504, l_1510, l_1522, l_1550, l_2971, l_9999, l_10000, l_10979, l_65536, l_m1, nI_add, pk_mul, q_sub, q_ltT, q_ltF, q_leT, q_leF, q_eqT, q_eqF, q_inT, q_inF, nI_clamp, q_mlt, q_mle, q_mne, q_mne2, q_mnlt, q_mnle, Option.bind_some, if_true, if_false, reduceIte, ite_not, not_true_eq_false, not_false_eq_true, q_z1, Nat.reduceEqDiff]
      exact ⟨_, _, rfl, rfl, rfl, rl_st2 hR _ _⟩
    · simp (disch := omega) only [fX11_spread, fX12_spread, fX11_spread_30, fX11_answer, fX11_refuse, fX11_deny, fX11_grant, fX12_refuse, fX12_no, e1, e2, ep, hI, e, Bool.false_and, q_bgl h, q_bgle h, bi, b2_0, b2_1, l_0, l_1, l_2, l_3, l_4, l_5, l_6, l_7, l_8, l_9, l_10, l_11, l_12, l_13, l_14, l_15, l_16, l_17, l_18, l_19, l_20, l_21, l_22, l_23, l_24, l_25, l_30, l_31, l_32, l_40, l_48, l_54, l_57, l_59, l_60, l_61, l_62, l_63, l_65, l_66, l_72, l_82, l_92, l_93, l_94, l_97, l_99, l_100, l_101, l_102, l_103, l_104, l_105, l_107, l_108, l_109, l_110, l_111, l_112, l_114, l_115, l_116, l_117, l_119, l_121, l_122, l_136, l_200, l_255, l_300, l_364, l_900, l_1000, l_1456, l_1458, l_1459, l_1460, l_1462, l_1471, l_1504, l_1510, l_1522, l_1550, l_2971, l_9999, l_10000, l_10979, l_65536, l_m1, nI_add, pk_mul, q_sub, q_ltT, q_ltF, q_leT, q_leF, q_eqT, q_eqF, q_inT, q_inF, nI_clamp, q_mlt, q_mle, q_mne, q_mne2, q_mnlt, q_mnle, Option.bind_some, if_true, if_false, reduceIte, ite_not, not_true_eq_false, not_false_eq_true, q_z1, Nat.reduceEqDiff]
      exact ⟨_, _, rfl, rfl, rfl, rl_st2 hR _ _⟩
    · have en : inb (nI n) 5 = true := q_inT hn (by omega)
      by_cases c : n = 0
      · subst c
        simp (disch := omega) only [fX11_spread, fX12_spread, fX11_spread_30, fX11_answer, fX11_refuse, fX11_deny, fX11_grant, fX12_refuse, fX12_no, e1, e2, ep, hI, en, ne_eq, not_true_eq_false, decide_false, Bool.and_false, bi, b2_0, b2_1, l_0, l_1, l_2, l_3, l_4, l_5, l_6, l_7, l_8, l_9, l_10, l_11, l_12, l_13, l_14, l_15, l_16, l_17, l_18, l_19, l_20, l_21, l_22, l_23, l_24, l_25, l_30, l_31, l_32, l_40, l_48, l_54, l_57, l_59, l_60, l_61, l_62, l_63, l_65, l_66, l_72, l_82, l_92, l_93, l_94, l_97, l_99, l_100, l_101, l_102, l_103, l_104, l_105, l_107, l_108, l_109, l_110, l_111, l_112, l_114, l_115, l_116, l_117, l_119, l_121, l_122, l_136, l_200, l_255, l_300, l_364, l_900, l_1000, l_1456, l_1458, l_1459, l_1460, l_1462, l_1471, l_1504, l_1510, l_1522, l_1550, l_2971, l_9999, l_10000, l_10979, l_65536, l_m1, nI_add, pk_mul, q_sub, q_ltT, q_ltF, q_leT, q_leF, q_eqT, q_eqF, q_inT, q_inF, nI_clamp, q_mlt, q_mle, q_mne, q_mne2, q_mnlt, q_mnle, Option.bind_some, if_true, if_false, reduceIte, ite_not, not_true_eq_false, not_false_eq_true, q_z1, Nat.reduceEqDiff]
        exact ⟨_, _, rfl, rfl, rfl, rl_st2 hR _ _⟩
      · have c' : nI n ≠ nI 0 := fun g => c ((nI_eq (by omega) (by omega)).mp g)
        obtain ⟨f, b1, b3⟩ := U_begin (U := SU) w hC
        obtain ⟨U', m2, k, c1, c2, c3, c4, c5, c6, c7, c8⟩ := U_fewest (U := sr SU 1 f) w hC (wd := n) (by omega) (by omega) b3
        obtain ⟨S', m', i', g1, g2, g3, g4, g5⟩ := M_laysQuarrels w hN2 (wd := n) (by omega) (by omega)
        obtain ⟨em, ek⟩ := fmn_join w (by omega) g5 c5 c6 c7 c8
        have ib : i' < 1000000 := by
          have a1 := g5.1
          have a2 := pw_6 (wd := n) (k := t 2) (by omega) w2
          omega
        obtain ⟨f2, q1, q2⟩ := M_laysTopics w (sq_N hN2 g2) (wd := n) (c := i') (by omega) (by omega) ib
        have x1 : ra U' 3 p = nI (k p) := c3 p hp
        have x2 : f2 p = nI (k p) := by rw [q2 p hp, ek p hp]
        simp (disch := omega) only [fX11_spread, fX12_spread, fX11_answer, fX11_refuse, fX11_deny, fX11_grant, fX12_refuse, fX12_no, e1, e2, ep, hI, en, c', ne_eq, not_false_eq_true, decide_true, Bool.and_true, b1, c1, g1, g4, q1, x1, x2, bi, b2_0, b2_1, l_0, l_1, l_2, l_3, l_4, l_5, l_6, l_7, l_8, l_9, l_10, l_11, l_12, l_13, l_14, l_15, l_16, l_17, l_18, l_19, l_20, l_21, l_22, l_23, l_24, l_25, l_30, l_31, l_32, l_40, l_48, l_54, l_57, l_59, l_60, l_61, l_62, l_63, l_65, l_66, l_72, l_82, l_92, l_93, l_94, l_97, l_99, l_100, l_101, l_102, l_103, l_104, l_105, l_107, l_108, l_109, l_110, l_111, l_112, l_114, l_115, l_116, l_117, l_119, l_121, l_122, l_136, l_200, l_255, l_300, l_364, l_900, l_1000, l_1456, l_1458, l_1459, l_1460, l_1462, l_1471, l_1504, l_1510, l_1522, l_1550, l_2971, l_9999, l_10000, l_10979, l_65536, l_m1, nI_add, pk_mul, q_sub, q_ltT, q_ltF, q_leT, q_leF, q_eqT, q_eqF, q_inT, q_inF, nI_clamp, q_mlt, q_mle, q_mne, q_mne2, q_mnlt, q_mnle, q_gi, q_gil, q_gir, q_giR, q_gl, q_gli, q_glr, q_glR, q_ra, q_rai, q_ral, q_raR, q_rl, q_rli, q_rll, q_rlr, sa, sA, ia, la, q_srsr, q_sRsR, Option.bind_some, if_true, if_false, reduceIte, ite_not, not_true_eq_false, not_false_eq_true, q_z1, Nat.reduceEqDiff]
        exact ⟨_, _, rfl, rfl, rfl, rl_sq hR (sq_9 g2)⟩
