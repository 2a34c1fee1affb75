/-! laws, lawOf, ask -/
theorem lok_cong {v u : Nat → Int64} {n : Nat} (hn : n ≤ 20) (e : ∀ i, i < 60 → v i = u i) (h : ∀ i, i < n → lok v i) : ∀ i, i < n → lok u i := fun i hi => by
  have := h i hi
  unfold lok at *
  rw [← e (2 * i) (by omega), ← e (2 * i + 1) (by omega)]
  exact this
theorem lwX_cong {v u : Nat → Int64} {n : Nat} (hn : n ≤ 20) (e : ∀ i, i < 60 → v i = u i) : lwX v n = lwX u n := bs_eq (fun law _ => by
  show (!anyb (nfit v law) n) = (!anyb (nfit u law) n)
  rw [anyb_cong (fun k hk => by
    show nfit v law k = nfit u law k
    unfold nfit hv lv
    rw [e (2 * k) (by omega), e (2 * k + 1) (by omega)])])
def mx (f : Nat → Nat) : Nat → Nat
  | 0 => 0
  | n + 1 => max (mx f n) (f n)
theorem mx_le {f : Nat → Nat} {c : Nat} (h : ∀ k, f k ≤ c) : ∀ n, mx f n ≤ c
  | 0 => Nat.zero_le _
  | n + 1 => by have := mx_le h n; have := h n; show max _ _ ≤ c; omega
theorem mx_ext {f : Nat → Nat} {m : Nat} : ∀ d, (∀ k, m ≤ k → f k = 0) → mx f (m + d) = mx f m
  | 0, _ => rfl
  | d + 1, h => by
    show max (mx f (m + d)) (f (m + d)) = _
    rw [mx_ext d h, h _ (by omega)]; omega
def cta (X h to : Nat) : Nat := sm (fun law => b2 (X.testBit law && decide (lnl law h = to))) 32
theorem cta_le (X h to : Nat) : cta X h to ≤ 32 := by
  have := sm_le (f := fun law => b2 (X.testBit law && decide (lnl law h = to))) (c := 1) (n := 32) (fun k _ => b2_le _)
  unfold cta; omega
theorem cta_0 {X h to : Nat} (ht : h < to) : cta X h to = 0 := by
  have : cta X h to = sm (fun _ => 0) 32 := sm_cong (fun law _ => by
    have : lnl law h ≠ to := by unfold lnl; omega
    simp [this, b2])
  rw [this, sm_zero]
theorem q_maxi {a b : Nat} (ha : a < 2147483648) (hb : b < 2147483648) : jmax (nI a) (nI b) = nI (max a b) := by
  unfold jmax
  by_cases c : a < b
  · rw [if_pos (nI_lt c hb), Nat.max_eq_right (by omega)]
  · rw [if_neg (nI_nlt (by omega) ha), Nat.max_eq_left (by omega)]
theorem C_most {X h : Nat} (hh : h < 10) : fX11_mostAtOne (nI X) (nI h) = some (nI (mx (cta X h) (h + 1))) := by
  unfold fX11_mostAtOne
  obtain ⟨r, e, hr⟩ := lp_up (fun f i s => fX11_mostAtOne_4 f (nI X) (nI h) s i) (h + 1) (fun k s => s = nI (mx (cta X h) k)) (fun r => r = nI (mx (cta X h) (h + 1)))
    (fun f s hs => ⟨s, by simp (disch := omega) only [fX11_mostAtOne_4, l_0, l_1, l_2, l_3, l_4, l_5, l_6, l_7, l_8, l_9, l_10, l_11, l_12, l_13, l_14, l_15, l_16, l_17, l_18, l_19, l_20, l_21, l_22, l_23, l_24, l_25, l_30, l_31, l_32, l_40, l_48, l_54, l_57, l_59, l_60, l_61, l_62, l_63, l_65, l_66, l_72, l_82, l_92, l_93, l_94, l_97, l_99, l_100, l_101, l_102, l_103, l_104, l_105, l_107, l_108, l_109, l_110, l_111, l_112, l_114, l_115, l_116, l_117, l_119, l_121, l_122, l_136, l_200, l_255, l_300, l_364, l_900, l_1000, l_1456, l_1458, l_1459, l_1460, l_1462, l_1471, l_1504, l_1510, l_1522, l_1550, l_2971, l_9999, l_10000, l_10979, l_65536, l_m1, nI_add, pk_mul, q_sub, q_ltT, q_ltF, q_leT, q_leF, q_eqT, q_eqF, q_inT, q_inF, nI_clamp, q_mlt, q_mle, q_mne, q_mne2, q_mnlt, q_mnle, Option.bind_some, if_true, if_false, reduceIte, ite_not, not_true_eq_false, not_false_eq_true, q_z1, Nat.reduceEqDiff], hs⟩)
    (fun f k s hk hs => by
      left
      subst hs
      have m1 := mx_le (cta_le X h) k
      have m2 := cta_le X h k
      obtain ⟨s', i1, i2⟩ := lp_eq (fun n i c => fX11_mostAtOne_15 (fX11_mostAtOne_4 f) n (nI X) (nI h) (nI (mx (cta X h) k)) (nI k) c i) (fun c => fX11_mostAtOne_4 f (nI X) (nI h) (jmax (nI (mx (cta X h) k)) c) (nI (k + 1))) 32 (fun law c => c = nI (sm (fun law => b2 (X.testBit law && decide (lnl law h = k))) law))
        (fun n c hc => by simp (disch := omega) only [fX11_mostAtOne_15, l_0, l_1, l_2, l_3, l_4, l_5, l_6, l_7, l_8, l_9, l_10, l_11, l_12, l_13, l_14, l_15, l_16, l_17, l_18, l_19, l_20, l_21, l_22, l_23, l_24, l_25, l_30, l_31, l_32, l_40, l_48, l_54, l_57, l_59, l_60, l_61, l_62, l_63, l_65, l_66, l_72, l_82, l_92, l_93, l_94, l_97, l_99, l_100, l_101, l_102, l_103, l_104, l_105, l_107, l_108, l_109, l_110, l_111, l_112, l_114, l_115, l_116, l_117, l_119, l_121, l_122, l_136, l_200, l_255, l_300, l_364, l_900, l_1000, l_1456, l_1458, l_1459, l_1460, l_1462, l_1471, l_1504, l_1510, l_1522, l_1550, l_2971, l_9999, l_10000, l_10979, l_65536, l_m1, nI_add, pk_mul, q_sub, q_ltT, q_ltF, q_leT, q_leF, q_eqT, q_eqF, q_inT, q_inF, nI_clamp, q_mlt, q_mle, q_mne, q_mne2, q_mnlt, q_mnle, Option.bind_some, if_true, if_false, reduceIte, ite_not, not_true_eq_false, not_false_eq_true, q_z1, Nat.reduceEqDiff])
        (fun n law c hl hc => by
          subst hc
          refine ⟨_, rfl, ?_⟩
          have el := C_lands hl hh
          have eb := q_bit32 (a := X) hl
          have hle : lnl law h ≤ h := by unfold lnl; omega
          rw [sm_s]
          cases hb : X.testBit law
          · rw [hb] at eb
            simp (disch := omega) only [fX11_mostAtOne_15, eb, b2_0, Bool.false_and, Nat.add_zero, l_0, l_1, l_2, l_3, l_4, l_5, l_6, l_7, l_8, l_9, l_10, l_11, l_12, l_13, l_14, l_15, l_16, l_17, l_18, l_19, l_20, l_21, l_22, l_23, l_24, l_25, l_30, l_31, l_32, l_40, l_48, l_54, l_57, l_59, l_60, l_61, l_62, l_63, l_65, l_66, l_72, l_82, l_92, l_93, l_94, l_97, l_99, l_100, l_101, l_102, l_103, l_104, l_105, l_107, l_108, l_109, l_110, l_111, l_112, l_114, l_115, l_116, l_117, l_119, l_121, l_122, l_136, l_200, l_255, l_300, l_364, l_900, l_1000, l_1456, l_1458, l_1459, l_1460, l_1462, l_1471, l_1504, l_1510, l_1522, l_1550, l_2971, l_9999, l_10000, l_10979, l_65536, l_m1, nI_add, pk_mul, q_sub, q_ltT, q_ltF, q_leT, q_leF, q_eqT, q_eqF, q_inT, q_inF, nI_clamp, q_mlt, q_mle, q_mne, q_mne2, q_mnlt, q_mnle, Option.bind_some, if_true, if_false, reduceIte, ite_not, not_true_eq_false, not_false_eq_true, q_z1, Nat.reduceEqDiff]
          · rw [hb] at eb
            by_cases d : lnl law h = k
            · simp (disch := omega) only [fX11_mostAtOne_15, eb, el, d, b2_1, Bool.true_and, decide_true, l_0, l_1, l_2, l_3, l_4, l_5, l_6, l_7, l_8, l_9, l_10, l_11, l_12, l_13, l_14, l_15, l_16, l_17, l_18, l_19, l_20, l_21, l_22, l_23, l_24, l_25, l_30, l_31, l_32, l_40, l_48, l_54, l_57, l_59, l_60, l_61, l_62, l_63, l_65, l_66, l_72, l_82, l_92, l_93, l_94, l_97, l_99, l_100, l_101, l_102, l_103, l_104, l_105, l_107, l_108, l_109, l_110, l_111, l_112, l_114, l_115, l_116, l_117, l_119, l_121, l_122, l_136, l_200, l_255, l_300, l_364, l_900, l_1000, l_1456, l_1458, l_1459, l_1460, l_1462, l_1471, l_1504, l_1510, l_1522, l_1550, l_2971, l_9999, l_10000, l_10979, l_65536, l_m1, nI_add, pk_mul, q_sub, q_ltT, q_ltF, q_leT, q_leF, q_eqT, q_eqF, q_inT, q_inF, nI_clamp, q_mlt, q_mle, q_mne, q_mne2, q_mnlt, q_mnle, Option.bind_some, if_true, if_false, reduceIte, ite_not, not_true_eq_false, not_false_eq_true, q_z1, Nat.reduceEqDiff]
            · simp (disch := omega) only [fX11_mostAtOne_15, eb, el, d, b2_1, b2_0, Bool.true_and, decide_false, Nat.add_zero, l_0, l_1, l_2, l_3, l_4, l_5, l_6, l_7, l_8, l_9, l_10, l_11, l_12, l_13, l_14, l_15, l_16, l_17, l_18, l_19, l_20, l_21, l_22, l_23, l_24, l_25, l_30, l_31, l_32, l_40, l_48, l_54, l_57, l_59, l_60, l_61, l_62, l_63, l_65, l_66, l_72, l_82, l_92, l_93, l_94, l_97, l_99, l_100, l_101, l_102, l_103, l_104, l_105, l_107, l_108, l_109, l_110, l_111, l_112, l_114, l_115, l_116, l_117, l_119, l_121, l_122, l_136, l_200, l_255, l_300, l_364, l_900, l_1000, l_1456, l_1458, l_1459, l_1460, l_1462, l_1471, l_1504, l_1510, l_1522, l_1550, l_2971, l_9999, l_10000, l_10979, l_65536, l_m1, nI_add, pk_mul, q_sub, q_ltT, q_ltF, q_leT, q_leF, q_eqT, q_eqF, q_inT, q_inF, nI_clamp, q_mlt, q_mle, q_mne, q_mne2, q_mnlt, q_mnle, Option.bind_some, if_true, if_false, reduceIte, ite_not, not_true_eq_false, not_false_eq_true, q_z1, Nat.reduceEqDiff]) (nI 0) FU rfl (by unfold FU; omega)
      refine ⟨_, rfl, ?_⟩
      simp (disch := omega) only [fX11_mostAtOne_4, l_0, l_1, l_2, l_3, l_4, l_5, l_6, l_7, l_8, l_9, l_10, l_11, l_12, l_13, l_14, l_15, l_16, l_17, l_18, l_19, l_20, l_21, l_22, l_23, l_24, l_25, l_30, l_31, l_32, l_40, l_48, l_54, l_57, l_59, l_60, l_61, l_62, l_63, l_65, l_66, l_72, l_82, l_92, l_93, l_94, l_97, l_99, l_100, l_101, l_102, l_103, l_104, l_105, l_107, l_108, l_109, l_110, l_111, l_112, l_114, l_115, l_116, l_117, l_119, l_121, l_122, l_136, l_200, l_255, l_300, l_364, l_900, l_1000, l_1456, l_1458, l_1459, l_1460, l_1462, l_1471, l_1504, l_1510, l_1522, l_1550, l_2971, l_9999, l_10000, l_10979, l_65536, l_m1, nI_add, pk_mul, q_sub, q_ltT, q_ltF, q_leT, q_leF, q_eqT, q_eqF, q_inT, q_inF, nI_clamp, q_mlt, q_mle, q_mne, q_mne2, q_mnlt, q_mnle, Option.bind_some, if_true, if_false, reduceIte, ite_not, not_true_eq_false, not_false_eq_true, q_z1, Nat.reduceEqDiff]
      rw [i2, i1]
      show fX11_mostAtOne_4 f (nI X) (nI h) (jmax (nI (mx (cta X h) k)) (nI (cta X h k))) _ = _
      rw [q_maxi (by omega) (by omega)]
      rfl) 0 (nI 0) FU (by omega) rfl (by unfold FU; omega)
  rw [← hr]; exact e
theorem N_most {S : ms_T} {X h : Nat} (hX : gi S 28 = nI X) (hh : h < 10) : fX12_mostAlike S (nI h) = some (nI (mx (cta X h) (h + 1))) := by
  unfold fX12_mostAlike
  have e10 : mx (cta X h) 10 = mx (cta X h) (h + 1) := by
    obtain ⟨d, hd⟩ : ∃ d, 10 = h + 1 + d := ⟨9 - h, by omega⟩
    rw [hd]; exact mx_ext d (fun k hk => cta_0 (by omega))
  rw [← e10]
  obtain ⟨r, e, hr⟩ := lp_up (fun f i s => fX12_mostAlike_4 S f (nI h) s i) 10 (fun k s => s = nI (mx (cta X h) k)) (fun r => r = nI (mx (cta X h) 10))
    (fun f s hs => ⟨s, by simp (disch := omega) only [fX12_mostAlike_4, l_0, l_1, l_2, l_3, l_4, l_5, l_6, l_7, l_8, l_9, l_10, l_11, l_12, l_13, l_14, l_15, l_16, l_17, l_18, l_19, l_20, l_21, l_22, l_23, l_24, l_25, l_30, l_31, l_32, l_40, l_48, l_54, l_57, l_59, l_60, l_61, l_62, l_63, l_65, l_66, l_72, l_82, l_92, l_93, l_94, l_97, l_99, l_100, l_101, l_102, l_103, l_104, l_105, l_107, l_108, l_109, l_110, l_111, l_112, l_114, l_115, l_116, l_117, l_119, l_121, l_122, l_136, l_200, l_255, l_300, l_364, l_900, l_1000, l_1456, l_1458, l_1459, l_1460, l_1462, l_1471, l_1504, l_1510, l_1522, l_1550, l_2971, l_9999, l_10000, l_10979, l_65536, l_m1, nI_add, pk_mul, q_sub, q_ltT, q_ltF, q_leT, q_leF, q_eqT, q_eqF, q_inT, q_inF, nI_clamp, q_mlt, q_mle, q_mne, q_mne2, q_mnlt, q_mnle, Option.bind_some, if_true, if_false, reduceIte, ite_not, not_true_eq_false, not_false_eq_true, q_z1, Nat.reduceEqDiff], hs⟩)
    (fun f k s hk hs => by
      left
      subst hs
      have m1 := mx_le (cta_le X h) k
      have m2 := cta_le X h k
      obtain ⟨s', i1, i2⟩ := lp_eq (fun n i c => fX12_mostAlike_16 S (fX12_mostAlike_4 S f) n (nI h) (nI (mx (cta X h) k)) (nI k) c i) (fun c => fX12_mostAlike_4 S f (nI h) (jmax (nI (mx (cta X h) k)) c) (nI (k + 1))) 32 (fun law c => c = nI (sm (fun law => b2 (X.testBit law && decide (lnl law h = k))) law))
        (fun n c hc => by simp (disch := omega) only [fX12_mostAlike_16, l_0, l_1, l_2, l_3, l_4, l_5, l_6, l_7, l_8, l_9, l_10, l_11, l_12, l_13, l_14, l_15, l_16, l_17, l_18, l_19, l_20, l_21, l_22, l_23, l_24, l_25, l_30, l_31, l_32, l_40, l_48, l_54, l_57, l_59, l_60, l_61, l_62, l_63, l_65, l_66, l_72, l_82, l_92, l_93, l_94, l_97, l_99, l_100, l_101, l_102, l_103, l_104, l_105, l_107, l_108, l_109, l_110, l_111, l_112, l_114, l_115, l_116, l_117, l_119, l_121, l_122, l_136, l_200, l_255, l_300, l_364, l_900, l_1000, l_1456, l_1458, l_1459, l_1460, l_1462, l_1471, l_1504, l_1510, l_1522, l_1550, l_2971, l_9999, l_10000, l_10979, l_65536, l_m1, nI_add, pk_mul, q_sub, q_ltT, q_ltF, q_leT, q_leF, q_eqT, q_eqF, q_inT, q_inF, nI_clamp, q_mlt, q_mle, q_mne, q_mne2, q_mnlt, q_mnle, Option.bind_some, if_true, if_false, reduceIte, ite_not, not_true_eq_false, not_false_eq_true, q_z1, Nat.reduceEqDiff])
        (fun n law c hl hc => by
          subst hc
          refine ⟨_, rfl, ?_⟩
          have el := N_lands hl hh
          have eb := N_has32 (x := X) hl
          have hle : lnl law h ≤ h := by unfold lnl; omega
          rw [sm_s]
          cases hb : X.testBit law
          · rw [hb] at eb
            simp (disch := omega) only [fX12_mostAlike_16, hX, eb, bi, b2_0, Bool.false_and, Nat.add_zero, l_0, l_1, l_2, l_3, l_4, l_5, l_6, l_7, l_8, l_9, l_10, l_11, l_12, l_13, l_14, l_15, l_16, l_17, l_18, l_19, l_20, l_21, l_22, l_23, l_24, l_25, l_30, l_31, l_32, l_40, l_48, l_54, l_57, l_59, l_60, l_61, l_62, l_63, l_65, l_66, l_72, l_82, l_92, l_93, l_94, l_97, l_99, l_100, l_101, l_102, l_103, l_104, l_105, l_107, l_108, l_109, l_110, l_111, l_112, l_114, l_115, l_116, l_117, l_119, l_121, l_122, l_136, l_200, l_255, l_300, l_364, l_900, l_1000, l_1456, l_1458, l_1459, l_1460, l_1462, l_1471, l_1504, l_1510, l_1522, l_1550, l_2971, l_9999, l_10000, l_10979, l_65536, l_m1, nI_add, pk_mul, q_sub, q_ltT, q_ltF, q_leT, q_leF, q_eqT, q_eqF, q_inT, q_inF, nI_clamp, q_mlt, q_mle, q_mne, q_mne2, q_mnlt, q_mnle, Option.bind_some, if_true, if_false, reduceIte, ite_not, not_true_eq_false, not_false_eq_true, q_z1, Nat.reduceEqDiff]
          · rw [hb] at eb
            by_cases d : lnl law h = k
            · simp (disch := omega) only [fX12_mostAlike_16, hX, eb, el, d, bi, b2_1, Bool.true_and, decide_true, l_0, l_1, l_2, l_3, l_4, l_5, l_6, l_7, l_8, l_9, l_10, l_11, l_12, l_13, l_14, l_15, l_16, l_17, l_18, l_19, l_20, l_21, l_22, l_23, l_24, l_25, l_30, l_31, l_32, l_40, l_48, l_54, l_57, l_59, l_60, l_61, l_62, l_63, l_65, l_66, l_72, l_82, l_92, l_93, l_94, l_97, l_99, l_100, l_101, l_102, l_103, l_104, l_105, l_107, l_108, l_109, l_110, l_111, l_112, l_114, l_115, l_116, l_117, l_119, l_121, l_122, l_136, l_200, l_255, l_300, l_364, l_900, l_1000, l_1456, l_1458, l_1459, l_1460, l_1462, l_1471, l_1504, l_1510, l_1522, l_1550, l_2971, l_9999, l_10000, l_10979, l_65536, l_m1, nI_add, pk_mul, q_sub, q_ltT, q_ltF, q_leT, q_leF, q_eqT, q_eqF, q_inT, q_inF, nI_clamp, q_mlt, q_mle, q_mne, q_mne2, q_mnlt, q_mnle, Option.bind_some, if_true, if_false, reduceIte, ite_not, not_true_eq_false, not_false_eq_true, q_z1, Nat.reduceEqDiff]
            · simp (disch := omega) only [fX12_mostAlike_16, hX, eb, el, d, bi, b2_1, b2_0, Bool.true_and, decide_false, Nat.add_zero, l_0, l_1, l_2, l_3, l_4, l_5, l_6, l_7, l_8, l_9, l_10, l_11, l_12, l_13, l_14, l_15, l_16, l_17, l_18, l_19, l_20, l_21, l_22, l_23, l_24, l_25, l_30, l_31, l_32, l_40, l_48, l_54, l_57, l_59, l_60, l_61, l_62, l_63, l_65, l_66, l_72, l_82, l_92, l_93, l_94, l_97, l_99, l_100, l_101, l_102, l_103, l_104, l_105, l_107, l_108, l_109, l_110, l_111, l_112, l_114, l_115, l_116, l_117, l_119, l_121, l_122, l_136, l_200, l_255, l_300, l_364, l_900, l_1000, l_1456, l_1458, l_1459, l_1460, l_1462, l_1471, l_1504, l_1510, l_1522, l_1550, l_2971, l_9999, l_10000, l_10979, l_65536, l_m1, nI_add, pk_mul, q_sub, q_ltT, q_ltF, q_leT, q_leF, q_eqT, q_eqF, q_inT, q_inF, nI_clamp, q_mlt, q_mle, q_mne, q_mne2, q_mnlt, q_mnle, Option.bind_some, if_true, if_false, reduceIte, ite_not, not_true_eq_false, not_false_eq_true, q_z1, Nat.reduceEqDiff]) (nI 0) FU rfl (by unfold FU; omega)
      refine ⟨_, rfl, ?_⟩
      simp (disch := omega) only [fX12_mostAlike_4, l_0, l_1, l_2, l_3, l_4, l_5, l_6, l_7, l_8, l_9, l_10, l_11, l_12, l_13, l_14, l_15, l_16, l_17, l_18, l_19, l_20, l_21, l_22, l_23, l_24, l_25, l_30, l_31, l_32, l_40, l_48, l_54, l_57, l_59, l_60, l_61, l_62, l_63, l_65, l_66, l_72, l_82, l_92, l_93, l_94, l_97, l_99, l_100, l_101, l_102, l_103, l_104, l_105, l_107, l_108, l_109, l_110, l_111, l_112, l_114, l_115, l_116, l_117, l_119, l_121, l_122, l_136, l_200, l_255, l_300, l_364, l_900, l_1000, l_1456, l_1458, l_1459, l_1460, l_1462, l_1471, l_1504, l_1510, l_1522, l_1550, l_2971, l_9999, l_10000, l_10979, l_65536, l_m1, nI_add, pk_mul, q_sub, q_ltT, q_ltF, q_leT, q_leF, q_eqT, q_eqF, q_inT, q_inF, nI_clamp, q_mlt, q_mle, q_mne, q_mne2, q_mnlt, q_mnle, Option.bind_some, if_true, if_false, reduceIte, ite_not, not_true_eq_false, not_false_eq_true, q_z1, Nat.reduceEqDiff]
      rw [i2, i1]
      show fX12_mostAlike_4 S f (nI h) (jmax (nI (mx (cta X h) k)) (nI (cta X h k))) _ = _
      rw [q_maxi (by omega) (by omega)]
      rfl) 0 (nI 0) FU (by omega) rfl (by unfold FU; omega)
  rw [← hr]; exact e
def mst (X h : Nat) : Nat := mx (cta X h) (h + 1)
def bbs (X : Nat) : Nat → Nat
  | 0 => 1
  | k + 1 => if k = 0 then 1 else if mst X (k + 1) < mst X (bbs X k) then k + 1 else bbs X k
theorem bbs_r (X : Nat) : ∀ k, 1 ≤ bbs X k ∧ (1 ≤ k → bbs X k ≤ k)
  | 0 => ⟨Nat.le_refl _, fun h => absurd h (by omega)⟩
  | k + 1 => by
    have ih := bbs_r X k
    by_cases c : k = 0
    · subst c; exact ⟨Nat.le_refl 1, fun _ => Nat.le_refl 1⟩
    · show 1 ≤ (if k = 0 then 1 else if mst X (k + 1) < mst X (bbs X k) then k + 1 else bbs X k) ∧ (1 ≤ k + 1 → (if k = 0 then 1 else if mst X (k + 1) < mst X (bbs X k) then k + 1 else bbs X k) ≤ k + 1)
      have := ih.2 (by omega)
      rw [if_neg c]
      split <;> omega
theorem mst_le (X h : Nat) : mst X h ≤ 32 := mx_le (cta_le X h) _
theorem C_ask {SC SY0 SY1 SY2 SY3 : ms_T} {X : Nat} : fX11_ask_59 SY0 SY1 SY2 SY3 FU SC (nI X) (nI 1) (nI (mst X 1)) (nI 2) = some (nI (bbs X 9), si SC 0 (nI 0)) := by
  obtain ⟨r, e, hr⟩ := lp_up (fun f i (s : Int32 × Int32) => fX11_ask_59 SY0 SY1 SY2 SY3 f SC (nI X) s.1 s.2 i) 10 (fun k s => 2 ≤ k ∧ s = (nI (bbs X (k - 1)), nI (mst X (bbs X (k - 1))))) (fun r => r = (nI (bbs X 9), si SC 0 (nI 0)))
    (fun f s hs => by
      obtain ⟨-, rfl⟩ := hs
      exact ⟨_, by simp (disch := omega) only [fX11_ask_59, fX11_answer, fX11_refuse, fX11_deny, fX11_grant, fX12_refuse, fX12_no, l_0, l_1, l_2, l_3, l_4, l_5, l_6, l_7, l_8, l_9, l_10, l_11, l_12, l_13, l_14, l_15, l_16, l_17, l_18, l_19, l_20, l_21, l_22, l_23, l_24, l_25, l_30, l_31, l_32, l_40, l_48, l_54, l_57, l_59, l_60, l_61, l_62, l_63, l_65, l_66, l_72, l_82, l_92, l_93, l_94, l_97, l_99, l_100, l_101, l_102, l_103, l_104, l_105, l_107, l_108, l_109, l_110, l_111, l_112, l_114, l_115, l_116, l_117, l_119, l_121, l_122, l_136, l_200, l_255, l_300, l_364, l_900, l_1000, l_1456, l_1458, l_1459, l_1460, l_1462, l_1471, l_1504, l_1510, l_1522, l_1550, l_2971, l_9999, l_10000, l_10979, l_65536, l_m1, nI_add, pk_mul, q_sub, q_ltT, q_ltF, q_leT, q_leF, q_eqT, q_eqF, q_inT, q_inF, nI_clamp, q_mlt, q_mle, q_mne, q_mne2, q_mnlt, q_mnle, Option.bind_some, if_true, if_false, reduceIte, ite_not, not_true_eq_false, not_false_eq_true, q_z1, Nat.reduceEqDiff], rfl⟩)
    (fun f k s hk hs => by
      left
      obtain ⟨h2, rfl⟩ := hs
      have em : fX11_mostAtOne (nI X) (nI k) = some (nI (mst X k)) := C_most hk
      have l1 := mst_le X k
      have l2 := mst_le X (bbs X (k - 1))
      obtain ⟨j, rfl⟩ : ∃ j, k = j + 1 := ⟨k - 1, by omega⟩
      rw [Nat.add_sub_cancel] at *
      have eb : bbs X (j + 1) = if mst X (j + 1) < mst X (bbs X j) then j + 1 else bbs X j := by
        show (if j = 0 then 1 else _) = _
        rw [if_neg (by omega)]
      refine ⟨_, ⟨by omega, rfl⟩, ?_⟩
      rw [Nat.add_sub_cancel, eb]
      by_cases d : mst X (j + 1) < mst X (bbs X j)
      · simp (disch := omega) only [fX11_ask_59, em, d, l_0, l_1, l_2, l_3, l_4, l_5, l_6, l_7, l_8, l_9, l_10, l_11, l_12, l_13, l_14, l_15, l_16, l_17, l_18, l_19, l_20, l_21, l_22, l_23, l_24, l_25, l_30, l_31, l_32, l_40, l_48, l_54, l_57, l_59, l_60, l_61, l_62, l_63, l_65, l_66, l_72, l_82, l_92, l_93, l_94, l_97, l_99, l_100, l_101, l_102, l_103, l_104, l_105, l_107, l_108, l_109, l_110, l_111, l_112, l_114, l_115, l_116, l_117, l_119, l_121, l_122, l_136, l_200, l_255, l_300, l_364, l_900, l_1000, l_1456, l_1458, l_1459, l_1460, l_1462, l_1471, l_1504, l_1510, l_1522, l_1550, l_2971, l_9999, l_10000, l_10979, l_65536, l_m1, nI_add, pk_mul, q_sub, q_ltT, q_ltF, q_leT, q_leF, q_eqT, q_eqF, q_inT, q_inF, nI_clamp, q_mlt, q_mle, q_mne, q_mne2, q_mnlt, q_mnle, Option.bind_some, if_true, if_false, reduceIte, ite_not, not_true_eq_false, not_false_eq_true, q_z1, Nat.reduceEqDiff]
      · simp (disch := omega) only [fX11_ask_59, em, d, l_0, l_1, l_2, l_3, l_4, l_5, l_6, l_7, l_8, l_9, l_10, l_11, l_12, l_13, l_14, l_15, l_16, l_17, l_18, l_19, l_20, l_21, l_22, l_23, l_24, l_25, l_30, l_31, l_32, l_40, l_48, l_54, l_57, l_59, l_60, l_61, l_62, l_63, l_65, l_66, l_72, l_82, l_92, l_93, l_94, l_97, l_99, l_100, l_101, l_102, l_103, l_104, l_105, l_107, l_108, l_109, l_110, l_111, l_112, l_114, l_115, l_116, l_117, l_119, l_121, l_122, l_136, l_200, l_255, l_300, l_364, l_900, l_1000, l_1456, l_1458, l_1459, l_1460, l_1462, l_1471, l_1504, l_1510, l_1522, l_1550, l_2971, l_9999, l_10000, l_10979, l_65536, l_m1, nI_add, pk_mul, q_sub, q_ltT, q_ltF, q_leT, q_leF, q_eqT, q_eqF, q_inT, q_inF, nI_clamp, q_mlt, q_mle, q_mne, q_mne2, q_mnlt, q_mnle, Option.bind_some, if_true, if_false, reduceIte, ite_not, not_true_eq_false, not_false_eq_true, q_z1, Nat.reduceEqDiff]) 2 (nI 1, nI (mst X 1)) FU (by omega) ⟨Nat.le_refl _, rfl⟩ (by unfold FU; omega)
  rw [← hr]; exact e
theorem N_ask {S : ms_T} {X : Nat} (hX : gi S 28 = nI X) : fX12_ask_50 FU S (nI 1) (nI 2) = some (nI (bbs X 9), S) := by
  obtain ⟨r, e, hr⟩ := lp_up (fun f i s => fX12_ask_50 f S s i) 10 (fun k s => 2 ≤ k ∧ s = nI (bbs X (k - 1))) (fun r => r = (nI (bbs X 9), S))
    (fun f s hs => by
      obtain ⟨-, rfl⟩ := hs
      exact ⟨_, by simp (disch := omega) only [fX12_ask_50, l_0, l_1, l_2, l_3, l_4, l_5, l_6, l_7, l_8, l_9, l_10, l_11, l_12, l_13, l_14, l_15, l_16, l_17, l_18, l_19, l_20, l_21, l_22, l_23, l_24, l_25, l_30, l_31, l_32, l_40, l_48, l_54, l_57, l_59, l_60, l_61, l_62, l_63, l_65, l_66, l_72, l_82, l_92, l_93, l_94, l_97, l_99, l_100, l_101, l_102, l_103, l_104, l_105, l_107, l_108, l_109, l_110, l_111, l_112, l_114, l_115, l_116, l_117, l_119, l_121, l_122, l_136, l_200, l_255, l_300, l_364, l_900, l_1000, l_1456, l_1458, l_1459, l_1460, l_1462, l_1471, l_1504, l_1510, l_1522, l_1550, l_2971, l_9999, l_10000, l_10979, l_65536, l_m1, nI_add, pk_mul, q_sub, q_ltT, q_ltF, q_leT, q_leF, q_eqT, q_eqF, q_inT, q_inF, nI_clamp, q_mlt, q_mle, q_mne, q_mne2, q_mnlt, q_mnle, Option.bind_some, if_true, if_false, reduceIte, ite_not, not_true_eq_false, not_false_eq_true, q_z1, Nat.reduceEqDiff], rfl⟩)
    (fun f k s hk hs => by
      left
      obtain ⟨h2, rfl⟩ := hs
      obtain ⟨j, rfl⟩ : ∃ j, k = j + 1 := ⟨k - 1, by omega⟩
      rw [Nat.add_sub_cancel] at *
      have rb := bbs_r X j
      have rb2 := rb.2 (by omega)
      have em : fX12_mostAlike S (nI (j + 1)) = some (nI (mst X (j + 1))) := N_most hX hk
      have em2 : fX12_mostAlike S (nI (bbs X j)) = some (nI (mst X (bbs X j))) := N_most hX (by omega)
      have l1 := mst_le X (j + 1)
      have l2 := mst_le X (bbs X j)
      have eb : bbs X (j + 1) = if mst X (j + 1) < mst X (bbs X j) then j + 1 else bbs X j := by
        show (if j = 0 then 1 else _) = _
        rw [if_neg (by omega)]
      refine ⟨_, ⟨by omega, rfl⟩, ?_⟩
      rw [Nat.add_sub_cancel, eb]
      by_cases d : mst X (j + 1) < mst X (bbs X j)
      · simp (disch := omega) only [fX12_ask_50, em, em2, d, l_0, l_1, l_2, l_3, l_4, l_5, l_6, l_7, l_8, l_9, l_10, l_11, l_12, l_13, l_14, l_15, l_16, l_17, l_18, l_19, l_20, l_21, l_22, l_23, l_24, l_25, l_30, l_31, l_32, l_40, l_48, l_54, l_57, l_59, l_60, l_61, l_62, l_63, l_65, l_66, l_72, l_82, l_92, l_93, l_94, l_97, l_99, l_100, l_101, l_102, l_103, l_104, l_105, l_107, l_108, l_109, l_110, l_111, l_112, l_114, l_115, l_116, l_117, l_119, l_121, l_122, l_136, l_200, l_255, l_300, l_364, l_900, l_1000, l_1456, l_1458, l_1459, l_1460, l_1462, l_1471, l_1504, l_1510, l_1522, l_1550, l_2971, l_9999, l_10000, l_10979, l_65536, l_m1, nI_add, pk_mul, q_sub, q_ltT, q_ltF, q_leT, q_leF, q_eqT, q_eqF, q_inT, q_inF, nI_clamp, q_mlt, q_mle, q_mne, q_mne2, q_mnlt, q_mnle, Option.bind_some, if_true, if_false, reduceIte, ite_not, not_true_eq_false, not_false_eq_true, q_z1, Nat.reduceEqDiff]
      · simp (disch := omega) only [fX12_ask_50, em, em2, d, l_0, l_1, l_2, l_3, l_4, l_5, l_6, l_7, l_8, l_9, l_10, l_11, l_12, l_13, l_14, l_15, l_16, l_17, l_18, l_19, l_20, l_21, l_22, l_23, l_24, l_25, l_30, l_31, l_32, l_40, l_48, l_54, l_57, l_59, l_60, l_61, l_62, l_63, l_65, l_66, l_72, l_82, l_92, l_93, l_94, l_97, l_99, l_100, l_101, l_102, l_103, l_104, l_105, l_107, l_108, l_109, l_110, l_111, l_112, l_114, l_115, l_116, l_117, l_119, l_121, l_122, l_136, l_200, l_255, l_300, l_364, l_900, l_1000, l_1456, l_1458, l_1459, l_1460, l_1462, l_1471, l_1504, l_1510, l_1522, l_1550, l_2971, l_9999, l_10000, l_10979, l_65536, l_m1, nI_add, pk_mul, q_sub, q_ltT, q_ltF, q_leT, q_leF, q_eqT, q_eqF, q_inT, q_inF, nI_clamp, q_mlt, q_mle, q_mne, q_mne2, q_mnlt, q_mnle, Option.bind_some, if_true, if_false, reduceIte, ite_not, not_true_eq_false, not_false_eq_true, q_z1, Nat.reduceEqDiff]) 2 (nI 1) FU (by omega) ⟨Nat.le_refl _, rfl⟩ (by unfold FU; omega)
  rw [← hr]; exact e
/-- the first law of a set: its slope, or its shift -/
theorem lawOf_eq {SC SY0 SY1 SY2 SY3 S : ms_T} {X : Nat} {y : Int32} (hX : gi S 28 = nI X) : ∃ (r v : Int32) (S' : ms_T), fX11_lawOf_50 SY0 SY1 SY2 SY3 FU SC y (nI X) (nI 0) = some (r, si SC 0 v) ∧ fX12_lawOf_55 FU S y (nI 0) = some (r, S') ∧ ((v = nI 0 ∧ S' = S) ∨ (v = nI 8 ∧ S' = si S 0 (nI 8))) := by
  by_cases hc : ∃ l, l < 32 ∧ X.testBit l = true
  · obtain ⟨l, ⟨hl, hb⟩, hm⟩ := pk_least (fun l => l < 32 ∧ X.testBit l = true) hc
    have hm' : ∀ k, k < l → X.testBit k = false := fun k hk => by
      cases e : X.testBit k
      · rfl
      · exact absurd ⟨by omega, e⟩ (hm k hk)
    have e1 : nI l / nI 8 = nI (l / 8) := pk_div (by omega) (by omega) (by omega)
    have e2 : nI l - nI (l / 8) * nI 8 = nI (l % 8) := by
      have := pk_rem (a := l) (d := 8) (by omega) (by omega) (by omega)
      rw [e1] at this; exact this
    refine ⟨if y = nI 0 then nI (l / 8) else nI (l % 8), nI 0, S, ?_, ?_, Or.inl ⟨rfl, rfl⟩⟩
    · obtain ⟨r, e, hr⟩ := lp_up (σ := Unit) (fun f k _ => fX11_lawOf_50 SY0 SY1 SY2 SY3 f SC y (nI X) k) 32 (fun k _ => k ≤ l) (fun r => r = ((if y = nI 0 then nI (l / 8) else nI (l % 8)), si SC 0 (nI 0)))
        (fun f _ h => by omega)
        (fun f k _ hk hkl => by
          have eb := q_bit32 (a := X) hk
          by_cases d : k = l
          · subst d
            right
            rw [hb] at eb
            by_cases c : y = nI 0
            · exact ⟨(nI (k / 8), si SC 0 (nI 0)), by simp (disch := omega) only [fX11_lawOf_50, fX11_answer, fX11_refuse, fX11_deny, fX11_grant, fX12_refuse, fX12_no, eb, b2_1, c, e1, l_0, l_1, l_2, l_3, l_4, l_5, l_6, l_7, l_8, l_9, l_10, l_11, l_12, l_13, l_14, l_15, l_16, l_17, l_18, l_19, l_20, l_21, l_22, l_23, l_24, l_25, l_30, l_31, l_32, l_40, l_48, l_54, l_57, l_59, l_60, l_61, l_62, l_63, l_65, l_66, l_72, l_82, l_92, l_93, l_94, l_97, l_99, l_100, l_101, l_102, l_103, l_104, l_105, l_107, l_108, l_109, l_110, l_111, l_112, l_114, l_115, l_116, l_117, l_119, l_121, l_122, l_136, l_200, l_255, l_300, l_364, l_900, l_1000, l_1456, l_1458, l_1459, l_1460, l_1462, l_1471, l_1504, l_1510, l_1522, l_1550, l_2971, l_9999, l_10000, l_10979, l_65536, l_m1, q_leF, q_eqF, Option.bind_some, if_true, if_false, reduceIte, ite_not, not_true_eq_false, not_false_eq_true, q_z1, Nat.reduceEqDiff], by rw [if_pos c]⟩
            · exact ⟨(nI (k % 8), si SC 0 (nI 0)), by simp (disch := omega) only [fX11_lawOf_50, fX11_answer, fX11_refuse, fX11_deny, fX11_grant, fX12_refuse, fX12_no, eb, b2_1, c, e1, e2, l_0, l_1, l_2, l_3, l_4, l_5, l_6, l_7, l_8, l_9, l_10, l_11, l_12, l_13, l_14, l_15, l_16, l_17, l_18, l_19, l_20, l_21, l_22, l_23, l_24, l_25, l_30, l_31, l_32, l_40, l_48, l_54, l_57, l_59, l_60, l_61, l_62, l_63, l_65, l_66, l_72, l_82, l_92, l_93, l_94, l_97, l_99, l_100, l_101, l_102, l_103, l_104, l_105, l_107, l_108, l_109, l_110, l_111, l_112, l_114, l_115, l_116, l_117, l_119, l_121, l_122, l_136, l_200, l_255, l_300, l_364, l_900, l_1000, l_1456, l_1458, l_1459, l_1460, l_1462, l_1471, l_1504, l_1510, l_1522, l_1550, l_2971, l_9999, l_10000, l_10979, l_65536, l_m1, q_leF, q_eqF, Option.bind_some, if_true, if_false, reduceIte, ite_not, not_true_eq_false, not_false_eq_true, q_z1, Nat.reduceEqDiff], by rw [if_neg c]⟩
          · left
            rw [hm' k (by omega)] at eb
            exact ⟨(), by omega, by simp (disch := omega) only [fX11_lawOf_50, eb, b2_0, l_0, l_1, l_2, l_3, l_4, l_5, l_6, l_7, l_8, l_9, l_10, l_11, l_12, l_13, l_14, l_15, l_16, l_17, l_18, l_19, l_20, l_21, l_22, l_23, l_24, l_25, l_30, l_31, l_32, l_40, l_48, l_54, l_57, l_59, l_60, l_61, l_62, l_63, l_65, l_66, l_72, l_82, l_92, l_93, l_94, l_97, l_99, l_100, l_101, l_102, l_103, l_104, l_105, l_107, l_108, l_109, l_110, l_111, l_112, l_114, l_115, l_116, l_117, l_119, l_121, l_122, l_136, l_200, l_255, l_300, l_364, l_900, l_1000, l_1456, l_1458, l_1459, l_1460, l_1462, l_1471, l_1504, l_1510, l_1522, l_1550, l_2971, l_9999, l_10000, l_10979, l_65536, l_m1, nI_add, pk_mul, q_sub, q_ltT, q_ltF, q_leT, q_leF, q_eqT, q_eqF, q_inT, q_inF, nI_clamp, q_mlt, q_mle, q_mne, q_mne2, q_mnlt, q_mnle, Option.bind_some, if_true, if_false, reduceIte, ite_not, not_true_eq_false, not_false_eq_true, q_z1, Nat.reduceEqDiff]⟩) 0 () FU (by omega) (Nat.zero_le _) (by unfold FU; omega)
      rw [← hr]; exact e
    · obtain ⟨r, e, hr⟩ := lp_up (σ := Unit) (fun f k _ => fX12_lawOf_55 f S y k) 32 (fun k _ => k ≤ l) (fun r => r = ((if y = nI 0 then nI (l / 8) else nI (l % 8)), S))
        (fun f _ h => by omega)
        (fun f k _ hk hkl => by
          have eb := N_has32 (x := X) hk
          by_cases d : k = l
          · subst d
            right
            rw [hb] at eb
            by_cases c : y = nI 0
            · exact ⟨(nI (k / 8), S), by simp (disch := omega) only [fX12_lawOf_55, hX, eb, bi, b2_1, c, e1, l_0, l_1, l_2, l_3, l_4, l_5, l_6, l_7, l_8, l_9, l_10, l_11, l_12, l_13, l_14, l_15, l_16, l_17, l_18, l_19, l_20, l_21, l_22, l_23, l_24, l_25, l_30, l_31, l_32, l_40, l_48, l_54, l_57, l_59, l_60, l_61, l_62, l_63, l_65, l_66, l_72, l_82, l_92, l_93, l_94, l_97, l_99, l_100, l_101, l_102, l_103, l_104, l_105, l_107, l_108, l_109, l_110, l_111, l_112, l_114, l_115, l_116, l_117, l_119, l_121, l_122, l_136, l_200, l_255, l_300, l_364, l_900, l_1000, l_1456, l_1458, l_1459, l_1460, l_1462, l_1471, l_1504, l_1510, l_1522, l_1550, l_2971, l_9999, l_10000, l_10979, l_65536, l_m1, q_leF, q_eqF, Option.bind_some, if_true, if_false, reduceIte, ite_not, not_true_eq_false, not_false_eq_true, q_z1, Nat.reduceEqDiff], by rw [if_pos c]⟩
            · exact ⟨(nI (k % 8), S), by simp (disch := omega) only [fX12_lawOf_55, hX, eb, bi, b2_1, c, e1, e2, l_0, l_1, l_2, l_3, l_4, l_5, l_6, l_7, l_8, l_9, l_10, l_11, l_12, l_13, l_14, l_15, l_16, l_17, l_18, l_19, l_20, l_21, l_22, l_23, l_24, l_25, l_30, l_31, l_32, l_40, l_48, l_54, l_57, l_59, l_60, l_61, l_62, l_63, l_65, l_66, l_72, l_82, l_92, l_93, l_94, l_97, l_99, l_100, l_101, l_102, l_103, l_104, l_105, l_107, l_108, l_109, l_110, l_111, l_112, l_114, l_115, l_116, l_117, l_119, l_121, l_122, l_136, l_200, l_255, l_300, l_364, l_900, l_1000, l_1456, l_1458, l_1459, l_1460, l_1462, l_1471, l_1504, l_1510, l_1522, l_1550, l_2971, l_9999, l_10000, l_10979, l_65536, l_m1, q_leF, q_eqF, Option.bind_some, if_true, if_false, reduceIte, ite_not, not_true_eq_false, not_false_eq_true, q_z1, Nat.reduceEqDiff], by rw [if_neg c]⟩
          · left
            rw [hm' k (by omega)] at eb
            exact ⟨(), by omega, by simp (disch := omega) only [fX12_lawOf_55, hX, eb, bi, b2_0, l_0, l_1, l_2, l_3, l_4, l_5, l_6, l_7, l_8, l_9, l_10, l_11, l_12, l_13, l_14, l_15, l_16, l_17, l_18, l_19, l_20, l_21, l_22, l_23, l_24, l_25, l_30, l_31, l_32, l_40, l_48, l_54, l_57, l_59, l_60, l_61, l_62, l_63, l_65, l_66, l_72, l_82, l_92, l_93, l_94, l_97, l_99, l_100, l_101, l_102, l_103, l_104, l_105, l_107, l_108, l_109, l_110, l_111, l_112, l_114, l_115, l_116, l_117, l_119, l_121, l_122, l_136, l_200, l_255, l_300, l_364, l_900, l_1000, l_1456, l_1458, l_1459, l_1460, l_1462, l_1471, l_1504, l_1510, l_1522, l_1550, l_2971, l_9999, l_10000, l_10979, l_65536, l_m1, nI_add, pk_mul, q_sub, q_ltT, q_ltF, q_leT, q_leF, q_eqT, q_eqF, q_inT, q_inF, nI_clamp, q_mlt, q_mle, q_mne, q_mne2, q_mnlt, q_mnle, Option.bind_some, if_true, if_false, reduceIte, ite_not, not_true_eq_false, not_false_eq_true, q_z1, Nat.reduceEqDiff]⟩) 0 () FU (by omega) (Nat.zero_le _) (by unfold FU; omega)
      rw [← hr]; exact e
  · have hm' : ∀ k, k < 32 → X.testBit k = false := fun k hk => by
      cases e : X.testBit k
      · rfl
      · exact absurd ⟨k, hk, e⟩ hc
    refine ⟨nM, nI 8, si S 0 (nI 8), ?_, ?_, Or.inr ⟨rfl, rfl⟩⟩
    · obtain ⟨r, e, hr⟩ := lp_up (σ := Unit) (fun f k _ => fX11_lawOf_50 SY0 SY1 SY2 SY3 f SC y (nI X) k) 32 (fun _ _ => True) (fun r => r = (nM, si SC 0 (nI 8)))
        (fun f _ h => ⟨_, by simp (disch := omega) only [fX11_lawOf_50, fX11_answer, fX11_refuse, fX11_deny, fX11_grant, fX12_refuse, fX12_no, l_0, l_1, l_2, l_3, l_4, l_5, l_6, l_7, l_8, l_9, l_10, l_11, l_12, l_13, l_14, l_15, l_16, l_17, l_18, l_19, l_20, l_21, l_22, l_23, l_24, l_25, l_30, l_31, l_32, l_40, l_48, l_54, l_57, l_59, l_60, l_61, l_62, l_63, l_65, l_66, l_72, l_82, l_92, l_93, l_94, l_97, l_99, l_100, l_101, l_102, l_103, l_104, l_105, l_107, l_108, l_109, l_110, l_111, l_112, l_114, l_115, l_116, l_117, l_119, l_121, l_122, l_136, l_200, l_255, l_300, l_364, l_900, l_1000, l_1456, l_1458, l_1459, l_1460, l_1462, l_1471, l_1504, l_1510, l_1522, l_1550, l_2971, l_9999, l_10000, l_10979, l_65536, l_m1, nI_add, pk_mul, q_sub, q_ltT, q_ltF, q_leT, q_leF, q_eqT, q_eqF, q_inT, q_inF, nI_clamp, q_mlt, q_mle, q_mne, q_mne2, q_mnlt, q_mnle, Option.bind_some, if_true, if_false, reduceIte, ite_not, not_true_eq_false, not_false_eq_true, q_z1, Nat.reduceEqDiff], rfl⟩)
        (fun f k _ hk hkl => by
          have eb := q_bit32 (a := X) hk
          left
          rw [hm' k hk] at eb
          exact ⟨(), trivial, by simp (disch := omega) only [fX11_lawOf_50, eb, b2_0, l_0, l_1, l_2, l_3, l_4, l_5, l_6, l_7, l_8, l_9, l_10, l_11, l_12, l_13, l_14, l_15, l_16, l_17, l_18, l_19, l_20, l_21, l_22, l_23, l_24, l_25, l_30, l_31, l_32, l_40, l_48, l_54, l_57, l_59, l_60, l_61, l_62, l_63, l_65, l_66, l_72, l_82, l_92, l_93, l_94, l_97, l_99, l_100, l_101, l_102, l_103, l_104, l_105, l_107, l_108, l_109, l_110, l_111, l_112, l_114, l_115, l_116, l_117, l_119, l_121, l_122, l_136, l_200, l_255, l_300, l_364, l_900, l_1000, l_1456, l_1458, l_1459, l_1460, l_1462, l_1471, l_1504, l_1510, l_1522, l_1550, l_2971, l_9999, l_10000, l_10979, l_65536, l_m1, nI_add, pk_mul, q_sub, q_ltT, q_ltF, q_leT, q_leF, q_eqT, q_eqF, q_inT, q_inF, nI_clamp, q_mlt, q_mle, q_mne, q_mne2, q_mnlt, q_mnle, Option.bind_some, if_true, if_false, reduceIte, ite_not, not_true_eq_false, not_false_eq_true, q_z1, Nat.reduceEqDiff]⟩) 0 () FU (by omega) trivial (by unfold FU; omega)
      rw [← hr]; exact e
    · obtain ⟨r, e, hr⟩ := lp_up (σ := Unit) (fun f k _ => fX12_lawOf_55 f S y k) 32 (fun _ _ => True) (fun r => r = (nM, si S 0 (nI 8)))
        (fun f _ h => ⟨_, by simp (disch := omega) only [fX12_lawOf_55, fX11_answer, fX11_refuse, fX11_deny, fX11_grant, fX12_refuse, fX12_no, l_0, l_1, l_2, l_3, l_4, l_5, l_6, l_7, l_8, l_9, l_10, l_11, l_12, l_13, l_14, l_15, l_16, l_17, l_18, l_19, l_20, l_21, l_22, l_23, l_24, l_25, l_30, l_31, l_32, l_40, l_48, l_54, l_57, l_59, l_60, l_61, l_62, l_63, l_65, l_66, l_72, l_82, l_92, l_93, l_94, l_97, l_99, l_100, l_101, l_102, l_103, l_104, l_105, l_107, l_108, l_109, l_110, l_111, l_112, l_114, l_115, l_116, l_117, l_119, l_121, l_122, l_136, l_200, l_255, l_300, l_364, l_900, l_1000, l_1456, l_1458, l_1459, l_1460, l_1462, l_1471, l_1504, l_1510, l_1522, l_1550, l_2971, l_9999, l_10000, l_10979, l_65536, l_m1, nI_add, pk_mul, q_sub, q_ltT, q_ltF, q_leT, q_leF, q_eqT, q_eqF, q_inT, q_inF, nI_clamp, q_mlt, q_mle, q_mne, q_mne2, q_mnlt, q_mnle, Option.bind_some, if_true, if_false, reduceIte, ite_not, not_true_eq_false, not_false_eq_true, q_z1, Nat.reduceEqDiff], rfl⟩)
        (fun f k _ hk hkl => by
          have eb := N_has32 (x := X) hk
          left
          rw [hm' k hk] at eb
          exact ⟨(), trivial, by simp (disch := omega) only [fX12_lawOf_55, hX, eb, bi, b2_0, l_0, l_1, l_2, l_3, l_4, l_5, l_6, l_7, l_8, l_9, l_10, l_11, l_12, l_13, l_14, l_15, l_16, l_17, l_18, l_19, l_20, l_21, l_22, l_23, l_24, l_25, l_30, l_31, l_32, l_40, l_48, l_54, l_57, l_59, l_60, l_61, l_62, l_63, l_65, l_66, l_72, l_82, l_92, l_93, l_94, l_97, l_99, l_100, l_101, l_102, l_103, l_104, l_105, l_107, l_108, l_109, l_110, l_111, l_112, l_114, l_115, l_116, l_117, l_119, l_121, l_122, l_136, l_200, l_255, l_300, l_364, l_900, l_1000, l_1456, l_1458, l_1459, l_1460, l_1462, l_1471, l_1504, l_1510, l_1522, l_1550, l_2971, l_9999, l_10000, l_10979, l_65536, l_m1, nI_add, pk_mul, q_sub, q_ltT, q_ltF, q_leT, q_leF, q_eqT, q_eqF, q_inT, q_inF, nI_clamp, q_mlt, q_mle, q_mne, q_mne2, q_mnlt, q_mnle, Option.bind_some, if_true, if_false, reduceIte, ite_not, not_true_eq_false, not_false_eq_true, q_z1, Nat.reduceEqDiff]⟩) 0 () FU (by omega) trivial (by unfold FU; omega)
      rw [← hr]; exact e
