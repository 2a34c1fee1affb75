/-! the reference's least quarrels -/
theorem rw_s {w n c i : Nat} (hi : i < n) : rw_ w n (c / w) i = rw_ w (n + 1) c i := by
  unfold rw_
  rw [Nat.div_div_eq_div_mul, ← Nat.pow_succ', show n + 1 - 1 - i = (n - 1 - i) + 1 by omega]
theorem rw_l {w n c : Nat} : rw_ w (n + 1) c n = c % w := by
  unfold rw_
  rw [show n + 1 - 1 - n = 0 by omega, Nat.pow_zero, Nat.div_one]
theorem q_pre (k : Nat) : nI (k + 1) - nI 1 = nI k := by rw [q_sub (by omega)]; rfl
theorem q_addm (x : Int32) : x + nM = x - nI 1 := (Int32.sub_eq_add_neg x (nI 1)).symm
section Q62
variable {T M S : ms_T} {t : Nat → Nat}
theorem M_topics (M : ms_T) {w : Nat} (hw : 0 < w) (hw2 : w < 1000) : ∀ k c f fuel, k ≤ 6 → c < 1000000 → k < fuel → ∃ f', fX12_laysTopics_12 fuel (sr M 9 f) (nI w) (nI c) (nI k - nI 1) = some (sr M 9 f') ∧ (∀ i, i < k → f' i = nI (rw_ w k c i)) ∧ ∀ i, k ≤ i → f' i = f i := by
  intro k
  induction k with
  | zero =>
    intro c f fuel _ _ hf
    obtain ⟨x, rfl⟩ : ∃ x, fuel = x + 1 := ⟨fuel - 1, by omega⟩
    refine ⟨f, ?_, fun i hi => by omega, fun i _ => rfl⟩
    have e : (nI 0 - nI 1 < nI 0) = True := eq_true (by decide)
    simp only [fX12_laysTopics_12, l_0, e, if_true]
  | succ k ih =>
    intro c f fuel hk hc hf
    obtain ⟨x, rfl⟩ : ∃ x, fuel = x + 1 := ⟨fuel - 1, by omega⟩
    have hd1 : c / w ≤ c := Nat.div_le_self _ _
    obtain ⟨f', g1, g2, g3⟩ := ih (c / w) (upd f k (nI (c % w))) x (by omega) (by omega) (by omega)
    refine ⟨f', ?_, fun i hi => ?_, fun i hi => ?_⟩
    · rw [← g1, q_pre]
      have e2 : nI c / nI w = nI (c / w) := pk_div (by omega) hw (by omega)
      have e1 : nI c - nI (c / w) * nI w = nI (c % w) := by rw [← e2]; exact pk_rem (by omega) hw (by omega)
      have e3 : (nI k < nI 0) = False := q_ltF (by omega) (by omega)
      have e4 : (nI w = nI 0) = False := q_eqF (by omega) (by omega) (by omega)
      have e5 : inb (nI k) 6 = true := q_inT (by omega) (by omega)
      show fX12_laysTopics_12 (x + 1) (sr M 9 f) (nI w) (nI c) (nI k) = _
      simp only [fX12_laysTopics_12, l_0, l_1, l_m1, e3, e4, e5, if_false, if_true, not_false_eq_true, e1, e2, q_addm, sa, q_ra, q_srsr, nI_clamp (show k < 2147483648 by omega)]
    · by_cases c1 : i = k
      · rw [g3 i (by omega), up_e _ _ _ c1, c1, rw_l]
      · rw [g2 i (by omega), rw_s (by omega)]
    · rw [g3 i (by omega), up_n _ _ _ (by omega)]
theorem sr_self (M : ms_T) (k : Nat) : M = sr M k (ra M k) := by
  unfold sr
  refine Prod.ext rfl (Prod.ext rfl (Prod.ext ?_ rfl))
  funext b
  show M.2.2.1 b = if b = k then M.2.2.1 k else M.2.2.1 b
  split
  · next c => rw [c]
  · rfl
theorem M_laysTopics (w : tb_W t) (h : tb_N M t) {wd c : Nat} (hw : 0 < wd) (hw2 : wd < 1000) (hc : c < 1000000) : ∃ f, fX12_laysTopics M (nI c) (nI wd) = some (sr M 9 f) ∧ ∀ i, i < t 2 → f i = nI (rw_ wd (t 2) c i) := by
  have w2 := w.2.2.1
  have hu : ∀ i, i < 92 → ra M 5 i = nI (t i) := h
  obtain ⟨f', g1, g2, -⟩ := M_topics M hw hw2 (t 2) c (ra M 9) FU w2 hc (by unfold FU; omega)
  refine ⟨f', ?_, g2⟩
  rw [← g1, ← sr_self]
  unfold fX12_laysTopics
  simp (disch := omega) only [hu, l_0, l_1, l_2, l_3, l_4, l_5, l_6, l_7, l_8, l_9, l_10, l_11, l_12, l_13, l_14, l_15, l_16, l_17, l_18, l_19, l_20, l_21, l_22, l_23, l_24, l_25, l_30, l_31, l_32, l_40, l_48, l_54, l_57, l_59, l_60, l_61, l_62, l_63, l_65, l_66, l_72, l_82, l_92, l_93, l_94, l_97, l_99, l_100, l_101, l_102, l_103, l_104, l_105, l_107, l_108, l_109, l_110, l_111, l_112, l_114, l_115, l_116, l_117, l_119, l_121, l_122, l_136, l_200, l_255, l_300, l_364, l_900, l_1000, l_1456, l_1458, l_1459, l_1460, l_1462, l_1471, l_1504, l_1510, l_1522, l_1550, l_2971, l_9999, l_10000, l_10979, l_65536, l_m1, nI_clamp, ia]
/-- only what the quarrels are reckoned on has changed -/
def sq (M S : ms_T) : Prop := (∀ k, k ≠ 33 → k ≠ 34 → gi S k = gi M k) ∧ (∀ k, gl S k = gl M k) ∧ (∀ k, k ≠ 9 → ra S k = ra M k) ∧ ∀ k, rl S k = rl M k
theorem sq_N (h : tb_N M t) (s : sq M S) : tb_N S t := fun i hi => by rw [s.2.2.1 5 (by omega)]; exact h i hi
theorem sq_9 {f : Nat → Int32} (s : sq M S) : sq M (sr S 9 f) := ⟨s.1, s.2.1, fun k hk => by rw [q_ra, if_neg hk]; exact s.2.2.1 k hk, s.2.2.2⟩
theorem sq_33 {x y : Int32} (s : sq M S) : sq M (si (si S 33 x) 34 y) := ⟨fun k h1 h2 => by rw [q_gi, if_neg h2, q_gi, if_neg h1]; exact s.1 k h1 h2, s.2.1, s.2.2.1, s.2.2.2⟩
/-- the first least of F before c -/
def fmn (F : Nat → Nat) (c m i : Nat) : Prop := i < c ∧ F i = m ∧ (∀ j, j < c → m ≤ F j) ∧ ∀ j, j < i → m < F j
def qn (t : Nat → Nat) (wd c : Nat) : Nat := qf t (rw_ wd (t 2) c)
theorem qf_le (t : Nat → Nat) (r : Nat → Nat) : qf t r ≤ t 3 := by
  have := sm_le (f := fun k => b2 (decide (r (t (72 + k)) = r (t (82 + k))))) (c := 1) (n := t 3) (fun k _ => b2_le _)
  unfold qf; omega
theorem M_quar31 (w : tb_W t) (h : tb_N M t) {wd N : Nat} (hw : 0 < wd) (hw2 : wd < 1000) (hN : N < 1000000) : ∃ S', fX12_laysQuarrels_31 FU (si M 33 nM) (nI wd) (nI N) (nI 0) = some S' ∧ sq M S' ∧ ((N = 0 ∧ gi S' 33 = nM) ∨ ∃ m i, gi S' 33 = nI m ∧ gi S' 34 = nI i ∧ fmn (qn t wd) N m i) := by
  obtain ⟨w0, w1, w2, w3, w4, w5, w6, w7, w8, w9⟩ := id w
  refine lp_up (fun x c S => fX12_laysQuarrels_31 x S (nI wd) (nI N) c) N (fun c S => sq M S ∧ ((c = 0 ∧ gi S 33 = nM) ∨ ∃ m i, gi S 33 = nI m ∧ gi S 34 = nI i ∧ fmn (qn t wd) c m i)) (fun S => sq M S ∧ ((N = 0 ∧ gi S 33 = nM) ∨ ∃ m i, gi S 33 = nI m ∧ gi S 34 = nI i ∧ fmn (qn t wd) N m i)) ?_ ?_ 0 _ FU (by omega) ⟨⟨fun k h1 h2 => by rw [q_gi, if_neg h1], fun k => rfl, fun k _ => rfl, fun k => rfl⟩, Or.inl ⟨rfl, rfl⟩⟩ (by unfold FU; omega)
  · intro x S hS
    exact ⟨S, by simp (disch := omega) only [fX12_laysQuarrels_31, nI_add, pk_mul, q_sub, q_ltT, q_ltF, q_leT, q_leF, q_eqT, q_eqF, q_inT, q_inF, nI_clamp, q_mlt, q_mle, q_mne, q_mne2, q_mnlt, q_mnle, Option.bind_some, if_true, if_false, reduceIte, ite_not, not_true_eq_false, not_false_eq_true, q_z1, Nat.reduceEqDiff], hS⟩
  · intro x c S hc hS
    left
    obtain ⟨hs, hS⟩ := hS
    have hNS := sq_N h hs
    obtain ⟨f, g1, g2⟩ := M_laysTopics w hNS hw hw2 (c := c) (by omega)
    have hN9 : tb_N (sr S 9 f) t := hNS
    have hu : ∀ i, i < 92 → ra S 5 i = nI (t i) := hNS
    have rl1 : ∀ i, rw_ wd (t 2) c i < 1000 := fun i => Nat.lt_trans (rw_lt hw) hw2
    obtain ⟨v, v1, v2⟩ := lp_eq (fun y k s => fX12_laysQuarrels_48 (fX12_laysQuarrels_31 x) y (sr S 9 f) (nI wd) (nI N) (nI c) s k) (fun s => fX12_laysQuarrels_48 (fX12_laysQuarrels_31 x) 1 (sr S 9 f) (nI wd) (nI N) (nI c) s (nI (t 3))) (t 3)
      (fun k s => s = nI (sm (fun k => b2 (decide (rw_ wd (t 2) c (t (72 + k)) = rw_ wd (t 2) c (t (82 + k))))) k))
      (fun y s hs => by simp (disch := omega) only [fX12_laysQuarrels_48, hu, l_0, l_1, l_2, l_3, l_4, l_5, l_6, l_7, l_8, l_9, l_10, l_11, l_12, l_13, l_14, l_15, l_16, l_17, l_18, l_19, l_20, l_21, l_22, l_23, l_24, l_25, l_30, l_31, l_32, l_40, l_48, l_54, l_57, l_59, l_60, l_61, l_62, l_63, l_65, l_66, l_72, l_82, l_92, l_93, l_94, l_97, l_99, l_100, l_101, l_102, l_103, l_104, l_105, l_107, l_108, l_109, l_110, l_111, l_112, l_114, l_115, l_116, l_117, l_119, l_121, l_122, l_136, l_200, l_255, l_300, l_364, l_900, l_1000, l_1456, l_1458, l_1459, l_1460, l_1462, l_1471, l_1504, l_1510, l_1522, l_1550, l_2971, l_9999, l_10000, l_10979, l_65536, l_m1, nI_add, pk_mul, q_sub, q_ltT, q_ltF, q_leT, q_leF, q_eqT, q_eqF, q_inT, q_inF, nI_clamp, q_mlt, q_mle, q_mne, q_mne2, q_mnlt, q_mnle, q_gi, q_gil, q_gir, q_giR, q_gl, q_gli, q_glr, q_glR, q_ra, q_rai, q_ral, q_raR, q_rl, q_rli, q_rll, q_rlr, sa, sA, ia, la, q_srsr, q_sRsR, Option.bind_some, if_true, if_false, reduceIte, ite_not, not_true_eq_false, not_false_eq_true, q_z1, Nat.reduceEqDiff])
      (fun y k s hk hs => by
        subst hs
        refine ⟨_, rfl, ?_⟩
        have b8 := w8 k hk
        have ea := g2 (t (72 + k)) (by omega)
        have eb := g2 (t (82 + k)) (by omega)
        have r1 := rl1 (t (72 + k))
        have r2 := rl1 (t (82 + k))
        rw [sm_s]
        by_cases d : rw_ wd (t 2) c (t (72 + k)) = rw_ wd (t 2) c (t (82 + k))
        · rw [decide_eq_true d]
          simp (disch := omega) only [fX12_laysQuarrels_48, hu, ea, eb, d, b2_1, l_0, l_1, l_2, l_3, l_4, l_5, l_6, l_7, l_8, l_9, l_10, l_11, l_12, l_13, l_14, l_15, l_16, l_17, l_18, l_19, l_20, l_21, l_22, l_23, l_24, l_25, l_30, l_31, l_32, l_40, l_48, l_54, l_57, l_59, l_60, l_61, l_62, l_63, l_65, l_66, l_72, l_82, l_92, l_93, l_94, l_97, l_99, l_100, l_101, l_102, l_103, l_104, l_105, l_107, l_108, l_109, l_110, l_111, l_112, l_114, l_115, l_116, l_117, l_119, l_121, l_122, l_136, l_200, l_255, l_300, l_364, l_900, l_1000, l_1456, l_1458, l_1459, l_1460, l_1462, l_1471, l_1504, l_1510, l_1522, l_1550, l_2971, l_9999, l_10000, l_10979, l_65536, l_m1, nI_add, pk_mul, q_sub, q_ltT, q_ltF, q_leT, q_leF, q_eqT, q_eqF, q_inT, q_inF, nI_clamp, q_mlt, q_mle, q_mne, q_mne2, q_mnlt, q_mnle, q_gi, q_gil, q_gir, q_giR, q_gl, q_gli, q_glr, q_glR, q_ra, q_rai, q_ral, q_raR, q_rl, q_rli, q_rll, q_rlr, sa, sA, ia, la, q_srsr, q_sRsR, Option.bind_some, if_true, if_false, reduceIte, ite_not, not_true_eq_false, not_false_eq_true, q_z1, Nat.reduceEqDiff]
        · rw [decide_eq_false d]
          simp (disch := omega) only [fX12_laysQuarrels_48, hu, ea, eb, d, b2_0, l_0, l_1, l_2, l_3, l_4, l_5, l_6, l_7, l_8, l_9, l_10, l_11, l_12, l_13, l_14, l_15, l_16, l_17, l_18, l_19, l_20, l_21, l_22, l_23, l_24, l_25, l_30, l_31, l_32, l_40, l_48, l_54, l_57, l_59, l_60, l_61, l_62, l_63, l_65, l_66, l_72, l_82, l_92, l_93, l_94, l_97, l_99, l_100, l_101, l_102, l_103, l_104, l_105, l_107, l_108, l_109, l_110, l_111, l_112, l_114, l_115, l_116, l_117, l_119, l_121, l_122, l_136, l_200, l_255, l_300, l_364, l_900, l_1000, l_1456, l_1458, l_1459, l_1460, l_1462, l_1471, l_1504, l_1510, l_1522, l_1550, l_2971, l_9999, l_10000, l_10979, l_65536, l_m1, nI_add, pk_mul, q_sub, q_ltT, q_ltF, q_leT, q_leF, q_eqT, q_eqF, q_inT, q_inF, nI_clamp, q_mlt, q_mle, q_mne, q_mne2, q_mnlt, q_mnle, q_gi, q_gil, q_gir, q_giR, q_gl, q_gli, q_glr, q_glR, q_ra, q_rai, q_ral, q_raR, q_rl, q_rli, q_rll, q_rlr, sa, sA, ia, la, q_srsr, q_sRsR, Option.bind_some, if_true, if_false, reduceIte, ite_not, not_true_eq_false, not_false_eq_true, q_z1, Nat.reduceEqDiff])
      (nI 0) FU rfl (by unfold FU; omega)
    subst v1
    have hq : sm (fun k => b2 (decide (rw_ wd (t 2) c (t (72 + k)) = rw_ wd (t 2) c (t (82 + k))))) (t 3) = qn t wd c := rfl
    rw [hq] at v2
    have hle : qn t wd c ≤ t 3 := qf_le t _
    have step : fX12_laysQuarrels_31 (x + 1) S (nI wd) (nI N) (nI c) = fX12_laysQuarrels_48 (fX12_laysQuarrels_31 x) 1 (sr S 9 f) (nI wd) (nI N) (nI c) (nI (qn t wd c)) (nI (t 3)) := by
      rw [← v2]
      simp (disch := omega) only [fX12_laysQuarrels_31, g1, l_0, l_1, l_2, l_3, l_4, l_5, l_6, l_7, l_8, l_9, l_10, l_11, l_12, l_13, l_14, l_15, l_16, l_17, l_18, l_19, l_20, l_21, l_22, l_23, l_24, l_25, l_30, l_31, l_32, l_40, l_48, l_54, l_57, l_59, l_60, l_61, l_62, l_63, l_65, l_66, l_72, l_82, l_92, l_93, l_94, l_97, l_99, l_100, l_101, l_102, l_103, l_104, l_105, l_107, l_108, l_109, l_110, l_111, l_112, l_114, l_115, l_116, l_117, l_119, l_121, l_122, l_136, l_200, l_255, l_300, l_364, l_900, l_1000, l_1456, l_1458, l_1459, l_1460, l_1462, l_1471, l_1504, l_1510, l_1522, l_1550, l_2971, l_9999, l_10000, l_10979, l_65536, l_m1, nI_add, pk_mul, q_sub, q_ltT, q_ltF, q_leT, q_leF, q_eqT, q_eqF, q_inT, q_inF, nI_clamp, q_mlt, q_mle, q_mne, q_mne2, q_mnlt, q_mnle, Option.bind_some, if_true, if_false, reduceIte, ite_not, not_true_eq_false, not_false_eq_true, q_z1, Nat.reduceEqDiff]
    rw [step]
    have nm : (nM < nI 0) = True := eq_true (by decide)
    rcases hS with ⟨rfl, h33⟩ | ⟨m, i, h33, h34, i1, i2, i3, i4⟩
    · refine ⟨si (si (sr S 9 f) 33 (nI (qn t wd 0))) 34 (nI 0), ⟨sq_33 (sq_9 hs), Or.inr ⟨_, 0, rfl, rfl, by omega, rfl, fun j hj => ?_, fun j hj => by omega⟩⟩, ?_⟩
      · obtain rfl : j = 0 := by omega
        exact Nat.le_refl _
      · simp (disch := omega) only [fX12_laysQuarrels_48, fX12_laysQuarrels_127, hu, h33, nm, l_0, l_1, l_2, l_3, l_4, l_5, l_6, l_7, l_8, l_9, l_10, l_11, l_12, l_13, l_14, l_15, l_16, l_17, l_18, l_19, l_20, l_21, l_22, l_23, l_24, l_25, l_30, l_31, l_32, l_40, l_48, l_54, l_57, l_59, l_60, l_61, l_62, l_63, l_65, l_66, l_72, l_82, l_92, l_93, l_94, l_97, l_99, l_100, l_101, l_102, l_103, l_104, l_105, l_107, l_108, l_109, l_110, l_111, l_112, l_114, l_115, l_116, l_117, l_119, l_121, l_122, l_136, l_200, l_255, l_300, l_364, l_900, l_1000, l_1456, l_1458, l_1459, l_1460, l_1462, l_1471, l_1504, l_1510, l_1522, l_1550, l_2971, l_9999, l_10000, l_10979, l_65536, l_m1, nI_add, pk_mul, q_sub, q_ltT, q_ltF, q_leT, q_leF, q_eqT, q_eqF, q_inT, q_inF, nI_clamp, q_mlt, q_mle, q_mne, q_mne2, q_mnlt, q_mnle, q_gi, q_gil, q_gir, q_giR, q_gl, q_gli, q_glr, q_glR, q_ra, q_rai, q_ral, q_raR, q_rl, q_rli, q_rll, q_rlr, sa, sA, ia, la, q_srsr, q_sRsR, Option.bind_some, if_true, if_false, reduceIte, ite_not, not_true_eq_false, not_false_eq_true, q_z1, Nat.reduceEqDiff]
    · by_cases lt : qn t wd c < m
      · refine ⟨si (si (sr S 9 f) 33 (nI (qn t wd c))) 34 (nI c), ⟨sq_33 (sq_9 hs), Or.inr ⟨_, c, rfl, rfl, by omega, rfl, fun j hj => ?_, fun j hj => ?_⟩⟩, ?_⟩
        · by_cases e : j = c
          · subst e; exact Nat.le_refl _
          · have := i3 j (by omega); omega
        · have := i3 j (by omega); omega
        · have hm : m ≤ t 3 := by rw [← i2]; exact qf_le t _
          simp (disch := omega) only [fX12_laysQuarrels_48, fX12_laysQuarrels_127, hu, h33, l_0, l_1, l_2, l_3, l_4, l_5, l_6, l_7, l_8, l_9, l_10, l_11, l_12, l_13, l_14, l_15, l_16, l_17, l_18, l_19, l_20, l_21, l_22, l_23, l_24, l_25, l_30, l_31, l_32, l_40, l_48, l_54, l_57, l_59, l_60, l_61, l_62, l_63, l_65, l_66, l_72, l_82, l_92, l_93, l_94, l_97, l_99, l_100, l_101, l_102, l_103, l_104, l_105, l_107, l_108, l_109, l_110, l_111, l_112, l_114, l_115, l_116, l_117, l_119, l_121, l_122, l_136, l_200, l_255, l_300, l_364, l_900, l_1000, l_1456, l_1458, l_1459, l_1460, l_1462, l_1471, l_1504, l_1510, l_1522, l_1550, l_2971, l_9999, l_10000, l_10979, l_65536, l_m1, nI_add, pk_mul, q_sub, q_ltT, q_ltF, q_leT, q_leF, q_eqT, q_eqF, q_inT, q_inF, nI_clamp, q_mlt, q_mle, q_mne, q_mne2, q_mnlt, q_mnle, q_gi, q_gil, q_gir, q_giR, q_gl, q_gli, q_glr, q_glR, q_ra, q_rai, q_ral, q_raR, q_rl, q_rli, q_rll, q_rlr, sa, sA, ia, la, q_srsr, q_sRsR, Option.bind_some, if_true, if_false, reduceIte, ite_not, not_true_eq_false, not_false_eq_true, q_z1, Nat.reduceEqDiff]
      · have hm : m ≤ t 3 := by rw [← i2]; exact qf_le t _
        refine ⟨sr S 9 f, ⟨sq_9 hs, Or.inr ⟨m, i, h33, h34, by omega, i2, fun j hj => ?_, i4⟩⟩, ?_⟩
        · by_cases e : j = c
          · subst e; omega
          · exact i3 j (by omega)
        · simp (disch := omega) only [fX12_laysQuarrels_48, hu, h33, l_0, l_1, l_2, l_3, l_4, l_5, l_6, l_7, l_8, l_9, l_10, l_11, l_12, l_13, l_14, l_15, l_16, l_17, l_18, l_19, l_20, l_21, l_22, l_23, l_24, l_25, l_30, l_31, l_32, l_40, l_48, l_54, l_57, l_59, l_60, l_61, l_62, l_63, l_65, l_66, l_72, l_82, l_92, l_93, l_94, l_97, l_99, l_100, l_101, l_102, l_103, l_104, l_105, l_107, l_108, l_109, l_110, l_111, l_112, l_114, l_115, l_116, l_117, l_119, l_121, l_122, l_136, l_200, l_255, l_300, l_364, l_900, l_1000, l_1456, l_1458, l_1459, l_1460, l_1462, l_1471, l_1504, l_1510, l_1522, l_1550, l_2971, l_9999, l_10000, l_10979, l_65536, l_m1, nI_add, pk_mul, q_sub, q_ltT, q_ltF, q_leT, q_leF, q_eqT, q_eqF, q_inT, q_inF, nI_clamp, q_mlt, q_mle, q_mne, q_mne2, q_mnlt, q_mnle, q_gi, q_gil, q_gir, q_giR, q_gl, q_gli, q_glr, q_glR, q_ra, q_rai, q_ral, q_raR, q_rl, q_rli, q_rll, q_rlr, sa, sA, ia, la, q_srsr, q_sRsR, Option.bind_some, if_true, if_false, reduceIte, ite_not, not_true_eq_false, not_false_eq_true, q_z1, Nat.reduceEqDiff]
end Q62
