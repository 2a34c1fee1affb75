/-! lived, mark, back -/
theorem cpi_in {f g : Nat → Int32} {n i : Nat} (h : i < n) (hn : n < 2147483648) : cpi f g (nI 0) (nI 0) (nI n) i = f i := by
  unfold cpi va_cpy
  rw [nI_clamp hn, nI_clamp (show 0 < 2147483648 by omega), if_pos (by omega), Nat.zero_add, Nat.sub_zero]
theorem cpl_in {f g : Nat → Int64} {n i : Nat} (h : i < n) (hn : n < 2147483648) : cpl f g (nI 0) (nI 0) (nI n) i = f i := by
  unfold cpl va_cpy
  rw [nI_clamp hn, nI_clamp (show 0 < 2147483648 by omega), if_pos (by omega), Nat.zero_add, Nat.sub_zero]
/-- a table that is like another, as far as its rows reach -/
def tl_eq (T F : ms_T) : Prop := gi T 0 = gi F 0 ∧ gi T 1 = gi F 1 ∧ gi T 4 = gi F 4 ∧ gi T 7 = gi F 7 ∧ gi T 8 = gi F 8 ∧ gi T 12 = gi F 12 ∧ gi T 13 = gi F 13 ∧ gi T 16 = gi F 16 ∧
  (∀ i, i < 9 → ra T 1 i = ra F 1 i) ∧ (∀ i, i < 9 → ra T 2 i = ra F 2 i) ∧ (∀ i, i < 8 → ra T 3 i = ra F 3 i) ∧ (∀ i, i < 8 → ra T 4 i = ra F 4 i) ∧ (∀ i, i < 6 → ra T 5 i = ra F 5 i) ∧ (∀ i, i < 6 → ra T 6 i = ra F 6 i) ∧ (∀ i, i < 6 → ra T 7 i = ra F 7 i) ∧ (∀ i, i < 10 → ra T 8 i = ra F 8 i) ∧ (∀ i, i < 10 → ra T 9 i = ra F 9 i) ∧ (∀ i, i < 23 → rl T 10 i = rl F 10 i)
theorem T_copyFrom (T F : ms_T) : ∃ T', fX7_copyFrom T F = some T' ∧ tl_eq T' F := by
  refine ⟨_, rfl, ?_⟩
  refine ⟨rfl, rfl, rfl, rfl, rfl, rfl, rfl, rfl, ?_, ?_, ?_, ?_, ?_, ?_, ?_, ?_, ?_, ?_⟩
  all_goals (
    intro i hi
    simp (disch := omega) only [l_0, l_1, l_2, l_3, l_4, l_5, l_6, l_7, l_8, l_9, l_10, l_11, l_12, l_13, l_14, l_15, l_16, l_17, l_18, l_19, l_20, l_21, l_22, l_23, l_24, l_25, l_30, l_31, l_32, l_40, l_48, l_54, l_57, l_59, l_60, l_61, l_62, l_63, l_65, l_66, l_72, l_82, l_92, l_93, l_94, l_97, l_99, l_100, l_101, l_102, l_103, l_104, l_105, l_107, l_108, l_109, l_110, l_111, l_112, l_114, l_115, l_116, l_117, l_119, l_121, l_122, l_136, l_200, l_255, l_300, l_364, l_900, l_1000, l_1456, l_1458, l_1459, l_1460, l_1462, l_1471, l_1504, l_1510, l_1522, l_1550, l_2971, l_9999, l_10000, l_10979, l_65536, l_m1, q_gi, q_gil, q_gir, q_giR, q_gl, q_gli, q_glr, q_glR, q_ra, q_rai, q_ral, q_raR, q_rl, q_rli, q_rll, q_rlr, sa, sA, ia, la, q_srsr, q_sRsR, Option.bind_some, if_true, if_false, reduceIte, ite_not, not_true_eq_false, not_false_eq_true, q_z1, Nat.reduceEqDiff, cpi_in, cpl_in])
theorem tl_C {T F : ms_T} {t : Nat → Nat} (w : tb_W t) (h : tl_eq T F) (hC : tb_C F t) : tb_C T t := by
  obtain ⟨w0, w1, w2, w3, w4, -⟩ := w
  obtain ⟨a0, a1, a2, a3, a4, a5, a6, a7, b1, b2, b3, b4, b5, b6, b7, b8, b9, b10⟩ := h
  obtain ⟨h0, h1, h2, h3, h4, h5, h6, h7, h8, h9, h10, h11, h12, h13, h14, h15, h16⟩ := hC
  refine ⟨a0.trans h0, a1.trans h1, a2.trans h2, a3.trans h3, a4.trans h4, a5.trans h5, a6.trans h6, a7.trans h7, ?_, ?_, ?_, ?_, ?_, ?_, ?_, ?_, ?_⟩
  · intro i hi; rw [b1 i (by omega)]; exact h8 i hi
  · intro i hi; rw [b2 i (by omega)]; exact h9 i hi
  · intro i hi; rw [b3 i (by omega)]; exact h10 i hi
  · intro i hi; rw [b4 i (by omega)]; exact h11 i hi
  · intro i hi; rw [b5 i (by omega)]; exact h12 i hi
  · intro i hi; rw [b6 i (by omega)]; exact h13 i hi
  · intro i hi; rw [b7 i (by omega)]; exact h14 i hi
  · intro i hi; rw [b8 i (by omega)]; exact h15 i hi
  · intro i hi; rw [b9 i (by omega)]; exact h16 i hi
/-- evenings that are like others -/
def el_eq (E F : ms_T) (m : Nat) : Prop := gi E 0 = gi F 0 ∧ gi E 1 = gi F 1 ∧ gi E 2 = gi F 2 ∧ (∀ i, i < m → ra E 1 i = ra F 1 i) ∧ (∀ i, i < m → ra E 2 i = ra F 2 i) ∧ (∀ i, i < m → ra E 3 i = ra F 3 i) ∧ (∀ i, i < m → ra E 4 i = ra F 4 i) ∧ (∀ i, i < m → ra E 5 i = ra F 5 i)
theorem E_copyFrom (E F : ms_T) {m : Nat} (hm : m ≤ 60) (h2 : gi F 2 = nI m) (h0 : gi F 0 = nI 0 ∨ gi F 0 = nI 1) : ∃ E', fX1_copyFrom E F = some E' ∧ el_eq E' F m := by
  have gc : cpb (nI 0) (nI 0) (nI m) 60 60 = true := by
    unfold cpb
    rw [nI_clamp (show m < 2147483648 by omega), nI_clamp (show 0 < 2147483648 by omega)]
    exact decide_eq_true ⟨by decide, by decide, nI_pos (by omega), by omega, by omega⟩
  have gb : gi F 0 &&& nI 1 = gi F 0 := by rcases h0 with e | e <;> rw [e] <;> decide
  simp only [fX1_copyFrom, h2, l_0, l_1, l_2, l_3, l_4, l_5, l_6, l_7, l_8, l_9, l_10, l_11, l_12, l_13, l_14, l_15, l_16, l_17, l_18, l_19, l_20, l_21, l_22, l_23, l_24, l_25, l_30, l_31, l_32, l_40, l_48, l_54, l_57, l_59, l_60, l_61, l_62, l_63, l_65, l_66, l_72, l_82, l_92, l_93, l_94, l_97, l_99, l_100, l_101, l_102, l_103, l_104, l_105, l_107, l_108, l_109, l_110, l_111, l_112, l_114, l_115, l_116, l_117, l_119, l_121, l_122, l_136, l_200, l_255, l_300, l_364, l_900, l_1000, l_1456, l_1458, l_1459, l_1460, l_1462, l_1471, l_1504, l_1510, l_1522, l_1550, l_2971, l_9999, l_10000, l_10979, l_65536, l_m1, gc, gb, Option.bind_some, if_true, if_false, reduceIte, ite_not, not_true_eq_false, not_false_eq_true, q_z1, Nat.reduceEqDiff]
  refine ⟨_, rfl, rfl, rfl, h2.symm, ?_, ?_, ?_, ?_, ?_⟩
  all_goals (
    intro i hi
    simp (disch := omega) only [l_0, l_1, l_2, l_3, l_4, l_5, l_6, l_7, l_8, l_9, l_10, l_11, l_12, l_13, l_14, l_15, l_16, l_17, l_18, l_19, l_20, l_21, l_22, l_23, l_24, l_25, l_30, l_31, l_32, l_40, l_48, l_54, l_57, l_59, l_60, l_61, l_62, l_63, l_65, l_66, l_72, l_82, l_92, l_93, l_94, l_97, l_99, l_100, l_101, l_102, l_103, l_104, l_105, l_107, l_108, l_109, l_110, l_111, l_112, l_114, l_115, l_116, l_117, l_119, l_121, l_122, l_136, l_200, l_255, l_300, l_364, l_900, l_1000, l_1456, l_1458, l_1459, l_1460, l_1462, l_1471, l_1504, l_1510, l_1522, l_1550, l_2971, l_9999, l_10000, l_10979, l_65536, l_m1, q_gi, q_gil, q_gir, q_giR, q_gl, q_gli, q_glr, q_glR, q_ra, q_rai, q_ral, q_raR, q_rl, q_rli, q_rll, q_rlr, sa, sA, ia, la, q_srsr, q_sRsR, Option.bind_some, if_true, if_false, reduceIte, ite_not, not_true_eq_false, not_false_eq_true, q_z1, Nat.reduceEqDiff, cpi_in])
theorem ev_B_like {E F : ms_T} {c : Nat → Int32} {nc nt m : Nat} (h : el_eq E F m) : ∀ f d a b P G, G ≤ m → ev_B F c nc nt f d a b P G → ev_B E c nc nt f d a b P G
  | 0, _, _, _, _, _, _, h => h
  | f + 1, d, a, b, P, G, hG, g => by
    obtain ⟨e0, e1, e2, r1, r2, r3, r4, r5⟩ := id h
    rcases g with g | ⟨g1, g2, g3, g4, g5⟩ | ⟨g1, g2, g3, a2, e, d2, g4, g5, g6, g7, g8, g9, g10, g11, g12, g13, g14⟩
    · exact Or.inl g
    · refine Or.inr (Or.inl ⟨g1, g2, ?_, g4, ev_B_like h f d _ b _ G hG g5⟩)
      unfold ev_S at *
      rw [r1 P (by omega), r2 P (by omega), r3 P (by omega)]
      exact g3
    · refine Or.inr (Or.inr ⟨g1, g2, ?_, a2, e, d2, g4, g5, g6, g7, g8, g9, by rw [r1 e (by omega)]; exact g10, by rw [r5 e (by omega)]; exact g11, by rw [r5 P (by omega)]; exact g12, ev_B_like h f d2 _ a2 _ e (by omega) g13, ev_B_like h f d a2 b _ G hG g14⟩)
      unfold ev_L ev_H at *
      rw [r1 P (by omega), r2 P (by omega), r3 P (by omega), r4 P (by omega)]
      exact g3
theorem ev_R_like {E F : ms_T} {c : Nat → Int32} {nc nt m : Nat} (h : el_eq E F m) (hm : gi F 2 = nI m) (hm2 : m ≤ 60) (g : ev_R F c nc nt) : ev_R E c nc nt := by
  obtain ⟨g0, k, k1, k2, k3⟩ := g
  have : k = m := by rw [hm] at k2; exact ((nI_eq (by omega) (by omega)).mp k2).symm
  subst this
  refine ⟨h.1.trans g0, k, k1, h.2.2.1.trans k2, ?_⟩
  rcases k3 with g | ⟨e, n, n1, n2, n3, n4⟩
  · exact Or.inl g
  · exact Or.inr ⟨e, n, n1, n2, h.2.1.trans n3, ev_B_like h _ _ _ _ _ _ (Nat.le_refl _) n4⟩
/-- the reference's copy of a block -/
def same_5 (S0 S : ms_T) : Prop := S.1 = S0.1 ∧ S.2.1 = S0.2.1 ∧ (∀ b, b ≠ 5 → ra S b = ra S0 b) ∧ ∀ b, b ≠ 7 → rl S b = rl S0 b
theorem M_copy (S0 : ms_T) {a b : Nat} (ha : a ≤ 4) (hb : b ≤ 4) (hab : a ≠ b) : ∃ S, fX12_copy S0 (nI a) (nI b) = some S ∧ same_5 S0 S ∧ (∀ i, ra S 5 i = if 364 * b ≤ i ∧ i < 364 * b + 364 then ra S0 5 (364 * a + (i - 364 * b)) else ra S0 5 i) ∧ (∀ i, rl S 7 i = if 23 * b ≤ i ∧ i < 23 * b + 23 then rl S0 7 (23 * a + (i - 23 * b)) else rl S0 7 i) := by
  unfold fX12_copy
  refine lp_up (fun f i S => fX12_copy_2 f S (nI a) (nI b) i) 364 (fun k S => same_5 S0 S ∧ (∀ i, ra S 5 i = if 364 * b ≤ i ∧ i < 364 * b + k then ra S0 5 (364 * a + (i - 364 * b)) else ra S0 5 i) ∧ rl S 7 = rl S0 7)
    (fun S => same_5 S0 S ∧ (∀ i, ra S 5 i = if 364 * b ≤ i ∧ i < 364 * b + 364 then ra S0 5 (364 * a + (i - 364 * b)) else ra S0 5 i) ∧ (∀ i, rl S 7 i = if 23 * b ≤ i ∧ i < 23 * b + 23 then rl S0 7 (23 * a + (i - 23 * b)) else rl S0 7 i)) ?_ ?_ 0 S0 FU (by omega) ⟨⟨rfl, rfl, fun _ _ => rfl, fun _ _ => rfl⟩, fun i => by rw [if_neg (by omega)], rfl⟩ (by unfold FU; omega)
  · intro f S hI
    obtain ⟨i1, i2, i3⟩ := hI
    obtain ⟨S', e, hS⟩ := lp_up (fun f i S => fX12_copy_41 f S (nI a) (nI b) i) 23 (fun k S' => same_5 S0 S' ∧ ra S' 5 = ra S 5 ∧ (∀ i, rl S' 7 i = if 23 * b ≤ i ∧ i < 23 * b + k then rl S0 7 (23 * a + (i - 23 * b)) else rl S0 7 i))
      (fun S' => same_5 S0 S' ∧ ra S' 5 = ra S 5 ∧ (∀ i, rl S' 7 i = if 23 * b ≤ i ∧ i < 23 * b + 23 then rl S0 7 (23 * a + (i - 23 * b)) else rl S0 7 i))
      (fun f S' hI => ⟨S', by simp (disch := omega) only [fX12_copy_41, l_0, l_1, l_2, l_3, l_4, l_5, l_6, l_7, l_8, l_9, l_10, l_11, l_12, l_13, l_14, l_15, l_16, l_17, l_18, l_19, l_20, l_21, l_22, l_23, l_24, l_25, l_30, l_31, l_32, l_40, l_48, l_54, l_57, l_59, l_60, l_61, l_62, l_63, l_65, l_66, l_72, l_82, l_92, l_93, l_94, l_97, l_99, l_100, l_101, l_102, l_103, l_104, l_105, l_107, l_108, l_109, l_110, l_111, l_112, l_114, l_115, l_116, l_117, l_119, l_121, l_122, l_136, l_200, l_255, l_300, l_364, l_900, l_1000, l_1456, l_1458, l_1459, l_1460, l_1462, l_1471, l_1504, l_1510, l_1522, l_1550, l_2971, l_9999, l_10000, l_10979, l_65536, l_m1, nI_add, pk_mul, q_sub, q_ltT, q_ltF, q_leT, q_leF, q_eqT, q_eqF, q_inT, q_inF, nI_clamp, q_mlt, q_mle, q_mne, q_mne2, q_mnlt, q_mnle, Option.bind_some, if_true, if_false, reduceIte, ite_not, not_true_eq_false, not_false_eq_true, q_z1, Nat.reduceEqDiff], hI⟩)
      (fun f k S' hk hI => by
        left
        refine ⟨sR S' 7 (vp_updL (rl S' 7) (23 * b + k) (rl S' 7 (23 * a + k))), ⟨⟨hI.1.1, hI.1.2.1, hI.1.2.2.1, fun x hx => by rw [q_rl, if_neg hx]; exact hI.1.2.2.2 x hx⟩, hI.2.1, fun i => ?_⟩, by simp (disch := omega) only [fX12_copy_41, l_0, l_1, l_2, l_3, l_4, l_5, l_6, l_7, l_8, l_9, l_10, l_11, l_12, l_13, l_14, l_15, l_16, l_17, l_18, l_19, l_20, l_21, l_22, l_23, l_24, l_25, l_30, l_31, l_32, l_40, l_48, l_54, l_57, l_59, l_60, l_61, l_62, l_63, l_65, l_66, l_72, l_82, l_92, l_93, l_94, l_97, l_99, l_100, l_101, l_102, l_103, l_104, l_105, l_107, l_108, l_109, l_110, l_111, l_112, l_114, l_115, l_116, l_117, l_119, l_121, l_122, l_136, l_200, l_255, l_300, l_364, l_900, l_1000, l_1456, l_1458, l_1459, l_1460, l_1462, l_1471, l_1504, l_1510, l_1522, l_1550, l_2971, l_9999, l_10000, l_10979, l_65536, l_m1, nI_add, pk_mul, q_sub, q_ltT, q_ltF, q_leT, q_leF, q_eqT, q_eqF, q_inT, q_inF, nI_clamp, q_mlt, q_mle, q_mne, q_mne2, q_mnlt, q_mnle, q_gi, q_gil, q_gir, q_giR, q_gl, q_gli, q_glr, q_glR, q_ra, q_rai, q_ral, q_raR, q_rl, q_rli, q_rll, q_rlr, sa, sA, ia, la, q_srsr, q_sRsR, Option.bind_some, if_true, if_false, reduceIte, ite_not, not_true_eq_false, not_false_eq_true, q_z1, Nat.reduceEqDiff]⟩
        show vp_updL (rl S' 7) (23 * b + k) _ i = _
        by_cases c : i = 23 * b + k
        · subst c
          rw [uL_e _ _ _ rfl, if_pos (by omega), hI.2.2, if_neg (by omega), show 23 * b + k - 23 * b = k from by omega]
        · rw [uL_n _ _ _ c, hI.2.2 i]
          by_cases d : 23 * b ≤ i ∧ i < 23 * b + k
          · rw [if_pos d, if_pos (by omega)]
          · rw [if_neg d, if_neg (by omega)]) 0 S FU (by omega) ⟨i1, rfl, fun i => by rw [if_neg (by omega), i3]⟩ (by unfold FU; omega)
    refine ⟨S', ?_, hS.1, fun i => by rw [hS.2.1]; exact i2 i, hS.2.2⟩
    simp (disch := omega) only [fX12_copy_2, l_0, l_1, l_2, l_3, l_4, l_5, l_6, l_7, l_8, l_9, l_10, l_11, l_12, l_13, l_14, l_15, l_16, l_17, l_18, l_19, l_20, l_21, l_22, l_23, l_24, l_25, l_30, l_31, l_32, l_40, l_48, l_54, l_57, l_59, l_60, l_61, l_62, l_63, l_65, l_66, l_72, l_82, l_92, l_93, l_94, l_97, l_99, l_100, l_101, l_102, l_103, l_104, l_105, l_107, l_108, l_109, l_110, l_111, l_112, l_114, l_115, l_116, l_117, l_119, l_121, l_122, l_136, l_200, l_255, l_300, l_364, l_900, l_1000, l_1456, l_1458, l_1459, l_1460, l_1462, l_1471, l_1504, l_1510, l_1522, l_1550, l_2971, l_9999, l_10000, l_10979, l_65536, l_m1, nI_add, pk_mul, q_sub, q_ltT, q_ltF, q_leT, q_leF, q_eqT, q_eqF, q_inT, q_inF, nI_clamp, q_mlt, q_mle, q_mne, q_mne2, q_mnlt, q_mnle, Option.bind_some, if_true, if_false, reduceIte, ite_not, not_true_eq_false, not_false_eq_true, q_z1, Nat.reduceEqDiff]
    exact e
  · intro f k S hk hI
    left
    refine ⟨sr S 5 (upd (ra S 5) (364 * b + k) (ra S 5 (364 * a + k))), ⟨⟨hI.1.1, hI.1.2.1, fun x hx => by rw [q_ra, if_neg hx]; exact hI.1.2.2.1 x hx, hI.1.2.2.2⟩, fun i => ?_, hI.2.2⟩, by simp (disch := omega) only [fX12_copy_2, l_0, l_1, l_2, l_3, l_4, l_5, l_6, l_7, l_8, l_9, l_10, l_11, l_12, l_13, l_14, l_15, l_16, l_17, l_18, l_19, l_20, l_21, l_22, l_23, l_24, l_25, l_30, l_31, l_32, l_40, l_48, l_54, l_57, l_59, l_60, l_61, l_62, l_63, l_65, l_66, l_72, l_82, l_92, l_93, l_94, l_97, l_99, l_100, l_101, l_102, l_103, l_104, l_105, l_107, l_108, l_109, l_110, l_111, l_112, l_114, l_115, l_116, l_117, l_119, l_121, l_122, l_136, l_200, l_255, l_300, l_364, l_900, l_1000, l_1456, l_1458, l_1459, l_1460, l_1462, l_1471, l_1504, l_1510, l_1522, l_1550, l_2971, l_9999, l_10000, l_10979, l_65536, l_m1, nI_add, pk_mul, q_sub, q_ltT, q_ltF, q_leT, q_leF, q_eqT, q_eqF, q_inT, q_inF, nI_clamp, q_mlt, q_mle, q_mne, q_mne2, q_mnlt, q_mnle, q_gi, q_gil, q_gir, q_giR, q_gl, q_gli, q_glr, q_glR, q_ra, q_rai, q_ral, q_raR, q_rl, q_rli, q_rll, q_rlr, sa, sA, ia, la, q_srsr, q_sRsR, Option.bind_some, if_true, if_false, reduceIte, ite_not, not_true_eq_false, not_false_eq_true, q_z1, Nat.reduceEqDiff]⟩
    show upd (ra S 5) (364 * b + k) _ i = _
    by_cases c : i = 364 * b + k
    · subst c
      rw [up_e _ _ _ rfl, if_pos (by omega), hI.2.1, if_neg (by omega), show 364 * b + k - 364 * b = k from by omega]
    · rw [up_n _ _ _ c, hI.2.1 i]
      by_cases d : 364 * b ≤ i ∧ i < 364 * b + k
      · rw [if_pos d, if_pos (by omega)]
      · rw [if_neg d, if_neg (by omega)]
/-- a block that was copied holds what its source held -/
theorem rl_B_copy {T E T' E' M M' : ms_T} {a b m : Nat} (h : rl_B T E M a) (hT : tl_eq T' T) (hE : el_eq E' E m) (hm : gi E 2 = nI m) (hm2 : m ≤ 60) (h5 : ∀ i, i < 364 → ra M' 5 (b * 364 + i) = ra M 5 (a * 364 + i)) (h7 : ∀ i, i < 23 → rl M' 7 (b * 23 + i) = rl M 7 (a * 23 + i)) : rl_B T' E' M' b := by
  obtain ⟨t, w, hC, hN, n1, n2, n3, hEv⟩ := h
  obtain ⟨w0, w1, w2, -⟩ := id w
  have hn := hT.2.2.2.2.2.2.2.2.2.2.2.2.2.2.2.2.2
  refine ⟨t, w, tl_C w hT hC, fun i hi => by rw [h5 i (by omega)]; exact hN i hi, fun i hi => ?_, fun i hi => ?_, fun i hi => ?_, ?_⟩
  · rw [hn i (by omega), h7 i (by omega)]; exact n1 i hi
  · rw [hn _ (by omega), h7 _ (by omega)]; exact n2 i hi
  · rw [hn _ (by omega), h7 _ (by omega)]; exact n3 i hi
  · refine ev_R_mono (fun i g1 g2 => ?_) (Nat.le_refl _) (Nat.le_refl _) (ev_R_like hE hm hm2 hEv)
    exact h5 i g2
theorem rl_B_len {T E M : ms_T} {b : Nat} (h : rl_B T E M b) : (∃ m, m ≤ 60 ∧ gi E 2 = nI m) ∧ (gi E 0 = nI 0 ∨ gi E 0 = nI 1) := by
  obtain ⟨t, w, hC, hN, n1, n2, n3, h0, m, m1, m2, m3⟩ := h
  refine ⟨⟨m, m1, m2⟩, ?_⟩
  rcases m3 with g | g
  · exact Or.inl (h0.trans g)
  · exact Or.inr (h0.trans g.1)
theorem X6_copy {SP T E SQ F G : ms_T} {M : ms_T} {b : Nat} (h : rl_B F G M b) : ∃ T' E' m, fX6_copyFrom SP T E SQ F G = some (T', E') ∧ tl_eq T' F ∧ el_eq E' G m ∧ gi G 2 = nI m ∧ m ≤ 60 := by
  obtain ⟨⟨m, m1, m2⟩, h0⟩ := rl_B_len h
  obtain ⟨T', e1, e2⟩ := T_copyFrom T F
  obtain ⟨E', e3, e4⟩ := E_copyFrom E G m1 m2 h0
  exact ⟨T', E', m, by unfold fX6_copyFrom; rw [e1, Option.bind_some, e3, Option.bind_some], e2, e4, m2, m1⟩
theorem o_lived : op_lived Rl := by
  intro SC SY0 SY1 SY2 SY3 SB ST0 SE0 ST2 SE2 ST3 SE3 ST4 SE4 SV0 SM  hR a1
  obtain ⟨hs, hF, hU, hT, ⟨hY0, hY1, hY2, hY3⟩, ⟨t, w, hC, hN0, n1, n2, n3, hE⟩, hK, hV⟩ := id hR
  have hN := tb_N0 hN0
  have hN2 : tb_N (si (si SM 1 (nI 0)) 0 (nI 0)) t := hN
  have hNu : ∀ i, i < 92 → ra SM 5 i = nI (t i) := hN
  obtain ⟨w0, w1, w2, w3, w4, w5, w6, w7, w8, w9⟩ := id w
  obtain ⟨h0, h1, h2, h3, h4, h5, h6, h7, h8, h9, h10, h11, h12, h13, h14, h15, h16⟩ := id hC
  have hI := q_isInL a1 (b := 4) 5 (by omega) (by decide)
  have ex : fX11_lived_9 SV0 SC = some (nM, si SC 0 (nI 5)) := rfl
  rcases q_ix a1 5 (by omega) with ⟨h, e⟩ | ⟨h, h2', e⟩ | ⟨j, hj, rfl⟩
  · simp (disch := omega) only [fX11_lived, fX12_lived, ex, fX11_answer, fX11_refuse, fX11_deny, fX11_grant, fX12_refuse, fX12_no, hI, e, bi, b2_0, h, l_0, l_1, l_2, l_3, l_4, l_5, l_6, l_7, l_8, l_9, l_10, l_11, l_12, l_13, l_14, l_15, l_16, l_17, l_18, l_19, l_20, l_21, l_22, l_23, l_24, l_25, l_30, l_31, l_32, l_40, l_48, l_54, l_57, l_59, l_60, l_61, l_62, l_63, l_65, l_66, l_72, l_82, l_92, l_93, l_94, l_97, l_99, l_100, l_101, l_102, l_103, l_104, l_105, l_107, l_108, l_109, l_110, l_111, l_112, l_114, l_115, l_116, l_117, l_119, l_121, l_122, l_136, l_200, l_255, l_300, l_364, l_900, l_1000, l_1456, l_1458, l_1459, l_1460, l_1462, l_1471, l_1504, l_1510, l_1522, l_1550, l_2971, l_9999, l_10000, l_10979, l_65536, l_m1, nI_add, pk_mul, q_sub, q_ltT, q_ltF, q_leT, q_leF, q_eqT, q_eqF, q_inT, q_inF, nI_clamp, q_mlt, q_mle, q_mne, q_mne2, q_mnlt, q_mnle, Option.bind_some, if_true, if_false, reduceIte, ite_not, not_true_eq_false, not_false_eq_true, q_z1, Nat.reduceEqDiff]
    exact ⟨_, _, rfl, rfl, rfl, rl_st2 hR _ _⟩
  · simp (disch := omega) only [fX11_lived, fX12_lived, ex, fX11_answer, fX11_refuse, fX11_deny, fX11_grant, fX12_refuse, fX12_no, hI, e, bi, b2_0, h2', q_bgle h, l_0, l_1, l_2, l_3, l_4, l_5, l_6, l_7, l_8, l_9, l_10, l_11, l_12, l_13, l_14, l_15, l_16, l_17, l_18, l_19, l_20, l_21, l_22, l_23, l_24, l_25, l_30, l_31, l_32, l_40, l_48, l_54, l_57, l_59, l_60, l_61, l_62, l_63, l_65, l_66, l_72, l_82, l_92, l_93, l_94, l_97, l_99, l_100, l_101, l_102, l_103, l_104, l_105, l_107, l_108, l_109, l_110, l_111, l_112, l_114, l_115, l_116, l_117, l_119, l_121, l_122, l_136, l_200, l_255, l_300, l_364, l_900, l_1000, l_1456, l_1458, l_1459, l_1460, l_1462, l_1471, l_1504, l_1510, l_1522, l_1550, l_2971, l_9999, l_10000, l_10979, l_65536, l_m1, nI_add, pk_mul, q_sub, q_ltT, q_ltF, q_leT, q_leF, q_eqT, q_eqF, q_inT, q_inF, nI_clamp, q_mlt, q_mle, q_mne, q_mne2, q_mnlt, q_mnle, Option.bind_some, if_true, if_false, reduceIte, ite_not, not_true_eq_false, not_false_eq_true, q_z1, Nat.reduceEqDiff]
    exact ⟨_, _, rfl, rfl, rfl, rl_st2 hR _ _⟩
  · have e : inb (nI j) 5 = true := q_inT hj (by omega)
    obtain ⟨v0, v1⟩ := hV
    rcases v1 with v1 | ⟨v1, v2, v3, v4, v5, v6⟩
    · have v7 : gi SM 40 = nI 0 := v0.symm.trans v1
      simp (disch := omega) only [fX11_lived, fX12_lived, fX11_answer, fX11_refuse, fX11_deny, fX11_grant, fX12_refuse, fX12_no, hI, e, v1, v7, bi, b2_1, l_0, l_1, l_2, l_3, l_4, l_5, l_6, l_7, l_8, l_9, l_10, l_11, l_12, l_13, l_14, l_15, l_16, l_17, l_18, l_19, l_20, l_21, l_22, l_23, l_24, l_25, l_30, l_31, l_32, l_40, l_48, l_54, l_57, l_59, l_60, l_61, l_62, l_63, l_65, l_66, l_72, l_82, l_92, l_93, l_94, l_97, l_99, l_100, l_101, l_102, l_103, l_104, l_105, l_107, l_108, l_109, l_110, l_111, l_112, l_114, l_115, l_116, l_117, l_119, l_121, l_122, l_136, l_200, l_255, l_300, l_364, l_900, l_1000, l_1456, l_1458, l_1459, l_1460, l_1462, l_1471, l_1504, l_1510, l_1522, l_1550, l_2971, l_9999, l_10000, l_10979, l_65536, l_m1, nI_add, pk_mul, q_sub, q_ltT, q_ltF, q_leT, q_leF, q_eqT, q_eqF, q_inT, q_inF, nI_clamp, q_mlt, q_mle, q_mne, q_mne2, q_mnlt, q_mnle, q_gi, q_gil, q_gir, q_giR, q_gl, q_gli, q_glr, q_glR, q_ra, q_rai, q_ral, q_raR, q_rl, q_rli, q_rll, q_rlr, sa, sA, ia, la, q_srsr, q_sRsR, Option.bind_some, if_true, if_false, reduceIte, ite_not, not_true_eq_false, not_false_eq_true, q_z1, Nat.reduceEqDiff]
      exact ⟨_, _, rfl, rfl, rfl, rl_st2 hR _ _⟩
    · have v7 : gi SM 40 = nI 1 := v0.symm.trans v1
      rcases (by omega : j = 0 ∨ j = 1 ∨ j = 2 ∨ j = 3 ∨ j = 4) with rfl | rfl | rfl | rfl | rfl <;> (
        simp (disch := omega) only [fX11_lived, fX12_lived, fX11_answer, fX11_refuse, fX11_deny, fX11_grant, fX12_refuse, fX12_no, hI, e, v1, v2, v3, v4, v5, v6, v7, bi, b2_1, l_0, l_1, l_2, l_3, l_4, l_5, l_6, l_7, l_8, l_9, l_10, l_11, l_12, l_13, l_14, l_15, l_16, l_17, l_18, l_19, l_20, l_21, l_22, l_23, l_24, l_25, l_30, l_31, l_32, l_40, l_48, l_54, l_57, l_59, l_60, l_61, l_62, l_63, l_65, l_66, l_72, l_82, l_92, l_93, l_94, l_97, l_99, l_100, l_101, l_102, l_103, l_104, l_105, l_107, l_108, l_109, l_110, l_111, l_112, l_114, l_115, l_116, l_117, l_119, l_121, l_122, l_136, l_200, l_255, l_300, l_364, l_900, l_1000, l_1456, l_1458, l_1459, l_1460, l_1462, l_1471, l_1504, l_1510, l_1522, l_1550, l_2971, l_9999, l_10000, l_10979, l_65536, l_m1, nI_add, pk_mul, q_sub, q_ltT, q_ltF, q_leT, q_leF, q_eqT, q_eqF, q_inT, q_inF, nI_clamp, q_mlt, q_mle, q_mne, q_mne2, q_mnlt, q_mnle, q_gi, q_gil, q_gir, q_giR, q_gl, q_gli, q_glr, q_glR, q_ra, q_rai, q_ral, q_raR, q_rl, q_rli, q_rll, q_rlr, sa, sA, ia, la, q_srsr, q_sRsR, Option.bind_some, if_true, if_false, reduceIte, ite_not, not_true_eq_false, not_false_eq_true, q_z1, Nat.reduceEqDiff]
        exact ⟨_, _, rfl, rfl, rfl, rl_st hR _⟩)
theorem o_mark : op_mark Rl := by
  intro SC SY0 SY1 SY2 SY3 SB ST0 SE0 ST2 SE2 ST3 SE3 ST4 SE4 SV0 SM SP0 SP2 SP3 SP4 hR 
  obtain ⟨hs, hF, hU, hT, ⟨hY0, hY1, hY2, hY3⟩, ⟨t, w, hC, hN0, n1, n2, n3, hE⟩, hK, hV⟩ := id hR
  have hN := tb_N0 hN0
  have hN2 : tb_N (si (si SM 1 (nI 0)) 0 (nI 0)) t := hN
  have hNu : ∀ i, i < 92 → ra SM 5 i = nI (t i) := hN
  obtain ⟨w0, w1, w2, w3, w4, w5, w6, w7, w8, w9⟩ := id w
  obtain ⟨h0, h1, h2, h3, h4, h5, h6, h7, h8, h9, h10, h11, h12, h13, h14, h15, h16⟩ := id hC
  obtain ⟨k, k1, k2, k3, k4, k5, k6⟩ := hK
  have hB0 := hR.2.2.2.2.2.1
  by_cases c : k = 3
  · subst c
    simp (disch := omega) only [fX11_mark, fX12_mark, fX11_answer, fX11_refuse, fX11_deny, fX11_grant, fX12_refuse, fX12_no, k2, k3, l_0, l_1, l_2, l_3, l_4, l_5, l_6, l_7, l_8, l_9, l_10, l_11, l_12, l_13, l_14, l_15, l_16, l_17, l_18, l_19, l_20, l_21, l_22, l_23, l_24, l_25, l_30, l_31, l_32, l_40, l_48, l_54, l_57, l_59, l_60, l_61, l_62, l_63, l_65, l_66, l_72, l_82, l_92, l_93, l_94, l_97, l_99, l_100, l_101, l_102, l_103, l_104, l_105, l_107, l_108, l_109, l_110, l_111, l_112, l_114, l_115, l_116, l_117, l_119, l_121, l_122, l_136, l_200, l_255, l_300, l_364, l_900, l_1000, l_1456, l_1458, l_1459, l_1460, l_1462, l_1471, l_1504, l_1510, l_1522, l_1550, l_2971, l_9999, l_10000, l_10979, l_65536, l_m1, nI_add, pk_mul, q_sub, q_ltT, q_ltF, q_leT, q_leF, q_eqT, q_eqF, q_inT, q_inF, nI_clamp, q_mlt, q_mle, q_mne, q_mne2, q_mnlt, q_mnle, q_gi, q_gil, q_gir, q_giR, q_gl, q_gli, q_glr, q_glR, q_ra, q_rai, q_ral, q_raR, q_rl, q_rli, q_rll, q_rlr, sa, sA, ia, la, q_srsr, q_sRsR, Option.bind_some, if_true, if_false, reduceIte, ite_not, not_true_eq_false, not_false_eq_true, q_z1, Nat.reduceEqDiff]
    exact ⟨_, _, rfl, rfl, rfl, rl_st2 hR _ _⟩
  · obtain ⟨M', y1, y2, y3, y4⟩ := M_copy (si (si (si SM 1 (nI 0)) 0 (nI 0)) 23 (nI (k + 1))) (a := 0) (b := k + 1) (by omega) (by omega) (by omega)
    have z5 : ∀ b, b ≠ k + 1 → ∀ i, i < 364 → ra M' 5 (b * 364 + i) = ra SM 5 (b * 364 + i) := fun b hb i hi => by
      rw [y3, if_neg (by omega)]; rfl
    have z7 : ∀ b, b ≠ k + 1 → ∀ i, i < 23 → rl M' 7 (b * 23 + i) = rl SM 7 (b * 23 + i) := fun b hb i hi => by
      rw [y4, if_neg (by omega)]; rfl
    have c5 : ∀ i, i < 364 → ra M' 5 ((k + 1) * 364 + i) = ra SM 5 (0 * 364 + i) := fun i hi => by
      rw [y3, if_pos (by omega)]
      exact congrArg (ra SM 5) (by omega)
    have c7 : ∀ i, i < 23 → rl M' 7 ((k + 1) * 23 + i) = rl SM 7 (0 * 23 + i) := fun i hi => by
      rw [y4, if_pos (by omega)]
      exact congrArg (rl SM 7) (by omega)
    have g : ∀ x, x ≠ 0 → x ≠ 1 → x ≠ 23 → gi M' x = gi SM x := fun x h0 h1 h2 => by
      show M'.1 x = SM.1 x
      rw [y2.1]
      show gi (si (si (si SM 1 (nI 0)) 0 (nI 0)) 23 (nI (k + 1))) x = gi SM x
      rw [q_gi, if_neg h2, q_gi, if_neg h0, q_gi, if_neg h1]
    have gl' : ∀ x, gl M' x = gl SM x := fun x => by show M'.2.1 x = SM.2.1 x; rw [y2.2.1]; rfl
    have g0 : gi M' 0 = nI 0 := by show M'.1 0 = _; rw [y2.1]; rfl
    have g23 : gi M' 23 = nI (k + 1) := by show M'.1 23 = _; rw [y2.1]; rfl
    have r1 : ra M' 1 = ra SM 1 := y2.2.2.1 1 (by omega)
    have r2 : ra M' 2 = ra SM 2 := y2.2.2.1 2 (by omega)
    have r4 : ra M' 4 = ra SM 4 := y2.2.2.1 4 (by omega)
    have r12 : ra M' 12 = ra SM 12 := y2.2.2.1 12 (by omega)
    have l3 : rl M' 3 = rl SM 3 := y2.2.2.2 3 (by omega)
    have b0 : rl_B ST0 SE0 M' 0 := rl_B_keep (z5 0 (by omega)) (z7 0 (by omega)) hB0
    have base : ∀ C' A1 F1 A2 F2 A3 F3, gi C' 0 = nI 0 → rl_F C' M' → rl_U C' M' → rl_T C' SB M' → rl_K C' A1 F1 A2 F2 A3 F3 M' → rl_V C' SV0 M' → Rl C' SY0 SY1 SY2 SY3 SB ST0 SE0 A1 F1 A2 F2 A3 F3 SV0 M' := fun C' A1 F1 A2 F2 A3 F3 a b c d e f =>
      ⟨a.trans g0.symm, b, c, d, ⟨rl_Y_keep (by rw [r1]) (by rw [r2]) (fun x _ => by rw [l3]) hY0, rl_Y_keep (by rw [r1]) (by rw [r2]) (fun x _ => by rw [l3]) hY1, rl_Y_keep (by rw [r1]) (by rw [r2]) (fun x _ => by rw [l3]) hY2, rl_Y_keep (by rw [r1]) (by rw [r2]) (fun x _ => by rw [l3]) hY3⟩, b0, e, f⟩
    have uF : rl_F SC M' := by unfold rl_F at *; rw [gl', gl']; exact hF
    have uU : rl_U SC M' := by unfold rl_U at *; rw [g 10 (by omega) (by omega) (by omega), g 11 (by omega) (by omega) (by omega)]; exact hU
    have uT : rl_T SC SB M' := by unfold rl_T at *; rw [g 8 (by omega) (by omega) (by omega), r4]; exact hT
    have uV : rl_V SC SV0 M' := by unfold rl_V at *; rw [g 40 (by omega) (by omega) (by omega), r12]; exact hV
    by_cases d0 : k = 0
    · subst d0
      obtain ⟨T', E', m, x1, x2, x3, x4, x5⟩ := X6_copy (SP := SP2) (T := ST2) (E := SE2) (SQ := SP0) hB0
      simp (disch := omega) only [fX11_mark, fX12_mark, fX11_answer, fX11_refuse, fX11_deny, fX11_grant, fX12_refuse, fX12_no, k2, k3, x1, y1, g23, l_0, l_1, l_2, l_3, l_4, l_5, l_6, l_7, l_8, l_9, l_10, l_11, l_12, l_13, l_14, l_15, l_16, l_17, l_18, l_19, l_20, l_21, l_22, l_23, l_24, l_25, l_30, l_31, l_32, l_40, l_48, l_54, l_57, l_59, l_60, l_61, l_62, l_63, l_65, l_66, l_72, l_82, l_92, l_93, l_94, l_97, l_99, l_100, l_101, l_102, l_103, l_104, l_105, l_107, l_108, l_109, l_110, l_111, l_112, l_114, l_115, l_116, l_117, l_119, l_121, l_122, l_136, l_200, l_255, l_300, l_364, l_900, l_1000, l_1456, l_1458, l_1459, l_1460, l_1462, l_1471, l_1504, l_1510, l_1522, l_1550, l_2971, l_9999, l_10000, l_10979, l_65536, l_m1, nI_add, pk_mul, q_sub, q_ltT, q_ltF, q_leT, q_leF, q_eqT, q_eqF, q_inT, q_inF, nI_clamp, q_mlt, q_mle, q_mne, q_mne2, q_mnlt, q_mnle, q_gi, q_gil, q_gir, q_giR, q_gl, q_gli, q_glr, q_glR, q_ra, q_rai, q_ral, q_raR, q_rl, q_rli, q_rll, q_rlr, sa, sA, ia, la, q_srsr, q_sRsR, Option.bind_some, if_true, if_false, reduceIte, ite_not, not_true_eq_false, not_false_eq_true, q_z1, Nat.reduceEqDiff]
      refine ⟨_, _, rfl, rfl, rfl, ?_⟩
      exact base _ _ _ _ _ _ _ rfl uF uU uT ⟨1, by omega, rfl, g23, (fun h => rl_B_copy hB0 x2 x3 x4 x5 c5 c7), (fun h => absurd h (by omega)), (fun h => absurd h (by omega))⟩ uV
    by_cases d1 : k = 1
    · subst d1
      obtain ⟨T', E', m, x1, x2, x3, x4, x5⟩ := X6_copy (SP := SP3) (T := ST3) (E := SE3) (SQ := SP0) hB0
      simp (disch := omega) only [fX11_mark, fX12_mark, fX11_answer, fX11_refuse, fX11_deny, fX11_grant, fX12_refuse, fX12_no, k2, k3, x1, y1, g23, l_0, l_1, l_2, l_3, l_4, l_5, l_6, l_7, l_8, l_9, l_10, l_11, l_12, l_13, l_14, l_15, l_16, l_17, l_18, l_19, l_20, l_21, l_22, l_23, l_24, l_25, l_30, l_31, l_32, l_40, l_48, l_54, l_57, l_59, l_60, l_61, l_62, l_63, l_65, l_66, l_72, l_82, l_92, l_93, l_94, l_97, l_99, l_100, l_101, l_102, l_103, l_104, l_105, l_107, l_108, l_109, l_110, l_111, l_112, l_114, l_115, l_116, l_117, l_119, l_121, l_122, l_136, l_200, l_255, l_300, l_364, l_900, l_1000, l_1456, l_1458, l_1459, l_1460, l_1462, l_1471, l_1504, l_1510, l_1522, l_1550, l_2971, l_9999, l_10000, l_10979, l_65536, l_m1, nI_add, pk_mul, q_sub, q_ltT, q_ltF, q_leT, q_leF, q_eqT, q_eqF, q_inT, q_inF, nI_clamp, q_mlt, q_mle, q_mne, q_mne2, q_mnlt, q_mnle, q_gi, q_gil, q_gir, q_giR, q_gl, q_gli, q_glr, q_glR, q_ra, q_rai, q_ral, q_raR, q_rl, q_rli, q_rll, q_rlr, sa, sA, ia, la, q_srsr, q_sRsR, Option.bind_some, if_true, if_false, reduceIte, ite_not, not_true_eq_false, not_false_eq_true, q_z1, Nat.reduceEqDiff]
      refine ⟨_, _, rfl, rfl, rfl, ?_⟩
      exact base _ _ _ _ _ _ _ rfl uF uU uT ⟨2, by omega, rfl, g23, (fun h => rl_B_keep (z5 1 (by omega)) (z7 1 (by omega)) (k4 (by omega))), (fun h => rl_B_copy hB0 x2 x3 x4 x5 c5 c7), (fun h => absurd h (by omega))⟩ uV
    by_cases d2 : k = 2
    · subst d2
      obtain ⟨T', E', m, x1, x2, x3, x4, x5⟩ := X6_copy (SP := SP4) (T := ST4) (E := SE4) (SQ := SP0) hB0
      simp (disch := omega) only [fX11_mark, fX12_mark, fX11_answer, fX11_refuse, fX11_deny, fX11_grant, fX12_refuse, fX12_no, k2, k3, x1, y1, g23, l_0, l_1, l_2, l_3, l_4, l_5, l_6, l_7, l_8, l_9, l_10, l_11, l_12, l_13, l_14, l_15, l_16, l_17, l_18, l_19, l_20, l_21, l_22, l_23, l_24, l_25, l_30, l_31, l_32, l_40, l_48, l_54, l_57, l_59, l_60, l_61, l_62, l_63, l_65, l_66, l_72, l_82, l_92, l_93, l_94, l_97, l_99, l_100, l_101, l_102, l_103, l_104, l_105, l_107, l_108, l_109, l_110, l_111, l_112, l_114, l_115, l_116, l_117, l_119, l_121, l_122, l_136, l_200, l_255, l_300, l_364, l_900, l_1000, l_1456, l_1458, l_1459, l_1460, l_1462, l_1471, l_1504, l_1510, l_1522, l_1550, l_2971, l_9999, l_10000, l_10979, l_65536, l_m1, nI_add, pk_mul, q_sub, q_ltT, q_ltF, q_leT, q_leF, q_eqT, q_eqF, q_inT, q_inF, nI_clamp, q_mlt, q_mle, q_mne, q_mne2, q_mnlt, q_mnle, q_gi, q_gil, q_gir, q_giR, q_gl, q_gli, q_glr, q_glR, q_ra, q_rai, q_ral, q_raR, q_rl, q_rli, q_rll, q_rlr, sa, sA, ia, la, q_srsr, q_sRsR, Option.bind_some, if_true, if_false, reduceIte, ite_not, not_true_eq_false, not_false_eq_true, q_z1, Nat.reduceEqDiff]
      refine ⟨_, _, rfl, rfl, rfl, ?_⟩
      exact base _ _ _ _ _ _ _ rfl uF uU uT ⟨3, by omega, rfl, g23, (fun h => rl_B_keep (z5 1 (by omega)) (z7 1 (by omega)) (k4 (by omega))), (fun h => rl_B_keep (z5 2 (by omega)) (z7 2 (by omega)) (k5 (by omega))), (fun h => rl_B_copy hB0 x2 x3 x4 x5 c5 c7)⟩ uV
    omega
theorem o_back : op_back Rl := by
  intro SC SY0 SY1 SY2 SY3 SB ST0 SE0 ST2 SE2 ST3 SE3 ST4 SE4 SV0 SM SP0 SP2 SP3 SP4 hR 
  obtain ⟨hs, hF, hU, hT, ⟨hY0, hY1, hY2, hY3⟩, ⟨t, w, hC, hN0, n1, n2, n3, hE⟩, hK, hV⟩ := id hR
  have hN := tb_N0 hN0
  have hN2 : tb_N (si (si SM 1 (nI 0)) 0 (nI 0)) t := hN
  have hNu : ∀ i, i < 92 → ra SM 5 i = nI (t i) := hN
  obtain ⟨w0, w1, w2, w3, w4, w5, w6, w7, w8, w9⟩ := id w
  obtain ⟨h0, h1, h2, h3, h4, h5, h6, h7, h8, h9, h10, h11, h12, h13, h14, h15, h16⟩ := id hC
  obtain ⟨k, k1, k2, k3, k4, k5, k6⟩ := hK
  by_cases c : k = 0
  · subst c
    simp (disch := omega) only [fX11_back, fX12_back, fX11_answer, fX11_refuse, fX11_deny, fX11_grant, fX12_refuse, fX12_no, k2, k3, l_0, l_1, l_2, l_3, l_4, l_5, l_6, l_7, l_8, l_9, l_10, l_11, l_12, l_13, l_14, l_15, l_16, l_17, l_18, l_19, l_20, l_21, l_22, l_23, l_24, l_25, l_30, l_31, l_32, l_40, l_48, l_54, l_57, l_59, l_60, l_61, l_62, l_63, l_65, l_66, l_72, l_82, l_92, l_93, l_94, l_97, l_99, l_100, l_101, l_102, l_103, l_104, l_105, l_107, l_108, l_109, l_110, l_111, l_112, l_114, l_115, l_116, l_117, l_119, l_121, l_122, l_136, l_200, l_255, l_300, l_364, l_900, l_1000, l_1456, l_1458, l_1459, l_1460, l_1462, l_1471, l_1504, l_1510, l_1522, l_1550, l_2971, l_9999, l_10000, l_10979, l_65536, l_m1, nI_add, pk_mul, q_sub, q_ltT, q_ltF, q_leT, q_leF, q_eqT, q_eqF, q_inT, q_inF, nI_clamp, q_mlt, q_mle, q_mne, q_mne2, q_mnlt, q_mnle, q_gi, q_gil, q_gir, q_giR, q_gl, q_gli, q_glr, q_glR, q_ra, q_rai, q_ral, q_raR, q_rl, q_rli, q_rll, q_rlr, sa, sA, ia, la, q_srsr, q_sRsR, Option.bind_some, if_true, if_false, reduceIte, ite_not, not_true_eq_false, not_false_eq_true, q_z1, Nat.reduceEqDiff]
    exact ⟨_, _, rfl, rfl, rfl, rl_st2 hR _ _⟩
  · obtain ⟨M1, y1, y2, y3, y4⟩ := M_copy (si (si SM 1 (nI 0)) 0 (nI 0)) (a := k) (b := 0) (by omega) (by omega) (by omega)
    have z5 : ∀ b, b ≠ 0 → ∀ i, i < 364 → ra M1 5 (b * 364 + i) = ra SM 5 (b * 364 + i) := fun b hb i hi => by
      rw [y3, if_neg (by omega)]; rfl
    have z7 : ∀ b, b ≠ 0 → ∀ i, i < 23 → rl M1 7 (b * 23 + i) = rl SM 7 (b * 23 + i) := fun b hb i hi => by
      rw [y4, if_neg (by omega)]; rfl
    have c5 : ∀ i, i < 364 → ra M1 5 (0 * 364 + i) = ra SM 5 (k * 364 + i) := fun i hi => by
      rw [y3, if_pos (by omega)]
      exact congrArg (ra SM 5) (by omega)
    have c7 : ∀ i, i < 23 → rl M1 7 (0 * 23 + i) = rl SM 7 (k * 23 + i) := fun i hi => by
      rw [y4, if_pos (by omega)]
      exact congrArg (rl SM 7) (by omega)
    have g : ∀ x, x ≠ 0 → x ≠ 1 → gi M1 x = gi SM x := fun x h0 h1 => by
      show M1.1 x = SM.1 x
      rw [y2.1]
      show gi (si (si SM 1 (nI 0)) 0 (nI 0)) x = gi SM x
      rw [q_gi, if_neg h0, q_gi, if_neg h1]
    have gl' : ∀ x, gl M1 x = gl SM x := fun x => by show M1.2.1 x = SM.2.1 x; rw [y2.2.1]; rfl
    have g0 : gi M1 0 = nI 0 := by show M1.1 0 = _; rw [y2.1]; rfl
    have g23 : gi M1 23 = nI k := (g 23 (by omega) (by omega)).trans k3
    have r1 : ra M1 1 = ra SM 1 := y2.2.2.1 1 (by omega)
    have r2 : ra M1 2 = ra SM 2 := y2.2.2.1 2 (by omega)
    have r4 : ra M1 4 = ra SM 4 := y2.2.2.1 4 (by omega)
    have r12 : ra M1 12 = ra SM 12 := y2.2.2.1 12 (by omega)
    have l3 : rl M1 3 = rl SM 3 := y2.2.2.2 3 (by omega)
    have bk : ∀ T E b, b ≠ 0 → rl_B T E SM b → rl_B T E (si M1 23 (nI (k - 1))) b := fun T E b hb h => rl_B_keep (M' := si M1 23 (nI (k - 1))) (z5 b hb) (z7 b hb) h
    have base : ∀ T' E' C', gi C' 0 = nI 0 → rl_F C' (si M1 23 (nI (k - 1))) → rl_U C' (si M1 23 (nI (k - 1))) → rl_T C' SB (si M1 23 (nI (k - 1))) → rl_B T' E' (si M1 23 (nI (k - 1))) 0 → rl_K C' ST2 SE2 ST3 SE3 ST4 SE4 (si M1 23 (nI (k - 1))) → rl_V C' SV0 (si M1 23 (nI (k - 1))) → Rl C' SY0 SY1 SY2 SY3 SB T' E' ST2 SE2 ST3 SE3 ST4 SE4 SV0 (si M1 23 (nI (k - 1))) := fun T' E' C' a b c d b0 e f =>
      ⟨a.trans g0.symm, b, c, d, ⟨rl_Y_keep (M' := si M1 23 (nI (k - 1))) (congrFun r1 0) (congrFun r2 0) (fun x _ => congrFun l3 _) hY0, rl_Y_keep (M' := si M1 23 (nI (k - 1))) (congrFun r1 1) (congrFun r2 1) (fun x _ => congrFun l3 _) hY1, rl_Y_keep (M' := si M1 23 (nI (k - 1))) (congrFun r1 2) (congrFun r2 2) (fun x _ => congrFun l3 _) hY2, rl_Y_keep (M' := si M1 23 (nI (k - 1))) (congrFun r1 3) (congrFun r2 3) (fun x _ => congrFun l3 _) hY3⟩, b0, e, f⟩
    have uF : rl_F SC M1 := by unfold rl_F at *; rw [gl', gl']; exact hF
    have uU : rl_U SC M1 := by unfold rl_U at *; rw [g 10 (by omega) (by omega), g 11 (by omega) (by omega)]; exact hU
    have uT : rl_T SC SB M1 := by unfold rl_T at *; rw [g 8 (by omega) (by omega), r4]; exact hT
    have uV : rl_V SC SV0 M1 := by unfold rl_V at *; rw [g 40 (by omega) (by omega), r12]; exact hV
    by_cases d1 : k = 1
    · subst d1
      obtain ⟨T', E', m, x1, x2, x3, x4, x5⟩ := X6_copy (SP := SP0) (T := ST0) (E := SE0) (SQ := SP2) (k4 (by omega))
      simp (disch := omega) only [fX11_back, fX12_back, fX11_answer, fX11_refuse, fX11_deny, fX11_grant, fX12_refuse, fX12_no, k2, k3, x1, y1, g23, l_0, l_1, l_2, l_3, l_4, l_5, l_6, l_7, l_8, l_9, l_10, l_11, l_12, l_13, l_14, l_15, l_16, l_17, l_18, l_19, l_20, l_21, l_22, l_23, l_24, l_25, l_30, l_31, l_32, l_40, l_48, l_54, l_57, l_59, l_60, l_61, l_62, l_63, l_65, l_66, l_72, l_82, l_92, l_93, l_94, l_97, l_99, l_100, l_101, l_102, l_103, l_104, l_105, l_107, l_108, l_109, l_110, l_111, l_112, l_114, l_115, l_116, l_117, l_119, l_121, l_122, l_136, l_200, l_255, l_300, l_364, l_900, l_1000, l_1456, l_1458, l_1459, l_1460, l_1462, l_1471, l_1504, l_1510, l_1522, l_1550, l_2971, l_9999, l_10000, l_10979, l_65536, l_m1, nI_add, pk_mul, q_sub, q_ltT, q_ltF, q_leT, q_leF, q_eqT, q_eqF, q_inT, q_inF, nI_clamp, q_mlt, q_mle, q_mne, q_mne2, q_mnlt, q_mnle, q_gi, q_gil, q_gir, q_giR, q_gl, q_gli, q_glr, q_glR, q_ra, q_rai, q_ral, q_raR, q_rl, q_rli, q_rll, q_rlr, sa, sA, ia, la, q_srsr, q_sRsR, Option.bind_some, if_true, if_false, reduceIte, ite_not, not_true_eq_false, not_false_eq_true, q_z1, Nat.reduceEqDiff]
      refine ⟨_, _, rfl, rfl, rfl, ?_⟩
      exact base _ _ _ rfl uF uU uT (rl_B_copy (M' := si M1 23 (nI (1 - 1))) (k4 (by omega)) x2 x3 x4 x5 c5 c7) ⟨1 - 1, by omega, rfl, rfl, fun h => bk _ _ 1 (by omega) (k4 (by omega)), fun h => bk _ _ 2 (by omega) (k5 (by omega)), fun h => bk _ _ 3 (by omega) (k6 (by omega))⟩ uV
    by_cases d2 : k = 2
    · subst d2
      obtain ⟨T', E', m, x1, x2, x3, x4, x5⟩ := X6_copy (SP := SP0) (T := ST0) (E := SE0) (SQ := SP3) (k5 (by omega))
      simp (disch := omega) only [fX11_back, fX12_back, fX11_answer, fX11_refuse, fX11_deny, fX11_grant, fX12_refuse, fX12_no, k2, k3, x1, y1, g23, l_0, l_1, l_2, l_3, l_4, l_5, l_6, l_7, l_8, l_9, l_10, l_11, l_12, l_13, l_14, l_15, l_16, l_17, l_18, l_19, l_20, l_21, l_22, l_23, l_24, l_25, l_30, l_31, l_32, l_40, l_48, l_54, l_57, l_59, l_60, l_61, l_62, l_63, l_65, l_66, l_72, l_82, l_92, l_93, l_94, l_97, l_99, l_100, l_101, l_102, l_103, l_104, l_105, l_107, l_108, l_109, l_110, l_111, l_112, l_114, l_115, l_116, l_117, l_119, l_121, l_122, l_136, l_200, l_255, l_300, l_364, l_900, l_1000, l_1456, l_1458, l_1459, l_1460, l_1462, l_1471, l_1504, l_1510, l_1522, l_1550, l_2971, l_9999, l_10000, l_10979, l_65536, l_m1, nI_add, pk_mul, q_sub, q_ltT, q_ltF, q_leT, q_leF, q_eqT, q_eqF, q_inT, q_inF, nI_clamp, q_mlt, q_mle, q_mne, q_mne2, q_mnlt, q_mnle, q_gi, q_gil, q_gir, q_giR, q_gl, q_gli, q_glr, q_glR, q_ra, q_rai, q_ral, q_raR, q_rl, q_rli, q_rll, q_rlr, sa, sA, ia, la, q_srsr, q_sRsR, Option.bind_some, if_true, if_false, reduceIte, ite_not, not_true_eq_false, not_false_eq_true, q_z1, Nat.reduceEqDiff]
      refine ⟨_, _, rfl, rfl, rfl, ?_⟩
      exact base _ _ _ rfl uF uU uT (rl_B_copy (M' := si M1 23 (nI (2 - 1))) (k5 (by omega)) x2 x3 x4 x5 c5 c7) ⟨2 - 1, by omega, rfl, rfl, fun h => bk _ _ 1 (by omega) (k4 (by omega)), fun h => bk _ _ 2 (by omega) (k5 (by omega)), fun h => bk _ _ 3 (by omega) (k6 (by omega))⟩ uV
    by_cases d3 : k = 3
    · subst d3
      obtain ⟨T', E', m, x1, x2, x3, x4, x5⟩ := X6_copy (SP := SP0) (T := ST0) (E := SE0) (SQ := SP4) (k6 (by omega))
      simp (disch := omega) only [fX11_back, fX12_back, fX11_answer, fX11_refuse, fX11_deny, fX11_grant, fX12_refuse, fX12_no, k2, k3, x1, y1, g23, l_0, l_1, l_2, l_3, l_4, l_5, l_6, l_7, l_8, l_9, l_10, l_11, l_12, l_13, l_14, l_15, l_16, l_17, l_18, l_19, l_20, l_21, l_22, l_23, l_24, l_25, l_30, l_31, l_32, l_40, l_48, l_54, l_57, l_59, l_60, l_61, l_62, l_63, l_65, l_66, l_72, l_82, l_92, l_93, l_94, l_97, l_99, l_100, l_101, l_102, l_103, l_104, l_105, l_107, l_108, l_109, l_110, l_111, l_112, l_114, l_115, l_116, l_117, l_119, l_121, l_122, l_136, l_200, l_255, l_300, l_364, l_900, l_1000, l_1456, l_1458, l_1459, l_1460, l_1462, l_1471, l_1504, l_1510, l_1522, l_1550, l_2971, l_9999, l_10000, l_10979, l_65536, l_m1, nI_add, pk_mul, q_sub, q_ltT, q_ltF, q_leT, q_leF, q_eqT, q_eqF, q_inT, q_inF, nI_clamp, q_mlt, q_mle, q_mne, q_mne2, q_mnlt, q_mnle, q_gi, q_gil, q_gir, q_giR, q_gl, q_gli, q_glr, q_glR, q_ra, q_rai, q_ral, q_raR, q_rl, q_rli, q_rll, q_rlr, sa, sA, ia, la, q_srsr, q_sRsR, Option.bind_some, if_true, if_false, reduceIte, ite_not, not_true_eq_false, not_false_eq_true, q_z1, Nat.reduceEqDiff]
      refine ⟨_, _, rfl, rfl, rfl, ?_⟩
      exact base _ _ _ rfl uF uU uT (rl_B_copy (M' := si M1 23 (nI (3 - 1))) (k6 (by omega)) x2 x3 x4 x5 c5 c7) ⟨3 - 1, by omega, rfl, rfl, fun h => bk _ _ 1 (by omega) (k4 (by omega)), fun h => bk _ _ 2 (by omega) (k5 (by omega)), fun h => bk _ _ 3 (by omega) (k6 (by omega))⟩ uV
    omega
