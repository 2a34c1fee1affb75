/-! tokens: both sides go on by one -/
def wsp (c : Nat) : Prop := c = 32 ∨ c = 10
def ltr (c : Nat) : Prop := 97 ≤ c ∧ c ≤ 122
def dgt (c : Nat) : Prop := 48 ≤ c ∧ c ≤ 57
/-- the end of a stretch from p on -/
def stz (P : Nat → Prop) (g : Nat → Nat) (n p a : Nat) : Prop := p ≤ a ∧ a ≤ n ∧ (∀ i, p ≤ i → i < a → P (g i)) ∧ (a < n → ¬ P (g a))
theorem stz_ex (P : Nat → Prop) (g : Nat → Nat) (n : Nat) : ∀ d p, p + d = n → ∃ a, stz P g n p a := by
  intro d
  induction d with
  | zero => intro p h; exact ⟨p, Nat.le_refl _, by omega, fun i h1 h2 => by omega, fun h => by omega⟩
  | succ d ih =>
    intro p h
    rcases Classical.em (P (g p)) with c | c
    · obtain ⟨a, h1, h2, h3, h4⟩ := ih (p + 1) (by omega)
      refine ⟨a, by omega, h2, fun i q1 q2 => ?_, h4⟩
      by_cases e : i = p
      · rw [e]; exact c
      · exact h3 i (by omega) q2
    · exact ⟨p, Nat.le_refl _, by omega, fun i h1 h2 => by omega, fun _ => c⟩
def dva (h : Nat → Nat) : Nat → Nat
  | 0 => 0
  | n + 1 => dva h n * 10 + (h n - 48)
theorem dva_s (h : Nat → Nat) (n : Nat) : dva h (n + 1) = dva h n * 10 + (h n - 48) := rfl
theorem dva_lt {h : Nat → Nat} : ∀ {n : Nat}, (∀ i, i < n → h i ≤ 57) → dva h n < 10 ^ n
  | 0, _ => by show 0 < 10 ^ 0; omega
  | n + 1, hh => by
    have := dva_lt (h := h) (n := n) (fun i hi => hh i (by omega))
    have := hh n (by omega)
    rw [dva_s, Nat.pow_succ]; omega
section Q75
variable {R B M S : ms_T} {g : Nat → Nat}
theorem tx_eT (h : tx B M g) {i c : Nat} (hi : i < 900) (hc : c < 128) (e : g i = c) : (ra B 0 i = nI c) = True := eq_true (by rw [(h i hi).2.2.1 (by omega), e])
theorem tx_eF (h : tx B M g) {i c : Nat} (hi : i < 900) (hc : c < 128) (e : g i ≠ c) : (ra B 0 i = nI c) = False := by
  have b := (h i hi).1
  by_cases d : g i < 128
  · rw [(h i hi).2.2.1 d]; exact q_eqF e (by omega) (by omega)
  · exact q_nge ((h i hi).2.2.2 (by omega)) (by omega)
theorem tx_lT (h : tx B M g) {i c : Nat} (hi : i < 900) (hc : c < 128) (e : g i < c ∨ 128 ≤ g i) : (ra B 0 i < nI c) = True := by
  by_cases d : g i < 128
  · rw [(h i hi).2.2.1 d]; exact q_ltT (by omega) (by omega)
  · exact q_ngl ((h i hi).2.2.2 (by omega)) (by omega)
theorem tx_lF (h : tx B M g) {i c : Nat} (hi : i < 900) (e : c ≤ g i ∧ g i < 128) : (ra B 0 i < nI c) = False := by
  rw [(h i hi).2.2.1 e.2]; exact q_ltF (by omega) (by omega)
theorem tx_gT (h : tx B M g) {i c : Nat} (hi : i < 900) (e : c < g i ∧ g i < 128) : (nI c < ra B 0 i) = True := by
  rw [(h i hi).2.2.1 e.2]; exact q_ltT (by omega) (by omega)
theorem tx_gF (h : tx B M g) {i c : Nat} (hi : i < 900) (hc : c < 128) (e : g i ≤ c) : (nI c < ra B 0 i) = False := by
  rw [(h i hi).2.2.1 (by omega)]; exact q_ltF (by omega) (by omega)
theorem tx_v (h : tx B M g) {i : Nat} (hi : i < 900) (e : g i < 128) : ra B 0 i = nI (g i) := (h i hi).2.2.1 e
theorem C_skip (h : tx B M g) {n a : Nat} (hn : n ≤ 900) (h1 : gi R 1 = nI n) : ∀ d p fuel, p + d = a → stz wsp g n p a → d < fuel → fX4_advanceT_0 B fuel (si R 2 (nI p)) = fX4_advanceT_52 B (si R 2 (nI a)) := by
  intro d
  induction d with
  | zero =>
    intro p fuel hd hz hf
    obtain ⟨f, rfl⟩ : ∃ x, fuel = x + 1 := ⟨fuel - 1, by omega⟩
    obtain rfl : p = a := by omega
    obtain ⟨z1, z2, z3, z4⟩ := hz
    by_cases c : p = n
    · simp (disch := omega) only [fX4_advanceT_0, h1, l_0, l_1, l_2, l_3, l_4, l_5, l_6, l_7, l_8, l_9, l_10, l_11, l_12, l_13, l_14, l_15, l_16, l_17, l_18, l_19, l_20, l_21, l_22, l_23, l_24, l_25, l_30, l_31, l_32, l_40, l_48, l_54, l_57, l_59, l_60, l_61, l_62, l_63, l_65, l_66, l_72, l_82, l_92, l_93, l_94, l_97, l_99, l_100, l_101, l_102, l_103, l_104, l_105, l_107, l_108, l_109, l_110, l_111, l_112, l_114, l_115, l_116, l_117, l_119, l_121, l_122, l_136, l_200, l_255, l_300, l_364, l_900, l_1000, l_1456, l_1458, l_1459, l_1460, l_1462, l_1471, l_1504, l_1510, l_1522, l_1550, l_2971, l_9999, l_10000, l_10979, l_65536, l_m1, nI_add, pk_mul, q_sub, q_ltT, q_ltF, q_leT, q_leF, q_eqT, q_eqF, q_inT, q_inF, nI_clamp, q_mlt, q_mle, q_mne, q_mne2, q_mnlt, q_mnle, q_gi, q_gil, q_gir, q_giR, q_gl, q_gli, q_glr, q_glR, q_ra, q_rai, q_ral, q_raR, q_rl, q_rli, q_rll, q_rlr, sa, sA, ia, la, q_srsr, q_sRsR, Option.bind_some, if_true, if_false, reduceIte, ite_not, not_true_eq_false, not_false_eq_true, q_z1, Nat.reduceEqDiff]
    · have z5 := z4 (by omega)
      unfold wsp at z5
      have e1 := tx_eF h (i := p) (c := 32) (by omega) (by omega) (by omega)
      have e2 := tx_eF h (i := p) (c := 10) (by omega) (by omega) (by omega)
      simp (disch := omega) only [fX4_advanceT_0, h1, e1, e2, l_0, l_1, l_2, l_3, l_4, l_5, l_6, l_7, l_8, l_9, l_10, l_11, l_12, l_13, l_14, l_15, l_16, l_17, l_18, l_19, l_20, l_21, l_22, l_23, l_24, l_25, l_30, l_31, l_32, l_40, l_48, l_54, l_57, l_59, l_60, l_61, l_62, l_63, l_65, l_66, l_72, l_82, l_92, l_93, l_94, l_97, l_99, l_100, l_101, l_102, l_103, l_104, l_105, l_107, l_108, l_109, l_110, l_111, l_112, l_114, l_115, l_116, l_117, l_119, l_121, l_122, l_136, l_200, l_255, l_300, l_364, l_900, l_1000, l_1456, l_1458, l_1459, l_1460, l_1462, l_1471, l_1504, l_1510, l_1522, l_1550, l_2971, l_9999, l_10000, l_10979, l_65536, l_m1, nI_add, pk_mul, q_sub, q_ltT, q_ltF, q_leT, q_leF, q_eqT, q_eqF, q_inT, q_inF, nI_clamp, q_mlt, q_mle, q_mne, q_mne2, q_mnlt, q_mnle, q_gi, q_gil, q_gir, q_giR, q_gl, q_gli, q_glr, q_glR, q_ra, q_rai, q_ral, q_raR, q_rl, q_rli, q_rll, q_rlr, sa, sA, ia, la, q_srsr, q_sRsR, Option.bind_some, if_true, if_false, reduceIte, ite_not, not_true_eq_false, not_false_eq_true, q_z1, Nat.reduceEqDiff]
  | succ d ih =>
    intro p fuel hd hz hf
    obtain ⟨f, rfl⟩ : ∃ x, fuel = x + 1 := ⟨fuel - 1, by omega⟩
    obtain ⟨z1, z2, z3, z4⟩ := hz
    rw [← ih (p + 1) f (by omega) ⟨by omega, z2, fun i q1 q2 => z3 i (by omega) q2, z4⟩ (by omega)]
    rcases z3 p (by omega) (by omega) with c | c
    · have e1 := tx_eT h (i := p) (c := 32) (by omega) (by omega) c
      simp (disch := omega) only [fX4_advanceT_0, h1, e1, q_sisi, l_0, l_1, l_2, l_3, l_4, l_5, l_6, l_7, l_8, l_9, l_10, l_11, l_12, l_13, l_14, l_15, l_16, l_17, l_18, l_19, l_20, l_21, l_22, l_23, l_24, l_25, l_30, l_31, l_32, l_40, l_48, l_54, l_57, l_59, l_60, l_61, l_62, l_63, l_65, l_66, l_72, l_82, l_92, l_93, l_94, l_97, l_99, l_100, l_101, l_102, l_103, l_104, l_105, l_107, l_108, l_109, l_110, l_111, l_112, l_114, l_115, l_116, l_117, l_119, l_121, l_122, l_136, l_200, l_255, l_300, l_364, l_900, l_1000, l_1456, l_1458, l_1459, l_1460, l_1462, l_1471, l_1504, l_1510, l_1522, l_1550, l_2971, l_9999, l_10000, l_10979, l_65536, l_m1, nI_add, pk_mul, q_sub, q_ltT, q_ltF, q_leT, q_leF, q_eqT, q_eqF, q_inT, q_inF, nI_clamp, q_mlt, q_mle, q_mne, q_mne2, q_mnlt, q_mnle, q_gi, q_gil, q_gir, q_giR, q_gl, q_gli, q_glr, q_glR, q_ra, q_rai, q_ral, q_raR, q_rl, q_rli, q_rll, q_rlr, sa, sA, ia, la, q_srsr, q_sRsR, Option.bind_some, if_true, if_false, reduceIte, ite_not, not_true_eq_false, not_false_eq_true, q_z1, Nat.reduceEqDiff]
    · have e1 := tx_eF h (i := p) (c := 32) (by omega) (by omega) (by omega)
      have e2 := tx_eT h (i := p) (c := 10) (by omega) (by omega) c
      simp (disch := omega) only [fX4_advanceT_0, h1, e1, e2, q_sisi, l_0, l_1, l_2, l_3, l_4, l_5, l_6, l_7, l_8, l_9, l_10, l_11, l_12, l_13, l_14, l_15, l_16, l_17, l_18, l_19, l_20, l_21, l_22, l_23, l_24, l_25, l_30, l_31, l_32, l_40, l_48, l_54, l_57, l_59, l_60, l_61, l_62, l_63, l_65, l_66, l_72, l_82, l_92, l_93, l_94, l_97, l_99, l_100, l_101, l_102, l_103, l_104, l_105, l_107, l_108, l_109, l_110, l_111, l_112, l_114, l_115, l_116, l_117, l_119, l_121, l_122, l_136, l_200, l_255, l_300, l_364, l_900, l_1000, l_1456, l_1458, l_1459, l_1460, l_1462, l_1471, l_1504, l_1510, l_1522, l_1550, l_2971, l_9999, l_10000, l_10979, l_65536, l_m1, nI_add, pk_mul, q_sub, q_ltT, q_ltF, q_leT, q_leF, q_eqT, q_eqF, q_inT, q_inF, nI_clamp, q_mlt, q_mle, q_mne, q_mne2, q_mnlt, q_mnle, q_gi, q_gil, q_gir, q_giR, q_gl, q_gli, q_glr, q_glR, q_ra, q_rai, q_ral, q_raR, q_rl, q_rli, q_rll, q_rlr, sa, sA, ia, la, q_srsr, q_sRsR, Option.bind_some, if_true, if_false, reduceIte, ite_not, not_true_eq_false, not_false_eq_true, q_z1, Nat.reduceEqDiff]
theorem sl_sl (S : ms_T) (a : Nat) (x y : Int64) : sl (sl S a x) a y = sl S a y := by
  unfold sl
  refine Prod.ext rfl (Prod.ext ?_ rfl)
  funext b
  show (if b = a then y else if b = a then x else S.2.1 b) = if b = a then y else S.2.1 b
  split <;> rfl
theorem sl_si (S : ms_T) (a k : Nat) (x : Int64) (y : Int32) : sl (si S k y) a x = si (sl S a x) k y := rfl
theorem si_4 (S : ms_T) (a b : Nat) (x y z w : Int32) : si (si (si (si S a x) b y) a z) b w = si (si S a z) b w := by
  unfold si
  refine Prod.ext ?_ rfl
  funext j
  show (if j = b then w else if j = a then z else if j = b then y else if j = a then x else S.1 j) = if j = b then w else if j = a then z else S.1 j
  by_cases c1 : j = b
  · simp only [c1, if_true]
  · by_cases c2 : j = a
    · simp only [c2, if_true]
    · simp only [c1, c2, if_false]
theorem C_let (h : tx B M g) {n a e : Nat} (hn : n ≤ 900) (h1 : gi R 1 = nI n) : ∀ d p fuel, p + d = e → a ≤ p → stz ltr g n p e → d < fuel → fX4_advanceT_75 B fuel (si (sl R 8 (lN (fol (fun i => g (a + i)) (p - a)))) 2 (nI p)) = fX4_advanceT_155 B (si (sl R 8 (lN (fol (fun i => g (a + i)) (e - a)))) 2 (nI e)) := by
  intro d
  induction d with
  | zero =>
    intro p fuel hd ha hz hf
    obtain ⟨f, rfl⟩ : ∃ x, fuel = x + 1 := ⟨fuel - 1, by omega⟩
    obtain rfl : p = e := by omega
    obtain ⟨z1, z2, z3, z4⟩ := hz
    by_cases c : p = n
    · simp (disch := omega) only [fX4_advanceT_75, h1, l_0, l_1, l_2, l_3, l_4, l_5, l_6, l_7, l_8, l_9, l_10, l_11, l_12, l_13, l_14, l_15, l_16, l_17, l_18, l_19, l_20, l_21, l_22, l_23, l_24, l_25, l_30, l_31, l_32, l_40, l_48, l_54, l_57, l_59, l_60, l_61, l_62, l_63, l_65, l_66, l_72, l_82, l_92, l_93, l_94, l_97, l_99, l_100, l_101, l_102, l_103, l_104, l_105, l_107, l_108, l_109, l_110, l_111, l_112, l_114, l_115, l_116, l_117, l_119, l_121, l_122, l_136, l_200, l_255, l_300, l_364, l_900, l_1000, l_1456, l_1458, l_1459, l_1460, l_1462, l_1471, l_1504, l_1510, l_1522, l_1550, l_2971, l_9999, l_10000, l_10979, l_65536, l_m1, nI_add, pk_mul, q_sub, q_ltT, q_ltF, q_leT, q_leF, q_eqT, q_eqF, q_inT, q_inF, nI_clamp, q_mlt, q_mle, q_mne, q_mne2, q_mnlt, q_mnle, q_gi, q_gil, q_gir, q_giR, q_gl, q_gli, q_glr, q_glR, q_ra, q_rai, q_ral, q_raR, q_rl, q_rli, q_rll, q_rlr, sa, sA, ia, la, q_srsr, q_sRsR, Option.bind_some, if_true, if_false, reduceIte, ite_not, not_true_eq_false, not_false_eq_true, q_z1, Nat.reduceEqDiff]
    · have z5 := z4 (by omega)
      unfold ltr at z5
      have b := (h p (by omega)).1
      by_cases c1 : g p < 97 ∨ 128 ≤ g p
      · have e1 := tx_lT h (i := p) (c := 97) (by omega) (by omega) c1
        simp (disch := omega) only [fX4_advanceT_75, h1, e1, l_0, l_1, l_2, l_3, l_4, l_5, l_6, l_7, l_8, l_9, l_10, l_11, l_12, l_13, l_14, l_15, l_16, l_17, l_18, l_19, l_20, l_21, l_22, l_23, l_24, l_25, l_30, l_31, l_32, l_40, l_48, l_54, l_57, l_59, l_60, l_61, l_62, l_63, l_65, l_66, l_72, l_82, l_92, l_93, l_94, l_97, l_99, l_100, l_101, l_102, l_103, l_104, l_105, l_107, l_108, l_109, l_110, l_111, l_112, l_114, l_115, l_116, l_117, l_119, l_121, l_122, l_136, l_200, l_255, l_300, l_364, l_900, l_1000, l_1456, l_1458, l_1459, l_1460, l_1462, l_1471, l_1504, l_1510, l_1522, l_1550, l_2971, l_9999, l_10000, l_10979, l_65536, l_m1, nI_add, pk_mul, q_sub, q_ltT, q_ltF, q_leT, q_leF, q_eqT, q_eqF, q_inT, q_inF, nI_clamp, q_mlt, q_mle, q_mne, q_mne2, q_mnlt, q_mnle, q_gi, q_gil, q_gir, q_giR, q_gl, q_gli, q_glr, q_glR, q_ra, q_rai, q_ral, q_raR, q_rl, q_rli, q_rll, q_rlr, sa, sA, ia, la, q_srsr, q_sRsR, Option.bind_some, if_true, if_false, reduceIte, ite_not, not_true_eq_false, not_false_eq_true, q_z1, Nat.reduceEqDiff]
      · have e1 := tx_lF h (i := p) (c := 97) (by omega) (by omega)
        have e2 := tx_gT h (i := p) (c := 122) (by omega) (by omega)
        simp (disch := omega) only [fX4_advanceT_75, h1, e1, e2, l_0, l_1, l_2, l_3, l_4, l_5, l_6, l_7, l_8, l_9, l_10, l_11, l_12, l_13, l_14, l_15, l_16, l_17, l_18, l_19, l_20, l_21, l_22, l_23, l_24, l_25, l_30, l_31, l_32, l_40, l_48, l_54, l_57, l_59, l_60, l_61, l_62, l_63, l_65, l_66, l_72, l_82, l_92, l_93, l_94, l_97, l_99, l_100, l_101, l_102, l_103, l_104, l_105, l_107, l_108, l_109, l_110, l_111, l_112, l_114, l_115, l_116, l_117, l_119, l_121, l_122, l_136, l_200, l_255, l_300, l_364, l_900, l_1000, l_1456, l_1458, l_1459, l_1460, l_1462, l_1471, l_1504, l_1510, l_1522, l_1550, l_2971, l_9999, l_10000, l_10979, l_65536, l_m1, nI_add, pk_mul, q_sub, q_ltT, q_ltF, q_leT, q_leF, q_eqT, q_eqF, q_inT, q_inF, nI_clamp, q_mlt, q_mle, q_mne, q_mne2, q_mnlt, q_mnle, q_gi, q_gil, q_gir, q_giR, q_gl, q_gli, q_glr, q_glR, q_ra, q_rai, q_ral, q_raR, q_rl, q_rli, q_rll, q_rlr, sa, sA, ia, la, q_srsr, q_sRsR, Option.bind_some, if_true, if_false, reduceIte, ite_not, not_true_eq_false, not_false_eq_true, q_z1, Nat.reduceEqDiff]
  | succ d ih =>
    intro p fuel hd ha hz hf
    obtain ⟨f, rfl⟩ : ∃ x, fuel = x + 1 := ⟨fuel - 1, by omega⟩
    obtain ⟨z1, z2, z3, z4⟩ := hz
    rw [← ih (p + 1) f (by omega) (by omega) ⟨by omega, z2, fun i q1 q2 => z3 i (by omega) q2, z4⟩ (by omega)]
    have zp := z3 p (by omega) (by omega)
    unfold ltr at zp
    have e1 := tx_lF h (i := p) (c := 97) (by omega) (by omega)
    have e2 := tx_gF h (i := p) (c := 122) (by omega) (by omega) (by omega)
    have e3 := tx_v h (i := p) (by omega) (by omega)
    have e4 : (nI (g p) - nI 97 + nI 1).toInt64 = lN (g p - 96) := by
      rw [q_sub (by omega), nI_add, nI_l (by omega)]
      congr 1; omega
    have e5 : lN (fol (fun i => g (a + i)) (p + 1 - a)) = lN (fol (fun i => g (a + i)) (p - a)) * 32 + lN (g p - 96) := by
      rw [show p + 1 - a = (p - a) + 1 by omega, fol_s, ← lN_add, ← lN_mul]
      show _ = lN (fol (fun i => g (a + i)) (p - a)) * lN 32 + lN (g p - 96)
      rw [show a + (p - a) = p by omega]
    rw [e5]
    simp (disch := omega) only [fX4_advanceT_75, h1, e3, e4, sl_si, sl_sl, q_sisi, l_0, l_1, l_2, l_3, l_4, l_5, l_6, l_7, l_8, l_9, l_10, l_11, l_12, l_13, l_14, l_15, l_16, l_17, l_18, l_19, l_20, l_21, l_22, l_23, l_24, l_25, l_30, l_31, l_32, l_40, l_48, l_54, l_57, l_59, l_60, l_61, l_62, l_63, l_65, l_66, l_72, l_82, l_92, l_93, l_94, l_97, l_99, l_100, l_101, l_102, l_103, l_104, l_105, l_107, l_108, l_109, l_110, l_111, l_112, l_114, l_115, l_116, l_117, l_119, l_121, l_122, l_136, l_200, l_255, l_300, l_364, l_900, l_1000, l_1456, l_1458, l_1459, l_1460, l_1462, l_1471, l_1504, l_1510, l_1522, l_1550, l_2971, l_9999, l_10000, l_10979, l_65536, l_m1, nI_add, q_ltF, q_leF, q_inT, nI_clamp, q_gi, q_gil, q_gir, q_giR, q_gl, q_gli, q_glr, q_glR, q_ra, q_rai, q_ral, q_raR, q_rl, q_rli, q_rll, q_rlr, sa, sA, ia, la, q_srsr, q_sRsR, Option.bind_some, if_true, if_false, reduceIte, ite_not, not_true_eq_false, not_false_eq_true, q_z1, Nat.reduceEqDiff]
theorem C_dig (h : tx B M g) {n a e : Nat} (hn : n ≤ 900) (h1 : gi R 1 = nI n) : ∀ d p fuel, p + d = e → a ≤ p → stz dgt g n p e → d < fuel → fX4_advanceT_180 B fuel (si (si R 5 (nI (dva (fun i => g (a + i)) (p - a)))) 2 (nI p)) = fX4_advanceT_256 B (si (si R 5 (nI (dva (fun i => g (a + i)) (e - a)))) 2 (nI e)) := by
  intro d
  induction d with
  | zero =>
    intro p fuel hd ha hz hf
    obtain ⟨f, rfl⟩ : ∃ x, fuel = x + 1 := ⟨fuel - 1, by omega⟩
    obtain rfl : p = e := by omega
    obtain ⟨z1, z2, z3, z4⟩ := hz
    by_cases c : p = n
    · simp (disch := omega) only [fX4_advanceT_180, h1, l_0, l_1, l_2, l_3, l_4, l_5, l_6, l_7, l_8, l_9, l_10, l_11, l_12, l_13, l_14, l_15, l_16, l_17, l_18, l_19, l_20, l_21, l_22, l_23, l_24, l_25, l_30, l_31, l_32, l_40, l_48, l_54, l_57, l_59, l_60, l_61, l_62, l_63, l_65, l_66, l_72, l_82, l_92, l_93, l_94, l_97, l_99, l_100, l_101, l_102, l_103, l_104, l_105, l_107, l_108, l_109, l_110, l_111, l_112, l_114, l_115, l_116, l_117, l_119, l_121, l_122, l_136, l_200, l_255, l_300, l_364, l_900, l_1000, l_1456, l_1458, l_1459, l_1460, l_1462, l_1471, l_1504, l_1510, l_1522, l_1550, l_2971, l_9999, l_10000, l_10979, l_65536, l_m1, nI_add, pk_mul, q_sub, q_ltT, q_ltF, q_leT, q_leF, q_eqT, q_eqF, q_inT, q_inF, nI_clamp, q_mlt, q_mle, q_mne, q_mne2, q_mnlt, q_mnle, q_gi, q_gil, q_gir, q_giR, q_gl, q_gli, q_glr, q_glR, q_ra, q_rai, q_ral, q_raR, q_rl, q_rli, q_rll, q_rlr, sa, sA, ia, la, q_srsr, q_sRsR, Option.bind_some, if_true, if_false, reduceIte, ite_not, not_true_eq_false, not_false_eq_true, q_z1, Nat.reduceEqDiff]
    · have z5 := z4 (by omega)
      unfold dgt at z5
      have b := (h p (by omega)).1
      by_cases c1 : g p < 48 ∨ 128 ≤ g p
      · have e1 := tx_lT h (i := p) (c := 48) (by omega) (by omega) c1
        simp (disch := omega) only [fX4_advanceT_180, h1, e1, l_0, l_1, l_2, l_3, l_4, l_5, l_6, l_7, l_8, l_9, l_10, l_11, l_12, l_13, l_14, l_15, l_16, l_17, l_18, l_19, l_20, l_21, l_22, l_23, l_24, l_25, l_30, l_31, l_32, l_40, l_48, l_54, l_57, l_59, l_60, l_61, l_62, l_63, l_65, l_66, l_72, l_82, l_92, l_93, l_94, l_97, l_99, l_100, l_101, l_102, l_103, l_104, l_105, l_107, l_108, l_109, l_110, l_111, l_112, l_114, l_115, l_116, l_117, l_119, l_121, l_122, l_136, l_200, l_255, l_300, l_364, l_900, l_1000, l_1456, l_1458, l_1459, l_1460, l_1462, l_1471, l_1504, l_1510, l_1522, l_1550, l_2971, l_9999, l_10000, l_10979, l_65536, l_m1, nI_add, pk_mul, q_sub, q_ltT, q_ltF, q_leT, q_leF, q_eqT, q_eqF, q_inT, q_inF, nI_clamp, q_mlt, q_mle, q_mne, q_mne2, q_mnlt, q_mnle, q_gi, q_gil, q_gir, q_giR, q_gl, q_gli, q_glr, q_glR, q_ra, q_rai, q_ral, q_raR, q_rl, q_rli, q_rll, q_rlr, sa, sA, ia, la, q_srsr, q_sRsR, Option.bind_some, if_true, if_false, reduceIte, ite_not, not_true_eq_false, not_false_eq_true, q_z1, Nat.reduceEqDiff]
      · have e1 := tx_lF h (i := p) (c := 48) (by omega) (by omega)
        have e2 := tx_gT h (i := p) (c := 57) (by omega) (by omega)
        simp (disch := omega) only [fX4_advanceT_180, h1, e1, e2, l_0, l_1, l_2, l_3, l_4, l_5, l_6, l_7, l_8, l_9, l_10, l_11, l_12, l_13, l_14, l_15, l_16, l_17, l_18, l_19, l_20, l_21, l_22, l_23, l_24, l_25, l_30, l_31, l_32, l_40, l_48, l_54, l_57, l_59, l_60, l_61, l_62, l_63, l_65, l_66, l_72, l_82, l_92, l_93, l_94, l_97, l_99, l_100, l_101, l_102, l_103, l_104, l_105, l_107, l_108, l_109, l_110, l_111, l_112, l_114, l_115, l_116, l_117, l_119, l_121, l_122, l_136, l_200, l_255, l_300, l_364, l_900, l_1000, l_1456, l_1458, l_1459, l_1460, l_1462, l_1471, l_1504, l_1510, l_1522, l_1550, l_2971, l_9999, l_10000, l_10979, l_65536, l_m1, nI_add, pk_mul, q_sub, q_ltT, q_ltF, q_leT, q_leF, q_eqT, q_eqF, q_inT, q_inF, nI_clamp, q_mlt, q_mle, q_mne, q_mne2, q_mnlt, q_mnle, q_gi, q_gil, q_gir, q_giR, q_gl, q_gli, q_glr, q_glR, q_ra, q_rai, q_ral, q_raR, q_rl, q_rli, q_rll, q_rlr, sa, sA, ia, la, q_srsr, q_sRsR, Option.bind_some, if_true, if_false, reduceIte, ite_not, not_true_eq_false, not_false_eq_true, q_z1, Nat.reduceEqDiff]
  | succ d ih =>
    intro p fuel hd ha hz hf
    obtain ⟨f, rfl⟩ : ∃ x, fuel = x + 1 := ⟨fuel - 1, by omega⟩
    obtain ⟨z1, z2, z3, z4⟩ := hz
    rw [← ih (p + 1) f (by omega) (by omega) ⟨by omega, z2, fun i q1 q2 => z3 i (by omega) q2, z4⟩ (by omega)]
    have zp := z3 p (by omega) (by omega)
    unfold dgt at zp
    have e1 := tx_lF h (i := p) (c := 48) (by omega) (by omega)
    have e2 := tx_gF h (i := p) (c := 57) (by omega) (by omega) (by omega)
    have e3 := tx_v h (i := p) (by omega) (by omega)
    have e4 : nI (dva (fun i => g (a + i)) (p - a)) * nI 10 + (nI (g p) - nI 48) = nI (dva (fun i => g (a + i)) (p + 1 - a)) := by
      rw [q_sub (by omega), pk_mul, nI_add, show p + 1 - a = (p - a) + 1 by omega, dva_s]
      show _ = nI (dva (fun i => g (a + i)) (p - a) * 10 + (g (a + (p - a)) - 48))
      rw [show a + (p - a) = p by omega]
    have sw := si_4 R 5 2 (nI (dva (fun i => g (a + i)) (p - a))) (nI p) (nI (dva (fun i => g (a + i)) (p + 1 - a))) (nI (p + 1))
    rw [← sw]
    simp (disch := omega) only [fX4_advanceT_180, h1, e3, e4, l_0, l_1, l_2, l_3, l_4, l_5, l_6, l_7, l_8, l_9, l_10, l_11, l_12, l_13, l_14, l_15, l_16, l_17, l_18, l_19, l_20, l_21, l_22, l_23, l_24, l_25, l_30, l_31, l_32, l_40, l_48, l_54, l_57, l_59, l_60, l_61, l_62, l_63, l_65, l_66, l_72, l_82, l_92, l_93, l_94, l_97, l_99, l_100, l_101, l_102, l_103, l_104, l_105, l_107, l_108, l_109, l_110, l_111, l_112, l_114, l_115, l_116, l_117, l_119, l_121, l_122, l_136, l_200, l_255, l_300, l_364, l_900, l_1000, l_1456, l_1458, l_1459, l_1460, l_1462, l_1471, l_1504, l_1510, l_1522, l_1550, l_2971, l_9999, l_10000, l_10979, l_65536, l_m1, nI_add, q_ltF, q_leF, q_inT, nI_clamp, q_gi, q_gil, q_gir, q_giR, q_gl, q_gli, q_glr, q_glR, q_ra, q_rai, q_ral, q_raR, q_rl, q_rli, q_rll, q_rlr, sa, sA, ia, la, q_srsr, q_sRsR, Option.bind_some, if_true, if_false, reduceIte, ite_not, not_true_eq_false, not_false_eq_true, q_z1, Nat.reduceEqDiff]
/-! the reference -/
def ggn (n : Nat) (g : Nat → Nat) (p : Nat) : Nat := if p < n then g p else 0
theorem M_look (h : tx B M g) {n p : Nat} (hn : n ≤ 900) (hp : p ≤ 900) (h4 : ra S 4 = ra M 4) (h9 : gi S 9 = nI n) : fX12_look2 S (nI p) = some (nI (ggn n g p)) := by
  unfold ggn
  by_cases c : p < n
  · rw [if_pos c]
    have e := (h p (by omega)).2.1
    simp (disch := omega) only [fX12_look2, h9, h4, e, l_0, l_1, l_2, l_3, l_4, l_5, l_6, l_7, l_8, l_9, l_10, l_11, l_12, l_13, l_14, l_15, l_16, l_17, l_18, l_19, l_20, l_21, l_22, l_23, l_24, l_25, l_30, l_31, l_32, l_40, l_48, l_54, l_57, l_59, l_60, l_61, l_62, l_63, l_65, l_66, l_72, l_82, l_92, l_93, l_94, l_97, l_99, l_100, l_101, l_102, l_103, l_104, l_105, l_107, l_108, l_109, l_110, l_111, l_112, l_114, l_115, l_116, l_117, l_119, l_121, l_122, l_136, l_200, l_255, l_300, l_364, l_900, l_1000, l_1456, l_1458, l_1459, l_1460, l_1462, l_1471, l_1504, l_1510, l_1522, l_1550, l_2971, l_9999, l_10000, l_10979, l_65536, l_m1, nI_add, pk_mul, q_sub, q_ltT, q_ltF, q_leT, q_leF, q_eqT, q_eqF, q_inT, q_inF, nI_clamp, q_mlt, q_mle, q_mne, q_mne2, q_mnlt, q_mnle, q_gi, q_gil, q_gir, q_giR, q_gl, q_gli, q_glr, q_glR, q_ra, q_rai, q_ral, q_raR, q_rl, q_rli, q_rll, q_rlr, sa, sA, ia, la, q_srsr, q_sRsR, Option.bind_some, if_true, if_false, reduceIte, ite_not, not_true_eq_false, not_false_eq_true, q_z1, Nat.reduceEqDiff]
  · rw [if_neg c]
    simp (disch := omega) only [fX12_look2, h9, l_0, l_1, l_2, l_3, l_4, l_5, l_6, l_7, l_8, l_9, l_10, l_11, l_12, l_13, l_14, l_15, l_16, l_17, l_18, l_19, l_20, l_21, l_22, l_23, l_24, l_25, l_30, l_31, l_32, l_40, l_48, l_54, l_57, l_59, l_60, l_61, l_62, l_63, l_65, l_66, l_72, l_82, l_92, l_93, l_94, l_97, l_99, l_100, l_101, l_102, l_103, l_104, l_105, l_107, l_108, l_109, l_110, l_111, l_112, l_114, l_115, l_116, l_117, l_119, l_121, l_122, l_136, l_200, l_255, l_300, l_364, l_900, l_1000, l_1456, l_1458, l_1459, l_1460, l_1462, l_1471, l_1504, l_1510, l_1522, l_1550, l_2971, l_9999, l_10000, l_10979, l_65536, l_m1, nI_add, pk_mul, q_sub, q_ltT, q_ltF, q_leT, q_leF, q_eqT, q_eqF, q_inT, q_inF, nI_clamp, q_mlt, q_mle, q_mne, q_mne2, q_mnlt, q_mnle, Option.bind_some, if_true, if_false, reduceIte, ite_not, not_true_eq_false, not_false_eq_true, q_z1, Nat.reduceEqDiff]
theorem M_letT {c : Nat} (h : ltr c) : fX12_isLetter (nI c) = some (nI 1) := by
  unfold ltr at h
  simp (disch := omega) only [fX12_isLetter, l_0, l_1, l_2, l_3, l_4, l_5, l_6, l_7, l_8, l_9, l_10, l_11, l_12, l_13, l_14, l_15, l_16, l_17, l_18, l_19, l_20, l_21, l_22, l_23, l_24, l_25, l_30, l_31, l_32, l_40, l_48, l_54, l_57, l_59, l_60, l_61, l_62, l_63, l_65, l_66, l_72, l_82, l_92, l_93, l_94, l_97, l_99, l_100, l_101, l_102, l_103, l_104, l_105, l_107, l_108, l_109, l_110, l_111, l_112, l_114, l_115, l_116, l_117, l_119, l_121, l_122, l_136, l_200, l_255, l_300, l_364, l_900, l_1000, l_1456, l_1458, l_1459, l_1460, l_1462, l_1471, l_1504, l_1510, l_1522, l_1550, l_2971, l_9999, l_10000, l_10979, l_65536, l_m1, nI_add, pk_mul, q_sub, q_ltT, q_ltF, q_leT, q_leF, q_eqT, q_eqF, q_inT, q_inF, nI_clamp, q_mlt, q_mle, q_mne, q_mne2, q_mnlt, q_mnle, Option.bind_some, if_true, if_false, reduceIte, ite_not, not_true_eq_false, not_false_eq_true, q_z1, Nat.reduceEqDiff]
theorem M_letF {c : Nat} (hc : c < 256) (h : ¬ ltr c) : fX12_isLetter (nI c) = some (nI 0) := by
  unfold ltr at h
  by_cases d : c < 97
  · simp (disch := omega) only [fX12_isLetter, l_0, l_1, l_2, l_3, l_4, l_5, l_6, l_7, l_8, l_9, l_10, l_11, l_12, l_13, l_14, l_15, l_16, l_17, l_18, l_19, l_20, l_21, l_22, l_23, l_24, l_25, l_30, l_31, l_32, l_40, l_48, l_54, l_57, l_59, l_60, l_61, l_62, l_63, l_65, l_66, l_72, l_82, l_92, l_93, l_94, l_97, l_99, l_100, l_101, l_102, l_103, l_104, l_105, l_107, l_108, l_109, l_110, l_111, l_112, l_114, l_115, l_116, l_117, l_119, l_121, l_122, l_136, l_200, l_255, l_300, l_364, l_900, l_1000, l_1456, l_1458, l_1459, l_1460, l_1462, l_1471, l_1504, l_1510, l_1522, l_1550, l_2971, l_9999, l_10000, l_10979, l_65536, l_m1, nI_add, pk_mul, q_sub, q_ltT, q_ltF, q_leT, q_leF, q_eqT, q_eqF, q_inT, q_inF, nI_clamp, q_mlt, q_mle, q_mne, q_mne2, q_mnlt, q_mnle, Option.bind_some, if_true, if_false, reduceIte, ite_not, not_true_eq_false, not_false_eq_true, q_z1, Nat.reduceEqDiff]
  · simp (disch := omega) only [fX12_isLetter, l_0, l_1, l_2, l_3, l_4, l_5, l_6, l_7, l_8, l_9, l_10, l_11, l_12, l_13, l_14, l_15, l_16, l_17, l_18, l_19, l_20, l_21, l_22, l_23, l_24, l_25, l_30, l_31, l_32, l_40, l_48, l_54, l_57, l_59, l_60, l_61, l_62, l_63, l_65, l_66, l_72, l_82, l_92, l_93, l_94, l_97, l_99, l_100, l_101, l_102, l_103, l_104, l_105, l_107, l_108, l_109, l_110, l_111, l_112, l_114, l_115, l_116, l_117, l_119, l_121, l_122, l_136, l_200, l_255, l_300, l_364, l_900, l_1000, l_1456, l_1458, l_1459, l_1460, l_1462, l_1471, l_1504, l_1510, l_1522, l_1550, l_2971, l_9999, l_10000, l_10979, l_65536, l_m1, nI_add, pk_mul, q_sub, q_ltT, q_ltF, q_leT, q_leF, q_eqT, q_eqF, q_inT, q_inF, nI_clamp, q_mlt, q_mle, q_mne, q_mne2, q_mnlt, q_mnle, Option.bind_some, if_true, if_false, reduceIte, ite_not, not_true_eq_false, not_false_eq_true, q_z1, Nat.reduceEqDiff]
theorem M_digT {c : Nat} (h : dgt c) : fX12_isDigit (nI c) = some (nI 1) := by
  unfold dgt at h
  simp (disch := omega) only [fX12_isDigit, l_0, l_1, l_2, l_3, l_4, l_5, l_6, l_7, l_8, l_9, l_10, l_11, l_12, l_13, l_14, l_15, l_16, l_17, l_18, l_19, l_20, l_21, l_22, l_23, l_24, l_25, l_30, l_31, l_32, l_40, l_48, l_54, l_57, l_59, l_60, l_61, l_62, l_63, l_65, l_66, l_72, l_82, l_92, l_93, l_94, l_97, l_99, l_100, l_101, l_102, l_103, l_104, l_105, l_107, l_108, l_109, l_110, l_111, l_112, l_114, l_115, l_116, l_117, l_119, l_121, l_122, l_136, l_200, l_255, l_300, l_364, l_900, l_1000, l_1456, l_1458, l_1459, l_1460, l_1462, l_1471, l_1504, l_1510, l_1522, l_1550, l_2971, l_9999, l_10000, l_10979, l_65536, l_m1, nI_add, pk_mul, q_sub, q_ltT, q_ltF, q_leT, q_leF, q_eqT, q_eqF, q_inT, q_inF, nI_clamp, q_mlt, q_mle, q_mne, q_mne2, q_mnlt, q_mnle, Option.bind_some, if_true, if_false, reduceIte, ite_not, not_true_eq_false, not_false_eq_true, q_z1, Nat.reduceEqDiff]
theorem M_digF {c : Nat} (hc : c < 256) (h : ¬ dgt c) : fX12_isDigit (nI c) = some (nI 0) := by
  unfold dgt at h
  by_cases d : c < 48
  · simp (disch := omega) only [fX12_isDigit, l_0, l_1, l_2, l_3, l_4, l_5, l_6, l_7, l_8, l_9, l_10, l_11, l_12, l_13, l_14, l_15, l_16, l_17, l_18, l_19, l_20, l_21, l_22, l_23, l_24, l_25, l_30, l_31, l_32, l_40, l_48, l_54, l_57, l_59, l_60, l_61, l_62, l_63, l_65, l_66, l_72, l_82, l_92, l_93, l_94, l_97, l_99, l_100, l_101, l_102, l_103, l_104, l_105, l_107, l_108, l_109, l_110, l_111, l_112, l_114, l_115, l_116, l_117, l_119, l_121, l_122, l_136, l_200, l_255, l_300, l_364, l_900, l_1000, l_1456, l_1458, l_1459, l_1460, l_1462, l_1471, l_1504, l_1510, l_1522, l_1550, l_2971, l_9999, l_10000, l_10979, l_65536, l_m1, nI_add, pk_mul, q_sub, q_ltT, q_ltF, q_leT, q_leF, q_eqT, q_eqF, q_inT, q_inF, nI_clamp, q_mlt, q_mle, q_mne, q_mne2, q_mnlt, q_mnle, Option.bind_some, if_true, if_false, reduceIte, ite_not, not_true_eq_false, not_false_eq_true, q_z1, Nat.reduceEqDiff]
  · simp (disch := omega) only [fX12_isDigit, l_0, l_1, l_2, l_3, l_4, l_5, l_6, l_7, l_8, l_9, l_10, l_11, l_12, l_13, l_14, l_15, l_16, l_17, l_18, l_19, l_20, l_21, l_22, l_23, l_24, l_25, l_30, l_31, l_32, l_40, l_48, l_54, l_57, l_59, l_60, l_61, l_62, l_63, l_65, l_66, l_72, l_82, l_92, l_93, l_94, l_97, l_99, l_100, l_101, l_102, l_103, l_104, l_105, l_107, l_108, l_109, l_110, l_111, l_112, l_114, l_115, l_116, l_117, l_119, l_121, l_122, l_136, l_200, l_255, l_300, l_364, l_900, l_1000, l_1456, l_1458, l_1459, l_1460, l_1462, l_1471, l_1504, l_1510, l_1522, l_1550, l_2971, l_9999, l_10000, l_10979, l_65536, l_m1, nI_add, pk_mul, q_sub, q_ltT, q_ltF, q_leT, q_leF, q_eqT, q_eqF, q_inT, q_inF, nI_clamp, q_mlt, q_mle, q_mne, q_mne2, q_mnlt, q_mnle, Option.bind_some, if_true, if_false, reduceIte, ite_not, not_true_eq_false, not_false_eq_true, q_z1, Nat.reduceEqDiff]
theorem gg_in {n p : Nat} (h : p < n) : ggn n g p = g p := if_pos h
theorem gg_out {n p : Nat} (h : n ≤ p) : ggn n g p = 0 := if_neg (by omega)
theorem R_skip (h : tx B M g) {n a : Nat} (hn : n ≤ 900) (h4 : ra S 4 = ra M 4) (h9 : gi S 9 = nI n) : ∀ d p fuel, p + d = a → stz wsp g n p a → d < fuel → fX12_advance_8 fuel (si S 15 (nI p)) = fX12_advance_58 (si S 15 (nI a)) := by
  intro d
  induction d with
  | zero =>
    intro p fuel hd hz hf
    obtain ⟨f, rfl⟩ : ∃ x, fuel = x + 1 := ⟨fuel - 1, by omega⟩
    obtain rfl : p = a := by omega
    obtain ⟨z1, z2, z3, z4⟩ := hz
    by_cases c : p = n
    · simp (disch := omega) only [fX12_advance_8, h9, l_0, l_1, l_2, l_3, l_4, l_5, l_6, l_7, l_8, l_9, l_10, l_11, l_12, l_13, l_14, l_15, l_16, l_17, l_18, l_19, l_20, l_21, l_22, l_23, l_24, l_25, l_30, l_31, l_32, l_40, l_48, l_54, l_57, l_59, l_60, l_61, l_62, l_63, l_65, l_66, l_72, l_82, l_92, l_93, l_94, l_97, l_99, l_100, l_101, l_102, l_103, l_104, l_105, l_107, l_108, l_109, l_110, l_111, l_112, l_114, l_115, l_116, l_117, l_119, l_121, l_122, l_136, l_200, l_255, l_300, l_364, l_900, l_1000, l_1456, l_1458, l_1459, l_1460, l_1462, l_1471, l_1504, l_1510, l_1522, l_1550, l_2971, l_9999, l_10000, l_10979, l_65536, l_m1, nI_add, pk_mul, q_sub, q_ltT, q_ltF, q_leT, q_leF, q_eqT, q_eqF, q_inT, q_inF, nI_clamp, q_mlt, q_mle, q_mne, q_mne2, q_mnlt, q_mnle, q_gi, q_gil, q_gir, q_giR, q_gl, q_gli, q_glr, q_glR, q_ra, q_rai, q_ral, q_raR, q_rl, q_rli, q_rll, q_rlr, sa, sA, ia, la, q_srsr, q_sRsR, Option.bind_some, if_true, if_false, reduceIte, ite_not, not_true_eq_false, not_false_eq_true, q_z1, Nat.reduceEqDiff]
    · have z5 := z4 (by omega)
      unfold wsp at z5
      have b := (h p (by omega)).1
      have e0 := M_look (S := si S 15 (nI p)) h hn (p := p) (by omega) h4 h9
      rw [gg_in (by omega)] at e0
      simp (disch := omega) only [fX12_advance_8, h9, e0, l_0, l_1, l_2, l_3, l_4, l_5, l_6, l_7, l_8, l_9, l_10, l_11, l_12, l_13, l_14, l_15, l_16, l_17, l_18, l_19, l_20, l_21, l_22, l_23, l_24, l_25, l_30, l_31, l_32, l_40, l_48, l_54, l_57, l_59, l_60, l_61, l_62, l_63, l_65, l_66, l_72, l_82, l_92, l_93, l_94, l_97, l_99, l_100, l_101, l_102, l_103, l_104, l_105, l_107, l_108, l_109, l_110, l_111, l_112, l_114, l_115, l_116, l_117, l_119, l_121, l_122, l_136, l_200, l_255, l_300, l_364, l_900, l_1000, l_1456, l_1458, l_1459, l_1460, l_1462, l_1471, l_1504, l_1510, l_1522, l_1550, l_2971, l_9999, l_10000, l_10979, l_65536, l_m1, nI_add, pk_mul, q_sub, q_ltT, q_ltF, q_leT, q_leF, q_eqT, q_eqF, q_inT, q_inF, nI_clamp, q_mlt, q_mle, q_mne, q_mne2, q_mnlt, q_mnle, q_gi, q_gil, q_gir, q_giR, q_gl, q_gli, q_glr, q_glR, q_ra, q_rai, q_ral, q_raR, q_rl, q_rli, q_rll, q_rlr, sa, sA, ia, la, q_srsr, q_sRsR, Option.bind_some, if_true, if_false, reduceIte, ite_not, not_true_eq_false, not_false_eq_true, q_z1, Nat.reduceEqDiff]
  | succ d ih =>
    intro p fuel hd hz hf
    obtain ⟨f, rfl⟩ : ∃ x, fuel = x + 1 := ⟨fuel - 1, by omega⟩
    obtain ⟨z1, z2, z3, z4⟩ := hz
    rw [← ih (p + 1) f (by omega) ⟨by omega, z2, fun i q1 q2 => z3 i (by omega) q2, z4⟩ (by omega)]
    have e0 := M_look (S := si S 15 (nI p)) h hn (p := p) (by omega) h4 h9
    rw [gg_in (by omega)] at e0
    rcases z3 p (by omega) (by omega) with c | c
    · rw [c] at e0
      simp (disch := omega) only [fX12_advance_8, h9, e0, q_sisi, l_0, l_1, l_2, l_3, l_4, l_5, l_6, l_7, l_8, l_9, l_10, l_11, l_12, l_13, l_14, l_15, l_16, l_17, l_18, l_19, l_20, l_21, l_22, l_23, l_24, l_25, l_30, l_31, l_32, l_40, l_48, l_54, l_57, l_59, l_60, l_61, l_62, l_63, l_65, l_66, l_72, l_82, l_92, l_93, l_94, l_97, l_99, l_100, l_101, l_102, l_103, l_104, l_105, l_107, l_108, l_109, l_110, l_111, l_112, l_114, l_115, l_116, l_117, l_119, l_121, l_122, l_136, l_200, l_255, l_300, l_364, l_900, l_1000, l_1456, l_1458, l_1459, l_1460, l_1462, l_1471, l_1504, l_1510, l_1522, l_1550, l_2971, l_9999, l_10000, l_10979, l_65536, l_m1, nI_add, pk_mul, q_sub, q_ltT, q_ltF, q_leT, q_leF, q_eqT, q_eqF, q_inT, q_inF, nI_clamp, q_mlt, q_mle, q_mne, q_mne2, q_mnlt, q_mnle, q_gi, q_gil, q_gir, q_giR, q_gl, q_gli, q_glr, q_glR, q_ra, q_rai, q_ral, q_raR, q_rl, q_rli, q_rll, q_rlr, sa, sA, ia, la, q_srsr, q_sRsR, Option.bind_some, if_true, if_false, reduceIte, ite_not, not_true_eq_false, not_false_eq_true, q_z1, Nat.reduceEqDiff]
    · rw [c] at e0
      simp (disch := omega) only [fX12_advance_8, h9, e0, q_sisi, l_0, l_1, l_2, l_3, l_4, l_5, l_6, l_7, l_8, l_9, l_10, l_11, l_12, l_13, l_14, l_15, l_16, l_17, l_18, l_19, l_20, l_21, l_22, l_23, l_24, l_25, l_30, l_31, l_32, l_40, l_48, l_54, l_57, l_59, l_60, l_61, l_62, l_63, l_65, l_66, l_72, l_82, l_92, l_93, l_94, l_97, l_99, l_100, l_101, l_102, l_103, l_104, l_105, l_107, l_108, l_109, l_110, l_111, l_112, l_114, l_115, l_116, l_117, l_119, l_121, l_122, l_136, l_200, l_255, l_300, l_364, l_900, l_1000, l_1456, l_1458, l_1459, l_1460, l_1462, l_1471, l_1504, l_1510, l_1522, l_1550, l_2971, l_9999, l_10000, l_10979, l_65536, l_m1, nI_add, pk_mul, q_sub, q_ltT, q_ltF, q_leT, q_leF, q_eqT, q_eqF, q_inT, q_inF, nI_clamp, q_mlt, q_mle, q_mne, q_mne2, q_mnlt, q_mnle, q_gi, q_gil, q_gir, q_giR, q_gl, q_gli, q_glr, q_glR, q_ra, q_rai, q_ral, q_raR, q_rl, q_rli, q_rll, q_rlr, sa, sA, ia, la, q_srsr, q_sRsR, Option.bind_some, if_true, if_false, reduceIte, ite_not, not_true_eq_false, not_false_eq_true, q_z1, Nat.reduceEqDiff]
def lwd (g : Nat → Nat) (a p : Nat) : Int64 := if p - a ≤ 8 then lN (fol (fun i => g (a + i)) (p - a)) else (-1 : Int64)
theorem R_let (h : tx B M g) {n a e : Nat} (hn : n ≤ 900) (h4 : ra S 4 = ra M 4) (h9 : gi S 9 = nI n) (h15 : gi S 15 = nI a) : ∀ d p fuel, p + d = e → a ≤ p → stz ltr g n p e → d < fuel → fX12_advance_109 fuel (si (sl S 19 (lwd g a p)) 16 (nI p)) = some (si (si (sl S 19 (lwd g a e)) 16 (nI e)) 18 (nI (e - a))) := by
  intro d
  induction d with
  | zero =>
    intro p fuel hd ha hz hf
    obtain ⟨f, rfl⟩ : ∃ x, fuel = x + 1 := ⟨fuel - 1, by omega⟩
    obtain rfl : p = e := by omega
    obtain ⟨z1, z2, z3, z4⟩ := hz
    have e0 := M_look (S := si (sl S 19 (lwd g a p)) 16 (nI p)) h hn (p := p) (by omega) h4 h9
    have nl : ¬ ltr (ggn n g p) := by
      by_cases c : p < n
      · rw [gg_in c]; exact z4 c
      · rw [gg_out (by omega)]; unfold ltr; omega
    have bl : ggn n g p < 256 := by
      by_cases c : p < n
      · rw [gg_in c]; exact (h p (by omega)).1
      · rw [gg_out (by omega)]; omega
    have e1 := M_letF bl nl
    have e2 : nI p - nI a = nI (p - a) := q_sub ha
    simp (disch := omega) only [fX12_advance_109, e0, e1, e2, h15, l_0, l_1, l_2, l_3, l_4, l_5, l_6, l_7, l_8, l_9, l_10, l_11, l_12, l_13, l_14, l_15, l_16, l_17, l_18, l_19, l_20, l_21, l_22, l_23, l_24, l_25, l_30, l_31, l_32, l_40, l_48, l_54, l_57, l_59, l_60, l_61, l_62, l_63, l_65, l_66, l_72, l_82, l_92, l_93, l_94, l_97, l_99, l_100, l_101, l_102, l_103, l_104, l_105, l_107, l_108, l_109, l_110, l_111, l_112, l_114, l_115, l_116, l_117, l_119, l_121, l_122, l_136, l_200, l_255, l_300, l_364, l_900, l_1000, l_1456, l_1458, l_1459, l_1460, l_1462, l_1471, l_1504, l_1510, l_1522, l_1550, l_2971, l_9999, l_10000, l_10979, l_65536, l_m1, q_gi, q_gil, q_gir, q_giR, q_gl, q_gli, q_glr, q_glR, q_ra, q_rai, q_ral, q_raR, q_rl, q_rli, q_rll, q_rlr, sa, sA, ia, la, q_srsr, q_sRsR, Option.bind_some, if_true, if_false, reduceIte, ite_not, not_true_eq_false, not_false_eq_true, q_z1, Nat.reduceEqDiff]
  | succ d ih =>
    intro p fuel hd ha hz hf
    obtain ⟨f, rfl⟩ : ∃ x, fuel = x + 1 := ⟨fuel - 1, by omega⟩
    obtain ⟨z1, z2, z3, z4⟩ := hz
    rw [← ih (p + 1) f (by omega) (by omega) ⟨by omega, z2, fun i q1 q2 => z3 i (by omega) q2, z4⟩ (by omega)]
    have e0 := M_look (S := si (sl S 19 (lwd g a p)) 16 (nI p)) h hn (p := p) (by omega) h4 h9
    rw [gg_in (by omega)] at e0
    have zp := z3 p (by omega) (by omega)
    have e1 := M_letT zp
    unfold ltr at zp
    have e2 : nI p - nI a = nI (p - a) := q_sub ha
    have e3 : (nI (g p)).toInt64 = lN (g p) := nI_l (by omega)
    by_cases c : 8 ≤ p - a
    · have e5 : lwd g a (p + 1) = (-1 : Int64) := by unfold lwd; rw [if_neg (by omega)]
      rw [e5]
      simp (disch := omega) only [fX12_advance_109, fX12_advance_166, e0, e1, e2, h15, sl_si, sl_sl, q_sisi, l_0, l_1, l_2, l_3, l_4, l_5, l_6, l_7, l_8, l_9, l_10, l_11, l_12, l_13, l_14, l_15, l_16, l_17, l_18, l_19, l_20, l_21, l_22, l_23, l_24, l_25, l_30, l_31, l_32, l_40, l_48, l_54, l_57, l_59, l_60, l_61, l_62, l_63, l_65, l_66, l_72, l_82, l_92, l_93, l_94, l_97, l_99, l_100, l_101, l_102, l_103, l_104, l_105, l_107, l_108, l_109, l_110, l_111, l_112, l_114, l_115, l_116, l_117, l_119, l_121, l_122, l_136, l_200, l_255, l_300, l_364, l_900, l_1000, l_1456, l_1458, l_1459, l_1460, l_1462, l_1471, l_1504, l_1510, l_1522, l_1550, l_2971, l_9999, l_10000, l_10979, l_65536, l_m1, nI_add, q_leT, q_eqF, q_gi, q_gil, q_gir, q_giR, q_gl, q_gli, q_glr, q_glR, q_ra, q_rai, q_ral, q_raR, q_rl, q_rli, q_rll, q_rlr, sa, sA, ia, la, q_srsr, q_sRsR, Option.bind_some, if_true, if_false, reduceIte, ite_not, not_true_eq_false, not_false_eq_true, q_z1, Nat.reduceEqDiff]
    · have e5 : lwd g a (p + 1) = lwd g a p * 32 + lN (g p) - 96 := by
        unfold lwd
        rw [if_pos (by omega), if_pos (by omega), show p + 1 - a = (p - a) + 1 by omega, fol_s]
        show _ = lN (fol (fun i => g (a + i)) (p - a)) * lN 32 + lN (g p) - lN 96
        rw [lN_mul, lN_add, lN_sub (by omega), show a + (p - a) = p by omega]
        congr 1; omega
      rw [e5]
      simp (disch := omega) only [fX12_advance_109, fX12_advance_166, e0, e1, e2, e3, h15, sl_si, sl_sl, q_sisi, l_0, l_1, l_2, l_3, l_4, l_5, l_6, l_7, l_8, l_9, l_10, l_11, l_12, l_13, l_14, l_15, l_16, l_17, l_18, l_19, l_20, l_21, l_22, l_23, l_24, l_25, l_30, l_31, l_32, l_40, l_48, l_54, l_57, l_59, l_60, l_61, l_62, l_63, l_65, l_66, l_72, l_82, l_92, l_93, l_94, l_97, l_99, l_100, l_101, l_102, l_103, l_104, l_105, l_107, l_108, l_109, l_110, l_111, l_112, l_114, l_115, l_116, l_117, l_119, l_121, l_122, l_136, l_200, l_255, l_300, l_364, l_900, l_1000, l_1456, l_1458, l_1459, l_1460, l_1462, l_1471, l_1504, l_1510, l_1522, l_1550, l_2971, l_9999, l_10000, l_10979, l_65536, l_m1, nI_add, q_leF, q_eqF, q_gi, q_gil, q_gir, q_giR, q_gl, q_gli, q_glr, q_glR, q_ra, q_rai, q_ral, q_raR, q_rl, q_rli, q_rll, q_rlr, sa, sA, ia, la, q_srsr, q_sRsR, Option.bind_some, if_true, if_false, reduceIte, ite_not, not_true_eq_false, not_false_eq_true, q_z1, Nat.reduceEqDiff]
theorem R_dig (h : tx B M g) {n a e : Nat} (hn : n ≤ 900) (h4 : ra S 4 = ra M 4) (h9 : gi S 9 = nI n) (h15 : gi S 15 = nI a) : ∀ d p fuel, p + d = e → a ≤ p → stz dgt g n p e → d < fuel → fX12_advance_210 fuel (si (si S 17 (nI (dva (fun i => g (a + i)) (min (p - a) 4)))) 16 (nI p)) = some (si (si (si S 17 (nI (dva (fun i => g (a + i)) (min (e - a) 4)))) 16 (nI e)) 14 (if e - a ≤ 4 then nI 2 else nI 4)) := by
  intro d
  induction d with
  | zero =>
    intro p fuel hd ha hz hf
    obtain ⟨f, rfl⟩ : ∃ x, fuel = x + 1 := ⟨fuel - 1, by omega⟩
    obtain rfl : p = e := by omega
    obtain ⟨z1, z2, z3, z4⟩ := hz
    have e0 := M_look (S := si (si S 17 (nI (dva (fun i => g (a + i)) (min (p - a) 4)))) 16 (nI p)) h hn (p := p) (by omega) h4 h9
    have nl : ¬ dgt (ggn n g p) := by
      by_cases c : p < n
      · rw [gg_in c]; exact z4 c
      · rw [gg_out (by omega)]; unfold dgt; omega
    have bl : ggn n g p < 256 := by
      by_cases c : p < n
      · rw [gg_in c]; exact (h p (by omega)).1
      · rw [gg_out (by omega)]; omega
    have e1 := M_digF bl nl
    have e2 : nI p - nI a = nI (p - a) := q_sub ha
    by_cases c : p - a ≤ 4
    · rw [if_pos c]
      simp (disch := omega) only [fX12_advance_210, e0, e1, e2, h15, l_0, l_1, l_2, l_3, l_4, l_5, l_6, l_7, l_8, l_9, l_10, l_11, l_12, l_13, l_14, l_15, l_16, l_17, l_18, l_19, l_20, l_21, l_22, l_23, l_24, l_25, l_30, l_31, l_32, l_40, l_48, l_54, l_57, l_59, l_60, l_61, l_62, l_63, l_65, l_66, l_72, l_82, l_92, l_93, l_94, l_97, l_99, l_100, l_101, l_102, l_103, l_104, l_105, l_107, l_108, l_109, l_110, l_111, l_112, l_114, l_115, l_116, l_117, l_119, l_121, l_122, l_136, l_200, l_255, l_300, l_364, l_900, l_1000, l_1456, l_1458, l_1459, l_1460, l_1462, l_1471, l_1504, l_1510, l_1522, l_1550, l_2971, l_9999, l_10000, l_10979, l_65536, l_m1, q_leT, q_gi, q_gil, q_gir, q_giR, q_gl, q_gli, q_glr, q_glR, q_ra, q_rai, q_ral, q_raR, q_rl, q_rli, q_rll, q_rlr, sa, sA, ia, la, q_srsr, q_sRsR, Option.bind_some, if_true, if_false, reduceIte, ite_not, not_true_eq_false, not_false_eq_true, q_z1, Nat.reduceEqDiff]
    · rw [if_neg c]
      simp (disch := omega) only [fX12_advance_210, e0, e1, e2, h15, l_0, l_1, l_2, l_3, l_4, l_5, l_6, l_7, l_8, l_9, l_10, l_11, l_12, l_13, l_14, l_15, l_16, l_17, l_18, l_19, l_20, l_21, l_22, l_23, l_24, l_25, l_30, l_31, l_32, l_40, l_48, l_54, l_57, l_59, l_60, l_61, l_62, l_63, l_65, l_66, l_72, l_82, l_92, l_93, l_94, l_97, l_99, l_100, l_101, l_102, l_103, l_104, l_105, l_107, l_108, l_109, l_110, l_111, l_112, l_114, l_115, l_116, l_117, l_119, l_121, l_122, l_136, l_200, l_255, l_300, l_364, l_900, l_1000, l_1456, l_1458, l_1459, l_1460, l_1462, l_1471, l_1504, l_1510, l_1522, l_1550, l_2971, l_9999, l_10000, l_10979, l_65536, l_m1, q_leF, q_gi, q_gil, q_gir, q_giR, q_gl, q_gli, q_glr, q_glR, q_ra, q_rai, q_ral, q_raR, q_rl, q_rli, q_rll, q_rlr, sa, sA, ia, la, q_srsr, q_sRsR, Option.bind_some, if_true, if_false, reduceIte, ite_not, not_true_eq_false, not_false_eq_true, q_z1, Nat.reduceEqDiff]
  | succ d ih =>
    intro p fuel hd ha hz hf
    obtain ⟨f, rfl⟩ : ∃ x, fuel = x + 1 := ⟨fuel - 1, by omega⟩
    obtain ⟨z1, z2, z3, z4⟩ := hz
    rw [← ih (p + 1) f (by omega) (by omega) ⟨by omega, z2, fun i q1 q2 => z3 i (by omega) q2, z4⟩ (by omega)]
    have e0 := M_look (S := si (si S 17 (nI (dva (fun i => g (a + i)) (min (p - a) 4)))) 16 (nI p)) h hn (p := p) (by omega) h4 h9
    rw [gg_in (by omega)] at e0
    have zp := z3 p (by omega) (by omega)
    have e1 := M_digT zp
    unfold dgt at zp
    have e2 : nI p - nI a = nI (p - a) := q_sub ha
    by_cases c : 4 ≤ p - a
    · rw [show min (p + 1 - a) 4 = min (p - a) 4 by omega]
      simp (disch := omega) only [fX12_advance_210, e0, e1, e2, h15, q_sisi, l_0, l_1, l_2, l_3, l_4, l_5, l_6, l_7, l_8, l_9, l_10, l_11, l_12, l_13, l_14, l_15, l_16, l_17, l_18, l_19, l_20, l_21, l_22, l_23, l_24, l_25, l_30, l_31, l_32, l_40, l_48, l_54, l_57, l_59, l_60, l_61, l_62, l_63, l_65, l_66, l_72, l_82, l_92, l_93, l_94, l_97, l_99, l_100, l_101, l_102, l_103, l_104, l_105, l_107, l_108, l_109, l_110, l_111, l_112, l_114, l_115, l_116, l_117, l_119, l_121, l_122, l_136, l_200, l_255, l_300, l_364, l_900, l_1000, l_1456, l_1458, l_1459, l_1460, l_1462, l_1471, l_1504, l_1510, l_1522, l_1550, l_2971, l_9999, l_10000, l_10979, l_65536, l_m1, nI_add, q_leT, q_eqF, q_gi, q_gil, q_gir, q_giR, q_gl, q_gli, q_glr, q_glR, q_ra, q_rai, q_ral, q_raR, q_rl, q_rli, q_rll, q_rlr, sa, sA, ia, la, q_srsr, q_sRsR, Option.bind_some, if_true, if_false, reduceIte, ite_not, not_true_eq_false, not_false_eq_true, q_z1, Nat.reduceEqDiff]
    · have e4 : nI 10 * nI (dva (fun i => g (a + i)) (min (p - a) 4)) + nI (g p) - nI 48 = nI (dva (fun i => g (a + i)) (min (p + 1 - a) 4)) := by
        rw [pk_mul, nI_add, q_sub (by omega), show min (p + 1 - a) 4 = (p - a) + 1 by omega, show min (p - a) 4 = p - a by omega, dva_s, show a + (p - a) = p by omega]
        congr 1; omega
      have sw := si_4 S 17 16 (nI (dva (fun i => g (a + i)) (min (p - a) 4))) (nI p) (nI (dva (fun i => g (a + i)) (min (p + 1 - a) 4))) (nI (p + 1))
      rw [← sw]
      simp (disch := omega) only [fX12_advance_210, e0, e1, e2, e4, h15, l_0, l_1, l_2, l_3, l_4, l_5, l_6, l_7, l_8, l_9, l_10, l_11, l_12, l_13, l_14, l_15, l_16, l_17, l_18, l_19, l_20, l_21, l_22, l_23, l_24, l_25, l_30, l_31, l_32, l_40, l_48, l_54, l_57, l_59, l_60, l_61, l_62, l_63, l_65, l_66, l_72, l_82, l_92, l_93, l_94, l_97, l_99, l_100, l_101, l_102, l_103, l_104, l_105, l_107, l_108, l_109, l_110, l_111, l_112, l_114, l_115, l_116, l_117, l_119, l_121, l_122, l_136, l_200, l_255, l_300, l_364, l_900, l_1000, l_1456, l_1458, l_1459, l_1460, l_1462, l_1471, l_1504, l_1510, l_1522, l_1550, l_2971, l_9999, l_10000, l_10979, l_65536, l_m1, nI_add, q_leF, q_eqF, q_gi, q_gil, q_gir, q_giR, q_gl, q_gli, q_glr, q_glR, q_ra, q_rai, q_ral, q_raR, q_rl, q_rli, q_rll, q_rlr, sa, sA, ia, la, q_srsr, q_sRsR, Option.bind_some, if_true, if_false, reduceIte, ite_not, not_true_eq_false, not_false_eq_true, q_z1, Nat.reduceEqDiff]
end Q75
