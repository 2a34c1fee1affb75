/-! tokens: what both sides hold of one -/
def tk (R M : ms_T) (n a e k : Nat) : Prop := gi R 1 = nI n ∧ gi M 9 = nI n ∧ gi R 2 = nI e ∧ gi M 16 = nI e ∧ gi R 3 = nI a ∧ gi M 15 = nI a ∧ a ≤ e ∧ e ≤ n ∧ gi R 4 = nI k ∧ gi M 14 = nI k ∧ (k ≠ 0 → a < e) ∧
  ((k = 0 ∧ gi R 7 = nM) ∨
   (k = 1 ∧ gi M 18 = nI (e - a) ∧ (e - a ≤ 8 → gl R 8 = gl M 19 ∧ gl R 8 ≠ 0) ∧ ∃ wn, wn ≤ 26 ∧ gi R 7 = wnI wn ∧ ∀ j, j < 26 → (gl M 19 = lN (cod j) ↔ wn = j)) ∨
   (k = 2 ∧ gi R 7 = nM ∧ ∃ v, v ≤ 9999 ∧ gi R 5 = nI v ∧ gi M 17 = nI v) ∨
   (k = 3 ∧ gi R 7 = nM ∧ ∃ v, 59 ≤ v ∧ v ≤ 62 ∧ gi R 6 = nI v ∧ gi M 17 = nI v) ∨
   (k = 4 ∧ gi R 7 = nM))
def rf (R R' : ms_T) : Prop := (∀ j, j = 1 ∨ 9 ≤ j → gi R' j = gi R j) ∧ R'.2.2 = R.2.2
def mfa (M M' : ms_T) : Prop := (∀ j, j < 14 ∨ 18 < j → gi M' j = gi M j) ∧ (∀ j, j ≠ 19 → gl M' j = gl M j) ∧ M'.2.2 = M.2.2
section Q76
variable {R B M S : ms_T} {g : Nat → Nat}
theorem C_sign (h : tx B M g) {ed n : Nat} (r1 : gi R 1 = nI n) (r2 : gi R 2 = nI ed) (lan : ed < n) (hn : n ≤ 900) : fX4_readSignT R B = some (si (si (si R 6 (ra B 0 ed)) 4 (nI (if 59 ≤ g ed ∧ g ed ≤ 62 then 3 else 4))) 2 (nI (ed + 1))) := by
  have ltT : (nI ed < nI n) = True := q_ltT lan (by omega)
  have inT : inb (nI ed) 900 = true := q_inT (by omega) (by omega)
  unfold fX4_readSignT fX4_readSignT_72
  by_cases s1 : g ed = 59
  · have x1 := tx_eT h (i := ed) (c := 59) (by omega) (by omega) s1
    rw [if_pos (show 59 ≤ g ed ∧ g ed ≤ 62 by omega)]
    simp (disch := omega) only [q_gi, r1, r2, ltT, inT, ia, nI_clamp, x1, nI_add, l_0, l_1, l_2, l_3, l_4, l_5, l_6, l_7, l_8, l_9, l_10, l_11, l_12, l_13, l_14, l_15, l_16, l_17, l_18, l_19, l_20, l_21, l_22, l_23, l_24, l_25, l_30, l_31, l_32, l_40, l_48, l_54, l_57, l_59, l_60, l_61, l_62, l_63, l_65, l_66, l_72, l_82, l_92, l_93, l_94, l_97, l_99, l_100, l_101, l_102, l_103, l_104, l_105, l_107, l_108, l_109, l_110, l_111, l_112, l_114, l_115, l_116, l_117, l_119, l_121, l_122, l_136, l_200, l_255, l_300, l_364, l_900, l_1000, l_1456, l_1458, l_1459, l_1460, l_1462, l_1471, l_1504, l_1510, l_1522, l_1550, l_2971, l_9999, l_10000, l_10979, l_65536, l_m1, reduceIte, Nat.reduceEqDiff, if_true, if_false]
  · have x1 := tx_eF h (i := ed) (c := 59) (by omega) (by omega) s1
    by_cases s2 : g ed = 60
    · have x2 := tx_eT h (i := ed) (c := 60) (by omega) (by omega) s2
      rw [if_pos (show 59 ≤ g ed ∧ g ed ≤ 62 by omega)]
      simp (disch := omega) only [q_gi, r1, r2, ltT, inT, ia, nI_clamp, x1, x2, nI_add, l_0, l_1, l_2, l_3, l_4, l_5, l_6, l_7, l_8, l_9, l_10, l_11, l_12, l_13, l_14, l_15, l_16, l_17, l_18, l_19, l_20, l_21, l_22, l_23, l_24, l_25, l_30, l_31, l_32, l_40, l_48, l_54, l_57, l_59, l_60, l_61, l_62, l_63, l_65, l_66, l_72, l_82, l_92, l_93, l_94, l_97, l_99, l_100, l_101, l_102, l_103, l_104, l_105, l_107, l_108, l_109, l_110, l_111, l_112, l_114, l_115, l_116, l_117, l_119, l_121, l_122, l_136, l_200, l_255, l_300, l_364, l_900, l_1000, l_1456, l_1458, l_1459, l_1460, l_1462, l_1471, l_1504, l_1510, l_1522, l_1550, l_2971, l_9999, l_10000, l_10979, l_65536, l_m1, reduceIte, Nat.reduceEqDiff, if_true, if_false]
    · have x2 := tx_eF h (i := ed) (c := 60) (by omega) (by omega) s2
      by_cases s3 : g ed = 62
      · have x3 := tx_eT h (i := ed) (c := 62) (by omega) (by omega) s3
        rw [if_pos (show 59 ≤ g ed ∧ g ed ≤ 62 by omega)]
        simp (disch := omega) only [q_gi, r1, r2, ltT, inT, ia, nI_clamp, x1, x2, x3, nI_add, l_0, l_1, l_2, l_3, l_4, l_5, l_6, l_7, l_8, l_9, l_10, l_11, l_12, l_13, l_14, l_15, l_16, l_17, l_18, l_19, l_20, l_21, l_22, l_23, l_24, l_25, l_30, l_31, l_32, l_40, l_48, l_54, l_57, l_59, l_60, l_61, l_62, l_63, l_65, l_66, l_72, l_82, l_92, l_93, l_94, l_97, l_99, l_100, l_101, l_102, l_103, l_104, l_105, l_107, l_108, l_109, l_110, l_111, l_112, l_114, l_115, l_116, l_117, l_119, l_121, l_122, l_136, l_200, l_255, l_300, l_364, l_900, l_1000, l_1456, l_1458, l_1459, l_1460, l_1462, l_1471, l_1504, l_1510, l_1522, l_1550, l_2971, l_9999, l_10000, l_10979, l_65536, l_m1, reduceIte, Nat.reduceEqDiff, if_true, if_false]
      · have x3 := tx_eF h (i := ed) (c := 62) (by omega) (by omega) s3
        by_cases s4 : g ed = 61
        · have x4 := tx_eT h (i := ed) (c := 61) (by omega) (by omega) s4
          rw [if_pos (show 59 ≤ g ed ∧ g ed ≤ 62 by omega)]
          simp (disch := omega) only [q_gi, r1, r2, ltT, inT, ia, nI_clamp, x1, x2, x3, x4, nI_add, l_0, l_1, l_2, l_3, l_4, l_5, l_6, l_7, l_8, l_9, l_10, l_11, l_12, l_13, l_14, l_15, l_16, l_17, l_18, l_19, l_20, l_21, l_22, l_23, l_24, l_25, l_30, l_31, l_32, l_40, l_48, l_54, l_57, l_59, l_60, l_61, l_62, l_63, l_65, l_66, l_72, l_82, l_92, l_93, l_94, l_97, l_99, l_100, l_101, l_102, l_103, l_104, l_105, l_107, l_108, l_109, l_110, l_111, l_112, l_114, l_115, l_116, l_117, l_119, l_121, l_122, l_136, l_200, l_255, l_300, l_364, l_900, l_1000, l_1456, l_1458, l_1459, l_1460, l_1462, l_1471, l_1504, l_1510, l_1522, l_1550, l_2971, l_9999, l_10000, l_10979, l_65536, l_m1, reduceIte, Nat.reduceEqDiff, if_true, if_false]
        · have x4 := tx_eF h (i := ed) (c := 61) (by omega) (by omega) s4
          rw [if_neg (show ¬ (59 ≤ g ed ∧ g ed ≤ 62) by omega)]
          simp (disch := omega) only [q_gi, r1, r2, ltT, inT, ia, nI_clamp, x1, x2, x3, x4, nI_add, l_0, l_1, l_2, l_3, l_4, l_5, l_6, l_7, l_8, l_9, l_10, l_11, l_12, l_13, l_14, l_15, l_16, l_17, l_18, l_19, l_20, l_21, l_22, l_23, l_24, l_25, l_30, l_31, l_32, l_40, l_48, l_54, l_57, l_59, l_60, l_61, l_62, l_63, l_65, l_66, l_72, l_82, l_92, l_93, l_94, l_97, l_99, l_100, l_101, l_102, l_103, l_104, l_105, l_107, l_108, l_109, l_110, l_111, l_112, l_114, l_115, l_116, l_117, l_119, l_121, l_122, l_136, l_200, l_255, l_300, l_364, l_900, l_1000, l_1456, l_1458, l_1459, l_1460, l_1462, l_1471, l_1504, l_1510, l_1522, l_1550, l_2971, l_9999, l_10000, l_10979, l_65536, l_m1, reduceIte, Nat.reduceEqDiff, if_true, if_false]
theorem adv (h : tx B M g) {n p : Nat} (hn : n ≤ 900) (hp : p ≤ n) (r1 : gi R 1 = nI n) (m9 : gi M 9 = nI n) (r2 : gi R 2 = nI p) (m16 : gi M 16 = nI p) : ∃ R' M' a e k, fX4_advanceT R B = some R' ∧ fX12_advance M = some M' ∧ tk R' M' n a e k ∧ p ≤ a ∧ rf R R' ∧ mfa M M' := by
  obtain ⟨a, hz⟩ := stz_ex wsp g n (n - p) p (by omega)
  have pa := hz.1
  have an := hz.2.1
  -- the class up to the token's first byte
  have c0 : fX4_advanceT R B = fX4_advanceT_52 B (si R 2 (nI a)) := by
    have := C_skip (R := R) h hn r1 (a - p) p FU (by omega) hz (by unfold FU; omega)
    rw [← r2, ← si_self] at this
    exact this
  have m0 : fX12_advance M = fX12_advance_58 (si M 15 (nI a)) := by
    have := R_skip (S := M) h hn rfl m9 (a - p) p FU (by omega) hz (by unfold FU; omega)
    unfold fX12_advance
    rw [m16]
    exact this
  obtain ⟨el, zl⟩ := stz_ex ltr g n (n - a) a (by omega)
  have c1 : fX4_advanceT R B = fX4_advanceT_155 B (si (sl (si (si (si (si R 2 (nI a)) 3 (nI a)) 5 (nI 0)) 7 nM) 8 (lN (fol (fun i => g (a + i)) (el - a)))) 2 (nI el)) := by
    have := C_let (R := si (si (si (si R 2 (nI a)) 3 (nI a)) 5 (nI 0)) 7 nM) (a := a) h hn r1 (el - a) a FU (by have := zl.1; omega) (by omega) zl (by have := zl.2.1; unfold FU; omega)
    rw [c0, ← this]
    unfold fX4_advanceT_52
    rw [Nat.sub_self]
    congr 1
    refine Eq.trans ?_ (si_self _ 2)
    simp only [l_0, l_1, l_2, l_3, l_4, l_5, l_6, l_7, l_8, l_9, l_10, l_11, l_12, l_13, l_14, l_15, l_16, l_17, l_18, l_19, l_20, l_21, l_22, l_23, l_24, l_25, l_30, l_31, l_32, l_40, l_48, l_54, l_57, l_59, l_60, l_61, l_62, l_63, l_65, l_66, l_72, l_82, l_92, l_93, l_94, l_97, l_99, l_100, l_101, l_102, l_103, l_104, l_105, l_107, l_108, l_109, l_110, l_111, l_112, l_114, l_115, l_116, l_117, l_119, l_121, l_122, l_136, l_200, l_255, l_300, l_364, l_900, l_1000, l_1456, l_1458, l_1459, l_1460, l_1462, l_1471, l_1504, l_1510, l_1522, l_1550, l_2971, l_9999, l_10000, l_10979, l_65536, l_m1, q_gi, q_gil, if_true, reduceIte, Nat.reduceEqDiff]
    rfl
  by_cases hltr : a < el
  · -- a word
    have lets : ∀ i, a ≤ i → i < el → 97 ≤ g i ∧ g i ≤ 122 := fun i q1 q2 => zl.2.2.1 i q1 q2
    have lan : a < n := by have := zl.2.1; omega
    obtain ⟨wn, w1, w2, w3, w4⟩ := W_num (R := si (si (sl (si (si (si (si R 2 (nI a)) 3 (nI a)) 5 (nI 0)) 7 nM) 8 (lN (fol (fun i => g (a + i)) (el - a)))) 2 (nI el)) 4 (nI 1)) (B := B) (g := g) (a := a) (e := el) (by omega) (by have := zl.2.1; omega) (fun i q1 q2 => ⟨tx_v h (by have := zl.2.1; omega) (by have := lets i q1 q2; omega), by have := lets i q1 q2; omega⟩) rfl rfl
    have nle : (nI el ≤ nI a) = False := q_leF hltr (by have := zl.2.1; omega)
    have hc : fX4_advanceT R B = some (si (si (si (sl (si (si (si (si R 2 (nI a)) 3 (nI a)) 5 (nI 0)) 7 nM) 8 (lN (fol (fun i => g (a + i)) (el - a)))) 2 (nI el)) 4 (nI 1)) 7 (wnI wn)) := by
      rw [c1]
      unfold fX4_advanceT_155
      simp only [q_gi, q_gil, nle, w2, l_0, l_1, l_2, l_3, l_4, l_5, l_6, l_7, l_8, l_9, l_10, l_11, l_12, l_13, l_14, l_15, l_16, l_17, l_18, l_19, l_20, l_21, l_22, l_23, l_24, l_25, l_30, l_31, l_32, l_40, l_48, l_54, l_57, l_59, l_60, l_61, l_62, l_63, l_65, l_66, l_72, l_82, l_92, l_93, l_94, l_97, l_99, l_100, l_101, l_102, l_103, l_104, l_105, l_107, l_108, l_109, l_110, l_111, l_112, l_114, l_115, l_116, l_117, l_119, l_121, l_122, l_136, l_200, l_255, l_300, l_364, l_900, l_1000, l_1456, l_1458, l_1459, l_1460, l_1462, l_1471, l_1504, l_1510, l_1522, l_1550, l_2971, l_9999, l_10000, l_10979, l_65536, l_m1, reduceIte, Nat.reduceEqDiff, Option.bind_some, if_false, if_true]
    have hm : fX12_advance M = some (si (si (sl (si (si (si M 15 (nI a)) 16 (nI a)) 14 (nI 1)) 19 (lwd g a el)) 16 (nI el)) 18 (nI (el - a))) := by
      have := R_let (S := si (si (si M 15 (nI a)) 16 (nI a)) 14 (nI 1)) (a := a) h hn rfl m9 rfl (el - a) a FU (by omega) (by omega) zl (by have := zl.2.1; unfold FU; omega)
      rw [m0, ← this]
      have e0 := M_look (S := si (si M 15 (nI a)) 16 (nI a)) h hn (p := a) (by omega) rfl m9
      rw [gg_in lan] at e0
      have e1 := M_letT (c := g a) (lets a (by omega) hltr)
      have e2 : sl (si (si (si M 15 (nI a)) 16 (nI a)) 14 (nI 1)) 19 (0 : Int64) = si (sl (si (si (si M 15 (nI a)) 16 (nI a)) 14 (nI 1)) 19 (lwd g a a)) 16 (nI a) := by
        have e3 : lwd g a a = (0 : Int64) := by unfold lwd; rw [Nat.sub_self, if_pos (by omega)]; rfl
        rw [e3]
        exact si_self (sl (si (si (si M 15 (nI a)) 16 (nI a)) 14 (nI 1)) 19 (0 : Int64)) 16
      have n1 : (nI a < nI n) = True := q_ltT lan (by omega)
      have n2 : (nI 1 = nI 0) = False := q_eqF (by omega) (by omega) (by omega)
      unfold fX12_advance_58
      simp only [q_gi, reduceIte, Nat.reduceEqDiff, m9, n1, e0, e1, n2, l_0, l_1, l_2, l_3, l_4, l_5, l_6, l_7, l_8, l_9, l_10, l_11, l_12, l_13, l_14, l_15, l_16, l_17, l_18, l_19, l_20, l_21, l_22, l_23, l_24, l_25, l_30, l_31, l_32, l_40, l_48, l_54, l_57, l_59, l_60, l_61, l_62, l_63, l_65, l_66, l_72, l_82, l_92, l_93, l_94, l_97, l_99, l_100, l_101, l_102, l_103, l_104, l_105, l_107, l_108, l_109, l_110, l_111, l_112, l_114, l_115, l_116, l_117, l_119, l_121, l_122, l_136, l_200, l_255, l_300, l_364, l_900, l_1000, l_1456, l_1458, l_1459, l_1460, l_1462, l_1471, l_1504, l_1510, l_1522, l_1550, l_2971, l_9999, l_10000, l_10979, l_65536, l_m1, Option.bind_some, if_false, if_true]
      rw [e2]
    refine ⟨_, _, a, el, 1, hc, hm, ⟨r1, m9, rfl, rfl, rfl, rfl, by omega, by have := zl.2.1; omega, rfl, rfl, fun _ => hltr, Or.inr (Or.inl ⟨rfl, rfl, fun h8 => ?_, wn, w1, rfl, fun j hj => ?_⟩)⟩, pa, ⟨fun j hj => ?_, rfl⟩, ⟨fun j hj => ?_, fun j hj => ?_, rfl⟩⟩
    · have e1 : lwd g a el = lN (fol (fun i => g (a + i)) (el - a)) := by unfold lwd; rw [if_pos h8]
      have e2 : fol (fun i => g (a + i)) (el - a) < 2 ^ 40 := by
        have q1 := fol_lt (h := fun i => g (a + i)) (n := el - a) (fun i hi => (lets (a + i) (by omega) (by omega)).2)
        have q2 : 32 ^ (el - a) ≤ 32 ^ 8 := Nat.pow_le_pow_right (by omega) h8
        have q3 : (32 : Nat) ^ 8 = 2 ^ 40 := by decide
        omega
      have e3 : 0 < fol (fun i => g (a + i)) (el - a) := by
        obtain ⟨x, hx⟩ : ∃ x, el - a = x + 1 := ⟨el - a - 1, by omega⟩
        rw [hx, fol_s]
        have := lets (a + x) (by omega) (by omega)
        show 0 < fol (fun i => g (a + i)) x * 32 + (g (a + x) - 96)
        omega
      refine ⟨e1.symm, fun q => ?_⟩
      have q : lN (fol (fun i => g (a + i)) (el - a)) = lN 0 := q
      have := (pk_lEQ (by omega) (by omega)).mp q
      omega
    · show lwd g a el = lN (cod j) ↔ wn = j
      rw [← W_cod lets w3 w4 w1 hj]
      unfold lwd
      have cl := cod_lt j hj
      by_cases h8 : el - a ≤ 8
      · rw [if_pos h8]
        have e2 : fol (fun i => g (a + i)) (el - a) < 2 ^ 40 := by
          have q1 := fol_lt (h := fun i => g (a + i)) (n := el - a) (fun i hi => (lets (a + i) (by omega) (by omega)).2)
          have q2 : 32 ^ (el - a) ≤ 32 ^ 8 := Nat.pow_le_pow_right (by omega) h8
          have q3 : (32 : Nat) ^ 8 = 2 ^ 40 := by decide
          omega
        exact pk_lEQ (by omega) (by omega)
      · rw [if_neg h8]
        constructor
        · intro q
          have q2 := congrArg Int64.toInt q
          rw [pk_lT (by omega)] at q2
          have q3 : (-1 : Int64).toInt = -1 := by decide
          rw [q3] at q2; omega
        · intro q
          have q2 := (mtw_iff (h := fun i => g (a + i)) (len := el - a) (fun i hi => lets (a + i) (by omega) (by omega)) hj).mp q
          have := (w_lt j hj).2.1
          have := q2.1
          omega
    · simp only [q_gi, q_gil]
      repeat rw [if_neg (by omega)]
    · simp only [q_gi, q_gil]
      repeat rw [if_neg (by omega)]
    · simp only [q_gli, q_gl]
      rw [if_neg hj]
  · -- no word
    obtain rfl : el = a := by have := zl.1; omega
    have nlt : ∀ q : el < n, ¬ ltr (g el) := fun q => zl.2.2.2 q
    obtain ⟨ed, zd⟩ := stz_ex dgt g n (n - el) el (by omega)
    have c2 : fX4_advanceT R B = fX4_advanceT_256 B (si (si (si (sl (si (si (si (si R 2 (nI el)) 3 (nI el)) 5 (nI 0)) 7 nM) 8 (lN (fol (fun i => g (el + i)) 0))) 2 (nI el)) 5 (nI (dva (fun i => g (el + i)) (ed - el)))) 2 (nI ed)) := by
      have := C_dig (R := si (sl (si (si (si (si R 2 (nI el)) 3 (nI el)) 5 (nI 0)) 7 nM) 8 (lN (fol (fun i => g (el + i)) 0))) 2 (nI el)) (a := el) h hn r1 (ed - el) el FU (by have := zd.1; omega) (by omega) zd (by have := zd.2.1; unfold FU; omega)
      rw [c1, ← this, Nat.sub_self]
      have le : (nI el ≤ nI el) = True := q_leT (by omega) (by omega)
      unfold fX4_advanceT_155
      simp only [q_gi, q_gil, le, reduceIte, Nat.reduceEqDiff, if_true]
      congr 1
      have s1 := si_self (si (sl (si (si (si (si R 2 (nI el)) 3 (nI el)) 5 (nI 0)) 7 nM) 8 (lN (fol (fun i => g (el + i)) 0))) 2 (nI el)) 5
      refine Eq.trans ?_ (si_self _ 2)
      exact s1
    by_cases hd : el < ed
    · -- a number, or too long a one
      have digs : ∀ i, el ≤ i → i < ed → 48 ≤ g i ∧ g i ≤ 57 := fun i q1 q2 => zd.2.2.1 i q1 q2
      have lan : el < n := by have := zd.2.1; omega
      have edn := zd.2.1
      have hm : fX12_advance M = some (si (si (si (si (si M 15 (nI el)) 16 (nI el)) 17 (nI (dva (fun i => g (el + i)) (min (ed - el) 4)))) 16 (nI ed)) 14 (if ed - el ≤ 4 then nI 2 else nI 4)) := by
        have := R_dig (S := si (si M 15 (nI el)) 16 (nI el)) (a := el) h hn rfl m9 rfl (ed - el) el FU (by omega) (by omega) zd (by unfold FU; omega)
        rw [m0, ← this]
        have e0 := M_look (S := si (si M 15 (nI el)) 16 (nI el)) h hn (p := el) (by omega) rfl m9
        rw [gg_in lan] at e0
        have e1 := M_letF (c := g el) ((h el (by omega)).1) (nlt lan)
        have e1' := M_digT (c := g el) (digs el (by omega) hd)
        have e2 : si (si (si M 15 (nI el)) 16 (nI el)) 17 (nI 0) = si (si (si (si M 15 (nI el)) 16 (nI el)) 17 (nI (dva (fun i => g (el + i)) (min (el - el) 4)))) 16 (nI el) := by
          rw [Nat.sub_self]
          exact si_self (si (si (si M 15 (nI el)) 16 (nI el)) 17 (nI 0)) 16
        have n1 : (nI el < nI n) = True := q_ltT lan (by omega)
        have n2 : (nI 1 = nI 0) = False := q_eqF (by omega) (by omega) (by omega)
        unfold fX12_advance_58
        simp only [q_gi, reduceIte, Nat.reduceEqDiff, m9, n1, e0, e1, e1', n2, l_0, l_1, l_2, l_3, l_4, l_5, l_6, l_7, l_8, l_9, l_10, l_11, l_12, l_13, l_14, l_15, l_16, l_17, l_18, l_19, l_20, l_21, l_22, l_23, l_24, l_25, l_30, l_31, l_32, l_40, l_48, l_54, l_57, l_59, l_60, l_61, l_62, l_63, l_65, l_66, l_72, l_82, l_92, l_93, l_94, l_97, l_99, l_100, l_101, l_102, l_103, l_104, l_105, l_107, l_108, l_109, l_110, l_111, l_112, l_114, l_115, l_116, l_117, l_119, l_121, l_122, l_136, l_200, l_255, l_300, l_364, l_900, l_1000, l_1456, l_1458, l_1459, l_1460, l_1462, l_1471, l_1504, l_1510, l_1522, l_1550, l_2971, l_9999, l_10000, l_10979, l_65536, l_m1, Option.bind_some, if_false, if_true]
        rw [e2]
      have nle : (nI ed ≤ nI el) = False := q_leF hd (by omega)
      have esub : nI ed - nI el = nI (ed - el) := q_sub (by omega)
      by_cases h4 : ed - el ≤ 4
      · rw [if_pos h4, show min (ed - el) 4 = ed - el by omega] at hm
        have n4 : (nI 4 < nI (ed - el)) = False := q_ltF (by omega) (by omega)
        have hc : fX4_advanceT R B = some (si (si (si (si (sl (si (si (si (si R 2 (nI el)) 3 (nI el)) 5 (nI 0)) 7 nM) 8 (lN (fol (fun i => g (el + i)) 0))) 2 (nI el)) 5 (nI (dva (fun i => g (el + i)) (ed - el)))) 2 (nI ed)) 4 (nI 2)) := by
          rw [c2]
          unfold fX4_advanceT_256
          simp only [q_gi, q_gil, nle, esub, n4, l_0, l_1, l_2, l_3, l_4, l_5, l_6, l_7, l_8, l_9, l_10, l_11, l_12, l_13, l_14, l_15, l_16, l_17, l_18, l_19, l_20, l_21, l_22, l_23, l_24, l_25, l_30, l_31, l_32, l_40, l_48, l_54, l_57, l_59, l_60, l_61, l_62, l_63, l_65, l_66, l_72, l_82, l_92, l_93, l_94, l_97, l_99, l_100, l_101, l_102, l_103, l_104, l_105, l_107, l_108, l_109, l_110, l_111, l_112, l_114, l_115, l_116, l_117, l_119, l_121, l_122, l_136, l_200, l_255, l_300, l_364, l_900, l_1000, l_1456, l_1458, l_1459, l_1460, l_1462, l_1471, l_1504, l_1510, l_1522, l_1550, l_2971, l_9999, l_10000, l_10979, l_65536, l_m1, reduceIte, Nat.reduceEqDiff, if_false]
        have dl : dva (fun i => g (el + i)) (ed - el) ≤ 9999 := by
          have q1 := dva_lt (h := fun i => g (el + i)) (n := ed - el) (fun i hi => (digs (el + i) (by omega) (by omega)).2)
          have q2 : 10 ^ (ed - el) ≤ 10 ^ 4 := Nat.pow_le_pow_right (by omega) h4
          have q3 : (10 : Nat) ^ 4 = 10000 := by decide
          omega
        refine ⟨_, _, el, ed, 2, hc, hm, ⟨r1, m9, rfl, rfl, rfl, rfl, by omega, by omega, rfl, rfl, fun _ => hd, Or.inr (Or.inr (Or.inl ⟨rfl, rfl, _, dl, rfl, rfl⟩))⟩, pa, ⟨fun j hj => ?_, rfl⟩, ⟨fun j hj => ?_, fun j hj => rfl, rfl⟩⟩
        · simp only [q_gi, q_gil]
          repeat rw [if_neg (by omega)]
        · simp only [q_gi, q_gil]
          repeat rw [if_neg (by omega)]
      · rw [if_neg h4] at hm
        have n4 : (nI 4 < nI (ed - el)) = True := q_ltT (by omega) (by omega)
        have hc : fX4_advanceT R B = some (si (si (si (si (sl (si (si (si (si R 2 (nI el)) 3 (nI el)) 5 (nI 0)) 7 nM) 8 (lN (fol (fun i => g (el + i)) 0))) 2 (nI el)) 5 (nI (dva (fun i => g (el + i)) (ed - el)))) 2 (nI ed)) 4 (nI 4)) := by
          rw [c2]
          unfold fX4_advanceT_256
          simp only [q_gi, q_gil, nle, esub, n4, l_0, l_1, l_2, l_3, l_4, l_5, l_6, l_7, l_8, l_9, l_10, l_11, l_12, l_13, l_14, l_15, l_16, l_17, l_18, l_19, l_20, l_21, l_22, l_23, l_24, l_25, l_30, l_31, l_32, l_40, l_48, l_54, l_57, l_59, l_60, l_61, l_62, l_63, l_65, l_66, l_72, l_82, l_92, l_93, l_94, l_97, l_99, l_100, l_101, l_102, l_103, l_104, l_105, l_107, l_108, l_109, l_110, l_111, l_112, l_114, l_115, l_116, l_117, l_119, l_121, l_122, l_136, l_200, l_255, l_300, l_364, l_900, l_1000, l_1456, l_1458, l_1459, l_1460, l_1462, l_1471, l_1504, l_1510, l_1522, l_1550, l_2971, l_9999, l_10000, l_10979, l_65536, l_m1, reduceIte, Nat.reduceEqDiff, if_false, if_true]
        refine ⟨_, _, el, ed, 4, hc, hm, ⟨r1, m9, rfl, rfl, rfl, rfl, by omega, by omega, rfl, rfl, fun _ => hd, Or.inr (Or.inr (Or.inr (Or.inr ⟨rfl, rfl⟩)))⟩, pa, ⟨fun j hj => ?_, rfl⟩, ⟨fun j hj => ?_, fun j hj => rfl, rfl⟩⟩
        · simp only [q_gi, q_gil]
          repeat rw [if_neg (by omega)]
        · simp only [q_gi, q_gil]
          repeat rw [if_neg (by omega)]
    · -- a sign, something wrong, or the end
      obtain rfl : ed = el := by have := zd.1; omega
      have ndg : ∀ q : ed < n, ¬ dgt (g ed) := fun q => zd.2.2.2 q
      have le : (nI ed ≤ nI ed) = True := q_leT (by omega) (by omega)
      rw [Nat.sub_self] at c2
      by_cases fin : ed = n
      · have nlt2 : (nI ed < nI n) = False := q_ltF (by omega) (by omega)
        have hc : fX4_advanceT R B = some (si (si (si (si (sl (si (si (si (si R 2 (nI ed)) 3 (nI ed)) 5 (nI 0)) 7 nM) 8 (lN (fol (fun i => g (ed + i)) 0))) 2 (nI ed)) 5 (nI (dva (fun i => g (ed + i)) 0))) 2 (nI ed)) 4 (nI 0)) := by
          rw [c2]
          unfold fX4_advanceT_256 fX4_readSignT
          simp only [q_gi, q_gil, r1, le, nlt2, l_0, l_1, l_2, l_3, l_4, l_5, l_6, l_7, l_8, l_9, l_10, l_11, l_12, l_13, l_14, l_15, l_16, l_17, l_18, l_19, l_20, l_21, l_22, l_23, l_24, l_25, l_30, l_31, l_32, l_40, l_48, l_54, l_57, l_59, l_60, l_61, l_62, l_63, l_65, l_66, l_72, l_82, l_92, l_93, l_94, l_97, l_99, l_100, l_101, l_102, l_103, l_104, l_105, l_107, l_108, l_109, l_110, l_111, l_112, l_114, l_115, l_116, l_117, l_119, l_121, l_122, l_136, l_200, l_255, l_300, l_364, l_900, l_1000, l_1456, l_1458, l_1459, l_1460, l_1462, l_1471, l_1504, l_1510, l_1522, l_1550, l_2971, l_9999, l_10000, l_10979, l_65536, l_m1, reduceIte, Nat.reduceEqDiff, if_false, if_true, Option.bind_some]
        have hm : fX12_advance M = some (si (si (si M 15 (nI ed)) 16 (nI ed)) 14 (nI 0)) := by
          rw [m0]
          unfold fX12_advance_58
          simp only [q_gi, reduceIte, Nat.reduceEqDiff, m9, nlt2, l_0, l_1, l_2, l_3, l_4, l_5, l_6, l_7, l_8, l_9, l_10, l_11, l_12, l_13, l_14, l_15, l_16, l_17, l_18, l_19, l_20, l_21, l_22, l_23, l_24, l_25, l_30, l_31, l_32, l_40, l_48, l_54, l_57, l_59, l_60, l_61, l_62, l_63, l_65, l_66, l_72, l_82, l_92, l_93, l_94, l_97, l_99, l_100, l_101, l_102, l_103, l_104, l_105, l_107, l_108, l_109, l_110, l_111, l_112, l_114, l_115, l_116, l_117, l_119, l_121, l_122, l_136, l_200, l_255, l_300, l_364, l_900, l_1000, l_1456, l_1458, l_1459, l_1460, l_1462, l_1471, l_1504, l_1510, l_1522, l_1550, l_2971, l_9999, l_10000, l_10979, l_65536, l_m1, if_false]
        refine ⟨_, _, ed, ed, 0, hc, hm, ⟨r1, m9, rfl, rfl, rfl, rfl, by omega, by omega, rfl, rfl, fun q => absurd rfl q, Or.inl ⟨rfl, rfl⟩⟩, pa, ⟨fun j hj => ?_, rfl⟩, ⟨fun j hj => ?_, fun j hj => rfl, rfl⟩⟩
        · simp only [q_gi, q_gil]
          repeat rw [if_neg (by omega)]
        · simp only [q_gi, q_gil]
          repeat rw [if_neg (by omega)]
      · have lan : ed < n := by omega
        have bl := (h ed (by omega)).1
        have ltT : (nI ed < nI n) = True := q_ltT lan (by omega)
        have inT : inb (nI ed) 900 = true := q_inT (by omega) (by omega)
        have e0 := M_look (S := si (si M 15 (nI ed)) 16 (nI ed)) h hn (p := ed) (by omega) rfl m9
        rw [gg_in lan] at e0
        have e1 := M_letF (c := g ed) bl (nlt lan)
        have e2 := M_digF (c := g ed) bl (ndg lan)
        have mA : ∀ (v : Int32) (k : Nat), fX12_isSignByte (si (si (si (si M 15 (nI ed)) 16 (nI ed)) 16 (nI (ed + 1))) 17 (nI (g ed))) (nI (g ed)) = some v → ((v = nI 0 ∧ k = 4) ∨ (v = nI 1 ∧ k = 3)) → fX12_advance M = some (si (si (si (si (si M 15 (nI ed)) 16 (nI ed)) 16 (nI (ed + 1))) 17 (nI (g ed))) 14 (nI k)) := by
          intro v k hv hk
          have n2 : (nI 1 = nI 0) = False := q_eqF (by omega) (by omega) (by omega)
          rw [m0]
          unfold fX12_advance_58
          rcases hk with ⟨rfl, rfl⟩ | ⟨rfl, rfl⟩
          · simp only [q_gi, reduceIte, Nat.reduceEqDiff, m9, ltT, e0, e1, e2, hv, nI_add, l_0, l_1, l_2, l_3, l_4, l_5, l_6, l_7, l_8, l_9, l_10, l_11, l_12, l_13, l_14, l_15, l_16, l_17, l_18, l_19, l_20, l_21, l_22, l_23, l_24, l_25, l_30, l_31, l_32, l_40, l_48, l_54, l_57, l_59, l_60, l_61, l_62, l_63, l_65, l_66, l_72, l_82, l_92, l_93, l_94, l_97, l_99, l_100, l_101, l_102, l_103, l_104, l_105, l_107, l_108, l_109, l_110, l_111, l_112, l_114, l_115, l_116, l_117, l_119, l_121, l_122, l_136, l_200, l_255, l_300, l_364, l_900, l_1000, l_1456, l_1458, l_1459, l_1460, l_1462, l_1471, l_1504, l_1510, l_1522, l_1550, l_2971, l_9999, l_10000, l_10979, l_65536, l_m1, Option.bind_some, if_false, if_true]
          · simp only [q_gi, reduceIte, Nat.reduceEqDiff, m9, ltT, e0, e1, e2, hv, n2, nI_add, l_0, l_1, l_2, l_3, l_4, l_5, l_6, l_7, l_8, l_9, l_10, l_11, l_12, l_13, l_14, l_15, l_16, l_17, l_18, l_19, l_20, l_21, l_22, l_23, l_24, l_25, l_30, l_31, l_32, l_40, l_48, l_54, l_57, l_59, l_60, l_61, l_62, l_63, l_65, l_66, l_72, l_82, l_92, l_93, l_94, l_97, l_99, l_100, l_101, l_102, l_103, l_104, l_105, l_107, l_108, l_109, l_110, l_111, l_112, l_114, l_115, l_116, l_117, l_119, l_121, l_122, l_136, l_200, l_255, l_300, l_364, l_900, l_1000, l_1456, l_1458, l_1459, l_1460, l_1462, l_1471, l_1504, l_1510, l_1522, l_1550, l_2971, l_9999, l_10000, l_10979, l_65536, l_m1, Option.bind_some, if_false, if_true]
        have cA : ∀ k, fX4_readSignT (si (si (si (sl (si (si (si (si R 2 (nI ed)) 3 (nI ed)) 5 (nI 0)) 7 nM) 8 (lN (fol (fun i => g (ed + i)) 0))) 2 (nI ed)) 5 (nI (dva (fun i => g (ed + i)) 0))) 2 (nI ed)) B = some (si (si (si (si (si (si (sl (si (si (si (si R 2 (nI ed)) 3 (nI ed)) 5 (nI 0)) 7 nM) 8 (lN (fol (fun i => g (ed + i)) 0))) 2 (nI ed)) 5 (nI (dva (fun i => g (ed + i)) 0))) 2 (nI ed)) 6 (ra B 0 ed)) 4 (nI k)) 2 (nI (ed + 1))) → fX4_advanceT R B = some (si (si (si (si (si (si (sl (si (si (si (si R 2 (nI ed)) 3 (nI ed)) 5 (nI 0)) 7 nM) 8 (lN (fol (fun i => g (ed + i)) 0))) 2 (nI ed)) 5 (nI (dva (fun i => g (ed + i)) 0))) 2 (nI ed)) 6 (ra B 0 ed)) 4 (nI k)) 2 (nI (ed + 1))) := by
          intro k hk
          rw [c2]
          unfold fX4_advanceT_256
          simp only [q_gi, q_gil, le, reduceIte, Nat.reduceEqDiff, if_true, hk, Option.bind_some]
        have fin2 : ∀ k, (k = 3 ∧ 59 ≤ g ed ∧ g ed ≤ 62 ∨ k = 4) → fX4_advanceT R B = some (si (si (si (si (si (si (sl (si (si (si (si R 2 (nI ed)) 3 (nI ed)) 5 (nI 0)) 7 nM) 8 (lN (fol (fun i => g (ed + i)) 0))) 2 (nI ed)) 5 (nI (dva (fun i => g (ed + i)) 0))) 2 (nI ed)) 6 (ra B 0 ed)) 4 (nI k)) 2 (nI (ed + 1))) → fX12_advance M = some (si (si (si (si (si M 15 (nI ed)) 16 (nI ed)) 16 (nI (ed + 1))) 17 (nI (g ed))) 14 (nI k)) → ∃ R' M' a e k, fX4_advanceT R B = some R' ∧ fX12_advance M = some M' ∧ tk R' M' n a e k ∧ p ≤ a ∧ rf R R' ∧ mfa M M' := by
          intro k hk hc hm
          refine ⟨_, _, ed, ed + 1, k, hc, hm, ⟨r1, m9, rfl, rfl, rfl, rfl, by omega, by omega, rfl, rfl, fun _ => by omega, ?_⟩, pa, ⟨fun j hj => ?_, rfl⟩, ⟨fun j hj => ?_, fun j hj => rfl, rfl⟩⟩
          · rcases hk with ⟨rfl, q1, q2⟩ | rfl
            · exact Or.inr (Or.inr (Or.inr (Or.inl ⟨rfl, rfl, g ed, q1, q2, tx_v h (by omega) (by omega), rfl⟩)))
            · exact Or.inr (Or.inr (Or.inr (Or.inr ⟨rfl, rfl⟩)))
          · simp only [q_gi, q_gil]
            repeat rw [if_neg (by omega)]
          · simp only [q_gi, q_gil]
            repeat rw [if_neg (by omega)]
        have hin : fX4_readSignT (si (si (si (sl (si (si (si (si R 2 (nI ed)) 3 (nI ed)) 5 (nI 0)) 7 nM) 8 (lN (fol (fun i => g (ed + i)) 0))) 2 (nI ed)) 5 (nI (dva (fun i => g (ed + i)) 0))) 2 (nI ed)) B = some (si (si (si (si (si (si (sl (si (si (si (si R 2 (nI ed)) 3 (nI ed)) 5 (nI 0)) 7 nM) 8 (lN (fol (fun i => g (ed + i)) 0))) 2 (nI ed)) 5 (nI (dva (fun i => g (ed + i)) 0))) 2 (nI ed)) 6 (ra B 0 ed)) 4 (nI (if 59 ≤ g ed ∧ g ed ≤ 62 then 3 else 4))) 2 (nI (ed + 1))) := by
          exact C_sign h r1 rfl lan hn
        by_cases sg : 59 ≤ g ed ∧ g ed ≤ 62
        · rw [if_pos sg] at hin
          refine fin2 3 (Or.inl ⟨rfl, sg.1, sg.2⟩) (cA 3 hin) (mA (nI 1) 3 ?_ (Or.inr ⟨rfl, rfl⟩))
          rcases (by omega : g ed = 59 ∨ g ed = 60 ∨ g ed = 61 ∨ g ed = 62) with q | q | q | q <;> rw [q] <;> simp (disch := omega) only [fX12_isSignByte, l_0, l_1, l_2, l_3, l_4, l_5, l_6, l_7, l_8, l_9, l_10, l_11, l_12, l_13, l_14, l_15, l_16, l_17, l_18, l_19, l_20, l_21, l_22, l_23, l_24, l_25, l_30, l_31, l_32, l_40, l_48, l_54, l_57, l_59, l_60, l_61, l_62, l_63, l_65, l_66, l_72, l_82, l_92, l_93, l_94, l_97, l_99, l_100, l_101, l_102, l_103, l_104, l_105, l_107, l_108, l_109, l_110, l_111, l_112, l_114, l_115, l_116, l_117, l_119, l_121, l_122, l_136, l_200, l_255, l_300, l_364, l_900, l_1000, l_1456, l_1458, l_1459, l_1460, l_1462, l_1471, l_1504, l_1510, l_1522, l_1550, l_2971, l_9999, l_10000, l_10979, l_65536, l_m1, nI_add, pk_mul, q_sub, q_ltT, q_ltF, q_leT, q_leF, q_eqT, q_eqF, q_inT, q_inF, nI_clamp, q_mlt, q_mle, q_mne, q_mne2, q_mnlt, q_mnle, Option.bind_some, if_true, if_false, reduceIte, ite_not, not_true_eq_false, not_false_eq_true, q_z1, Nat.reduceEqDiff]
        · rw [if_neg sg] at hin
          refine fin2 4 (Or.inr rfl) (cA 4 hin) (mA (nI 0) 4 ?_ (Or.inl ⟨rfl, rfl⟩))
          simp (disch := omega) only [fX12_isSignByte, l_0, l_1, l_2, l_3, l_4, l_5, l_6, l_7, l_8, l_9, l_10, l_11, l_12, l_13, l_14, l_15, l_16, l_17, l_18, l_19, l_20, l_21, l_22, l_23, l_24, l_25, l_30, l_31, l_32, l_40, l_48, l_54, l_57, l_59, l_60, l_61, l_62, l_63, l_65, l_66, l_72, l_82, l_92, l_93, l_94, l_97, l_99, l_100, l_101, l_102, l_103, l_104, l_105, l_107, l_108, l_109, l_110, l_111, l_112, l_114, l_115, l_116, l_117, l_119, l_121, l_122, l_136, l_200, l_255, l_300, l_364, l_900, l_1000, l_1456, l_1458, l_1459, l_1460, l_1462, l_1471, l_1504, l_1510, l_1522, l_1550, l_2971, l_9999, l_10000, l_10979, l_65536, l_m1, nI_add, pk_mul, q_sub, q_ltT, q_ltF, q_leT, q_leF, q_eqT, q_eqF, q_inT, q_inF, nI_clamp, q_mlt, q_mle, q_mne, q_mne2, q_mnlt, q_mnle, Option.bind_some, if_true, if_false, reduceIte, ite_not, not_true_eq_false, not_false_eq_true, q_z1, Nat.reduceEqDiff]
end Q76
