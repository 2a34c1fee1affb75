/-! a table's text, part by part; table -/
section Q86
variable {R B M T : ms_T} {g t : Nat → Nat} {n a e k wn : Nat}
theorem M_isSign (x : Int32) : ∃ z, fX12_isSign M x = some z := by
  unfold fX12_isSign
  split
  · split
    · exact ⟨_, rfl⟩
    · exact ⟨_, rfl⟩
  · exact ⟨_, rfl⟩
theorem b_33 (h : bm M) (f : Nat) : fX12_table_33 (f + 1) M = fX12_table_64 M := by
  obtain ⟨f', f1, f2, f3⟩ := h
  have n0 : (nI f' = nI 0) = False := q_eqF (by omega) (by omega) (by omega)
  simp only [fX12_table_33, l_0, l_1, l_2, l_3, l_4, l_5, l_6, l_7, l_8, l_9, l_10, l_11, l_12, l_13, l_14, l_15, l_16, l_17, l_18, l_19, l_20, l_21, l_22, l_23, l_24, l_25, l_30, l_31, l_32, l_40, l_48, l_54, l_57, l_59, l_60, l_61, l_62, l_63, l_65, l_66, l_72, l_82, l_92, l_93, l_94, l_97, l_99, l_100, l_101, l_102, l_103, l_104, l_105, l_107, l_108, l_109, l_110, l_111, l_112, l_114, l_115, l_116, l_117, l_119, l_121, l_122, l_136, l_200, l_255, l_300, l_364, l_900, l_1000, l_1456, l_1458, l_1459, l_1460, l_1462, l_1471, l_1504, l_1510, l_1522, l_1550, l_2971, l_9999, l_10000, l_10979, l_65536, l_m1, f3, n0, if_false]
/-- how the text goes from here on -/
def to (B R M T : ms_T) (g : Nat → Nat) (n : Nat) (C : Option (Int32 × ms_T × ms_T)) (D : Option (Int32 × ms_T)) : Prop :=
  (∃ R' T' M' t' a' e' wn', C = some (nI 1, R', T') ∧ D = fX12_table_64 M' ∧ rd B R' M' g n a' e' 0 wn' ∧ tt T' R' M' t' ∧ mh M M') ∨
  (∃ R' T' M', C = some (nI 0, R', T') ∧ D = fX12_table_64 M' ∧ bd R' M' ∧ mh M M')
theorem to_step {C : Option (Int32 × ms_T × ms_T)} {D : Option ms_T} {K : ms_T → ms_T → Int32 → Option (Int32 × ms_T × ms_T)} {fu i : Nat} {CC : Option (Int32 × ms_T × ms_T)} {DD : Option (Int32 × ms_T)} (hs : so B R M T t g n a C D) (hC : ∀ z, C = some z → CC = fX8_readTable_160 B K z.2.1 z.2.2 (nI i) z.1) (hD : ∀ z, D = some z → DD = (fX12_isSign z (nI 59)).bind fun z6 => (fX12_must z z6).bind fun z7 => fX12_table_33 (fu + 1) z7)
    (go : ∀ R' T' M' t' a' e' k' wn', rd B R' M' g n a' e' k' wn' → tt T' R' M' t' → a < a' → to B R' M' T' g n (K R' T' (nI (i + 1))) (fX12_table_33 (fu + 1) M')) : to B R M T g n CC DD := by
  rcases hs with ⟨R', T', M', t', a', e', k', wn', h1, h2, h3, h4, h5, h6⟩ | ⟨R', M', h1, h2, h3, h4⟩ | ⟨R', T', M', R'', h1, h2, h3, h4, h5⟩
  · rw [hC _ h1, hD _ h2]
    obtain ⟨z, z1, z2⟩ := rd_semi h3
    rw [z1, Option.bind_some]
    rcases z2 with ⟨R2, M2, a2, e2, k2, wn2, q1, q2, q3, q4, q5, q6, q7⟩ | ⟨R2, M2, q1, q2, q3, q4, q5⟩
    · rw [q2, Option.bind_some]
      have e1 : fX8_readTable_160 B K R' T' (nI i) (nI 1) = K R2 T' (nI (i + 1)) := by
        simp only [fX8_readTable_160, l_0, l_1, l_2, l_3, l_4, l_5, l_6, l_7, l_8, l_9, l_10, l_11, l_12, l_13, l_14, l_15, l_16, l_17, l_18, l_19, l_20, l_21, l_22, l_23, l_24, l_25, l_30, l_31, l_32, l_40, l_48, l_54, l_57, l_59, l_60, l_61, l_62, l_63, l_65, l_66, l_72, l_82, l_92, l_93, l_94, l_97, l_99, l_100, l_101, l_102, l_103, l_104, l_105, l_107, l_108, l_109, l_110, l_111, l_112, l_114, l_115, l_116, l_117, l_119, l_121, l_122, l_136, l_200, l_255, l_300, l_364, l_900, l_1000, l_1456, l_1458, l_1459, l_1460, l_1462, l_1471, l_1504, l_1510, l_1522, l_1550, l_2971, l_9999, l_10000, l_10979, l_65536, l_m1, n_10, q1, nI_add, if_false, Option.bind_some]
      show to B R M T g n (fX8_readTable_160 B K R' T' (nI i) (nI 1)) _
      rw [e1]
      have := go R2 T' M2 t' a2 e2 k2 wn2 q3 (tt_mg h4 q7 q6) (by omega)
      rcases this with ⟨R3, T3, M3, t3, a3, e3, wn3, r1, r2, r3, r4, r5⟩ | ⟨R3, T3, M3, r1, r2, r3, r4⟩
      · exact Or.inl ⟨R3, T3, M3, t3, a3, e3, wn3, r1, r2, r3, r4, mh_tr (mh_tr h5 (mg_mh q7)) r5⟩
      · exact Or.inr ⟨R3, T3, M3, r1, r2, r3, mh_tr (mh_tr h5 (mg_mh q7)) r4⟩
    · rw [q2, Option.bind_some, b_33 (bd_bm q3)]
      refine Or.inr ⟨R2, T', M2, ?_, rfl, q3, mh_tr h5 (mg_mh q5)⟩
      simp only [fX8_readTable_160, l_0, l_1, l_2, l_3, l_4, l_5, l_6, l_7, l_8, l_9, l_10, l_11, l_12, l_13, l_14, l_15, l_16, l_17, l_18, l_19, l_20, l_21, l_22, l_23, l_24, l_25, l_30, l_31, l_32, l_40, l_48, l_54, l_57, l_59, l_60, l_61, l_62, l_63, l_65, l_66, l_72, l_82, l_92, l_93, l_94, l_97, l_99, l_100, l_101, l_102, l_103, l_104, l_105, l_107, l_108, l_109, l_110, l_111, l_112, l_114, l_115, l_116, l_117, l_119, l_121, l_122, l_136, l_200, l_255, l_300, l_364, l_900, l_1000, l_1456, l_1458, l_1459, l_1460, l_1462, l_1471, l_1504, l_1510, l_1522, l_1550, l_2971, l_9999, l_10000, l_10979, l_65536, l_m1, n_10, q1, if_false, if_true, Option.bind_some]
  · obtain ⟨T', h1⟩ := cb_ex h1
    rw [hC _ h1, hD _ h2]
    obtain ⟨z, z1⟩ := M_isSign (M := M') (nI 59)
    rw [z1, Option.bind_some, b_must (bd_bm h3), Option.bind_some, b_33 (bd_bm h3)]
    refine Or.inr ⟨R', T', M', ?_, rfl, h3, h4⟩
    simp only [fX8_readTable_160, l_0, l_1, l_2, l_3, l_4, l_5, l_6, l_7, l_8, l_9, l_10, l_11, l_12, l_13, l_14, l_15, l_16, l_17, l_18, l_19, l_20, l_21, l_22, l_23, l_24, l_25, l_30, l_31, l_32, l_40, l_48, l_54, l_57, l_59, l_60, l_61, l_62, l_63, l_65, l_66, l_72, l_82, l_92, l_93, l_94, l_97, l_99, l_100, l_101, l_102, l_103, l_104, l_105, l_107, l_108, l_109, l_110, l_111, l_112, l_114, l_115, l_116, l_117, l_119, l_121, l_122, l_136, l_200, l_255, l_300, l_364, l_900, l_1000, l_1456, l_1458, l_1459, l_1460, l_1462, l_1471, l_1504, l_1510, l_1522, l_1550, l_2971, l_9999, l_10000, l_10979, l_65536, l_m1, if_true]
  · rw [hC _ h1, hD _ h2]
    obtain ⟨z, z1⟩ := M_isSign (M := M') (nI 59)
    rw [z1, Option.bind_some, b_must (bd_bm h4), Option.bind_some, b_33 (bd_bm h4)]
    refine Or.inr ⟨R'', T', M', ?_, rfl, h4, h5⟩
    simp only [fX8_readTable_160, l_0, l_1, l_2, l_3, l_4, l_5, l_6, l_7, l_8, l_9, l_10, l_11, l_12, l_13, l_14, l_15, l_16, l_17, l_18, l_19, l_20, l_21, l_22, l_23, l_24, l_25, l_30, l_31, l_32, l_40, l_48, l_54, l_57, l_59, l_60, l_61, l_62, l_63, l_65, l_66, l_72, l_82, l_92, l_93, l_94, l_97, l_99, l_100, l_101, l_102, l_103, l_104, l_105, l_107, l_108, l_109, l_110, l_111, l_112, l_114, l_115, l_116, l_117, l_119, l_121, l_122, l_136, l_200, l_255, l_300, l_364, l_900, l_1000, l_1456, l_1458, l_1459, l_1460, l_1462, l_1471, l_1504, l_1510, l_1522, l_1550, l_2971, l_9999, l_10000, l_10979, l_65536, l_m1, n_10, h3, if_false, if_true, Option.bind_some]
theorem table_loop : ∀ d i fu1 fu2 R M T t a e k wn, n ≤ a + d → i ≤ a → d < fu1 → d + 1 < fu2 → rd B R M g n a e k wn → tt T R M t → to B R M T g n (fX8_readTable_24 B fu1 R T (nI i)) (fX12_table_33 fu2 M) := by
  have stop : ∀ i fu1 fu2 R M T t a e wn, i ≤ a → rd B R M g n a e 0 wn → tt T R M t → to B R M T g n (fX8_readTable_24 B (fu1 + 1) R T (nI i)) (fX12_table_33 (fu2 + 1) M) := by
    intro i fu1 fu2 R M T t a e wn hi h ht
    obtain ⟨t1, t2, t3, t4, t5, t6, t7, t8, t9, t10, t11, t12⟩ := h.2.2.1
    have n9 := h.2.1
    have e4 := h.2.2.2.2.2.2.2.1
    have lt9 : (nI 900 < nI i) = False := q_ltF (by omega) (by omega)
    refine Or.inl ⟨R, T, M, t, a, e, wn, ?_, ?_, h, ht, mh_id M⟩
    · rw [fX8_readTable_24]
      simp only [l_0, l_1, l_2, l_3, l_4, l_5, l_6, l_7, l_8, l_9, l_10, l_11, l_12, l_13, l_14, l_15, l_16, l_17, l_18, l_19, l_20, l_21, l_22, l_23, l_24, l_25, l_30, l_31, l_32, l_40, l_48, l_54, l_57, l_59, l_60, l_61, l_62, l_63, l_65, l_66, l_72, l_82, l_92, l_93, l_94, l_97, l_99, l_100, l_101, l_102, l_103, l_104, l_105, l_107, l_108, l_109, l_110, l_111, l_112, l_114, l_115, l_116, l_117, l_119, l_121, l_122, l_136, l_200, l_255, l_300, l_364, l_900, l_1000, l_1456, l_1458, l_1459, l_1460, l_1462, l_1471, l_1504, l_1510, l_1522, l_1550, l_2971, l_9999, l_10000, l_10979, l_65536, l_m1, lt9, t9, if_true, if_false]
    · rw [fX12_table_33]
      simp only [l_0, l_1, l_2, l_3, l_4, l_5, l_6, l_7, l_8, l_9, l_10, l_11, l_12, l_13, l_14, l_15, l_16, l_17, l_18, l_19, l_20, l_21, l_22, l_23, l_24, l_25, l_30, l_31, l_32, l_40, l_48, l_54, l_57, l_59, l_60, l_61, l_62, l_63, l_65, l_66, l_72, l_82, l_92, l_93, l_94, l_97, l_99, l_100, l_101, l_102, l_103, l_104, l_105, l_107, l_108, l_109, l_110, l_111, l_112, l_114, l_115, l_116, l_117, l_119, l_121, l_122, l_136, l_200, l_255, l_300, l_364, l_900, l_1000, l_1456, l_1458, l_1459, l_1460, l_1462, l_1471, l_1504, l_1510, l_1522, l_1550, l_2971, l_9999, l_10000, l_10979, l_65536, l_m1, e4, t10, if_true]
  intro d
  induction d with
  | zero =>
    intro i fu1 fu2 R M T t a e k wn hd hi hf1 hf2 h ht
    obtain ⟨fu1, rfl⟩ : ∃ y, fu1 = y + 1 := ⟨fu1 - 1, by omega⟩
    obtain ⟨fu2, rfl⟩ : ∃ y, fu2 = y + 1 := ⟨fu2 - 1, by omega⟩
    obtain ⟨t1, t2, t3, t4, t5, t6, t7, t8, t9, t10, t11, t12⟩ := h.2.2.1
    have k0 : k = 0 := by
      rcases Nat.eq_zero_or_pos k with q | q
      · exact q
      · have := t11 (by omega); omega
    subst k0
    exact stop i fu1 fu2 R M T t a e wn hi h ht
  | succ d ih =>
    intro i fu1 fu2 R M T t a e k wn hd hi hf1 hf2 h ht
    obtain ⟨fu1, rfl⟩ : ∃ y, fu1 = y + 1 := ⟨fu1 - 1, by omega⟩
    obtain ⟨fu2, rfl⟩ : ∃ y, fu2 = y + 1 + 1 := ⟨fu2 - 2, by omega⟩
    obtain ⟨t1, t2, t3, t4, t5, t6, t7, t8, t9, t10, t11, t12⟩ := h.2.2.1
    have n9 := h.2.1
    have e4 := h.2.2.2.2.2.2.2.1
    have hw := h.2.2.2.1
    have e3 := h.2.2.2.2.1
    have wv' := h.2.2.2.2.2.1
    have lt9 : (nI 900 < nI i) = False := q_ltF (by omega) (by omega)
    by_cases k0 : k = 0
    · subst k0
      exact stop i fu1 (fu2 + 1) R M T t a e wn hi h ht
    · have k4 : k ≤ 4 := by rcases t12 with q | q | q | q | q <;> omega
      have kn : (nI k = nI 0) = False := q_eqF k0 (by omega) (by omega)
      have go : ∀ R' T' M' t' a' e' k' wn', rd B R' M' g n a' e' k' wn' → tt T' R' M' t' → a < a' → to B R' M' T' g n (fX8_readTable_24 B fu1 R' T' (nI (i + 1))) (fX12_table_33 (fu2 + 1) M') := fun R' T' M' t' a' e' k' wn' q1 q2 q3 => ih (i + 1) fu1 (fu2 + 1) R' M' T' t' a' e' k' wn' (by omega) (by omega) (by omega) (by omega) q1 q2
      have x0 := wnI_eq (wn := wn) (j := 0) hw (by omega)
      have x1 := wnI_eq (wn := wn) (j := 1) hw (by omega)
      have x2 := wnI_eq (wn := wn) (j := 2) hw (by omega)
      have x3 := wnI_eq (wn := wn) (j := 3) hw (by omega)
      have x4 := wnI_eq (wn := wn) (j := 4) hw (by omega)
      have x5 := wnI_eq (wn := wn) (j := 5) hw (by omega)
      have x6 := wnI_eq (wn := wn) (j := 6) hw (by omega)
      have x7 := wnI_eq (wn := wn) (j := 7) hw (by omega)
      have x8 := wnI_eq (wn := wn) (j := 8) hw (by omega)
      have x9 := wnI_eq (wn := wn) (j := 9) hw (by omega)
      have x10 := wnI_eq (wn := wn) (j := 10) hw (by omega)
      have x11 := wnI_eq (wn := wn) (j := 11) hw (by omega)
      have x12 := wnI_eq (wn := wn) (j := 12) hw (by omega)
      have u0 := wv' 0 (by omega)
      have u1 := wv' 1 (by omega)
      have u4 := wv' 4 (by omega)
      have u8 := wv' 8 (by omega)
      have u12 := wv' 12 (by omega)
      have bt : ∀ b : Bool, (bi b = nI 0) = (b = false) := fun b => propext (bi_0 b)
      have D0 : fX12_table_33 (fu2 + 1 + 1) M = (fX12_readPart M).bind fun z5 => (fX12_isSign z5 (nI 59)).bind fun z6 => (fX12_must z5 z6).bind fun z7 => fX12_table_33 (fu2 + 1) z7 := by
        rw [fX12_table_33]
        simp only [l_0, l_1, l_2, l_3, l_4, l_5, l_6, l_7, l_8, l_9, l_10, l_11, l_12, l_13, l_14, l_15, l_16, l_17, l_18, l_19, l_20, l_21, l_22, l_23, l_24, l_25, l_30, l_31, l_32, l_40, l_48, l_54, l_57, l_59, l_60, l_61, l_62, l_63, l_65, l_66, l_72, l_82, l_92, l_93, l_94, l_97, l_99, l_100, l_101, l_102, l_103, l_104, l_105, l_107, l_108, l_109, l_110, l_111, l_112, l_114, l_115, l_116, l_117, l_119, l_121, l_122, l_136, l_200, l_255, l_300, l_364, l_900, l_1000, l_1456, l_1458, l_1459, l_1460, l_1462, l_1471, l_1504, l_1510, l_1522, l_1550, l_2971, l_9999, l_10000, l_10979, l_65536, l_m1, e4, t10, kn, if_true, if_false]
      by_cases c0 : wn = 0
      · subst c0
        refine to_step (so_odds h ht (h.2.2.2.2.2.2.1 (by omega))) (K := fX8_readTable_24 B fu1) (i := i) (fu := fu2) (fun z hz => ?_) (fun z hz => ?_) go
        · rw [fX8_readTable_24]
          simp only [l_0, l_1, l_2, l_3, l_4, l_5, l_6, l_7, l_8, l_9, l_10, l_11, l_12, l_13, l_14, l_15, l_16, l_17, l_18, l_19, l_20, l_21, l_22, l_23, l_24, l_25, l_30, l_31, l_32, l_40, l_48, l_54, l_57, l_59, l_60, l_61, l_62, l_63, l_65, l_66, l_72, l_82, l_92, l_93, l_94, l_97, l_99, l_100, l_101, l_102, l_103, l_104, l_105, l_107, l_108, l_109, l_110, l_111, l_112, l_114, l_115, l_116, l_117, l_119, l_121, l_122, l_136, l_200, l_255, l_300, l_364, l_900, l_1000, l_1456, l_1458, l_1459, l_1460, l_1462, l_1471, l_1504, l_1510, l_1522, l_1550, l_2971, l_9999, l_10000, l_10979, l_65536, l_m1, lt9, t9, kn, e3, x0, hz, if_true, if_false, Option.bind_some]
        · rw [D0]
          have : fX12_readPart M = some z := by simp only [fX12_readPart, w_0, u0, l_0, l_1, l_2, l_3, l_4, l_5, l_6, l_7, l_8, l_9, l_10, l_11, l_12, l_13, l_14, l_15, l_16, l_17, l_18, l_19, l_20, l_21, l_22, l_23, l_24, l_25, l_30, l_31, l_32, l_40, l_48, l_54, l_57, l_59, l_60, l_61, l_62, l_63, l_65, l_66, l_72, l_82, l_92, l_93, l_94, l_97, l_99, l_100, l_101, l_102, l_103, l_104, l_105, l_107, l_108, l_109, l_110, l_111, l_112, l_114, l_115, l_116, l_117, l_119, l_121, l_122, l_136, l_200, l_255, l_300, l_364, l_900, l_1000, l_1456, l_1458, l_1459, l_1460, l_1462, l_1471, l_1504, l_1510, l_1522, l_1550, l_2971, l_9999, l_10000, l_10979, l_65536, l_m1, bt, hz, decide_true, Bool.true_eq_false, if_false, Option.bind_some]
          rw [this, Option.bind_some]
      · by_cases c1 : wn = 1
        · subst c1
          refine to_step (so_topic h ht (h.2.2.2.2.2.2.1 (by omega))) (K := fX8_readTable_24 B fu1) (i := i) (fu := fu2) (fun z hz => ?_) (fun z hz => ?_) go
          · rw [fX8_readTable_24]
            simp only [l_0, l_1, l_2, l_3, l_4, l_5, l_6, l_7, l_8, l_9, l_10, l_11, l_12, l_13, l_14, l_15, l_16, l_17, l_18, l_19, l_20, l_21, l_22, l_23, l_24, l_25, l_30, l_31, l_32, l_40, l_48, l_54, l_57, l_59, l_60, l_61, l_62, l_63, l_65, l_66, l_72, l_82, l_92, l_93, l_94, l_97, l_99, l_100, l_101, l_102, l_103, l_104, l_105, l_107, l_108, l_109, l_110, l_111, l_112, l_114, l_115, l_116, l_117, l_119, l_121, l_122, l_136, l_200, l_255, l_300, l_364, l_900, l_1000, l_1456, l_1458, l_1459, l_1460, l_1462, l_1471, l_1504, l_1510, l_1522, l_1550, l_2971, l_9999, l_10000, l_10979, l_65536, l_m1, lt9, t9, kn, e3, x0, x1, Nat.one_ne_zero, hz, if_true, if_false, Option.bind_some]
          · rw [D0]
            have : fX12_readPart M = some z := by simp only [fX12_readPart, w_0, u0, w_1, u1, l_0, l_1, l_2, l_3, l_4, l_5, l_6, l_7, l_8, l_9, l_10, l_11, l_12, l_13, l_14, l_15, l_16, l_17, l_18, l_19, l_20, l_21, l_22, l_23, l_24, l_25, l_30, l_31, l_32, l_40, l_48, l_54, l_57, l_59, l_60, l_61, l_62, l_63, l_65, l_66, l_72, l_82, l_92, l_93, l_94, l_97, l_99, l_100, l_101, l_102, l_103, l_104, l_105, l_107, l_108, l_109, l_110, l_111, l_112, l_114, l_115, l_116, l_117, l_119, l_121, l_122, l_136, l_200, l_255, l_300, l_364, l_900, l_1000, l_1456, l_1458, l_1459, l_1460, l_1462, l_1471, l_1504, l_1510, l_1522, l_1550, l_2971, l_9999, l_10000, l_10979, l_65536, l_m1, bt, hz, decide_true, Nat.one_ne_zero, decide_false, Bool.true_eq_false, if_true, if_false, Option.bind_some]
            rw [this, Option.bind_some]
        · by_cases c4 : wn = 4
          · subst c4
            refine to_step (so_claim h ht (h.2.2.2.2.2.2.1 (by omega))) (K := fX8_readTable_24 B fu1) (i := i) (fu := fu2) (fun z hz => ?_) (fun z hz => ?_) go
            · rw [fX8_readTable_24]
              simp only [l_0, l_1, l_2, l_3, l_4, l_5, l_6, l_7, l_8, l_9, l_10, l_11, l_12, l_13, l_14, l_15, l_16, l_17, l_18, l_19, l_20, l_21, l_22, l_23, l_24, l_25, l_30, l_31, l_32, l_40, l_48, l_54, l_57, l_59, l_60, l_61, l_62, l_63, l_65, l_66, l_72, l_82, l_92, l_93, l_94, l_97, l_99, l_100, l_101, l_102, l_103, l_104, l_105, l_107, l_108, l_109, l_110, l_111, l_112, l_114, l_115, l_116, l_117, l_119, l_121, l_122, l_136, l_200, l_255, l_300, l_364, l_900, l_1000, l_1456, l_1458, l_1459, l_1460, l_1462, l_1471, l_1504, l_1510, l_1522, l_1550, l_2971, l_9999, l_10000, l_10979, l_65536, l_m1, lt9, t9, kn, e3, x0, x1, x2, x3, x4, Nat.reduceEqDiff, hz, if_true, if_false, Option.bind_some]
            · rw [D0]
              have : fX12_readPart M = some z := by simp only [fX12_readPart, w_0, u0, w_1, u1, w_4, u4, l_0, l_1, l_2, l_3, l_4, l_5, l_6, l_7, l_8, l_9, l_10, l_11, l_12, l_13, l_14, l_15, l_16, l_17, l_18, l_19, l_20, l_21, l_22, l_23, l_24, l_25, l_30, l_31, l_32, l_40, l_48, l_54, l_57, l_59, l_60, l_61, l_62, l_63, l_65, l_66, l_72, l_82, l_92, l_93, l_94, l_97, l_99, l_100, l_101, l_102, l_103, l_104, l_105, l_107, l_108, l_109, l_110, l_111, l_112, l_114, l_115, l_116, l_117, l_119, l_121, l_122, l_136, l_200, l_255, l_300, l_364, l_900, l_1000, l_1456, l_1458, l_1459, l_1460, l_1462, l_1471, l_1504, l_1510, l_1522, l_1550, l_2971, l_9999, l_10000, l_10979, l_65536, l_m1, bt, hz, decide_true, Nat.reduceEqDiff, decide_false, Bool.true_eq_false, if_true, if_false, Option.bind_some]
              rw [this, Option.bind_some]
          · by_cases c8 : wn = 8
            · subst c8
              refine to_step (so_talker h ht (h.2.2.2.2.2.2.1 (by omega))) (K := fX8_readTable_24 B fu1) (i := i) (fu := fu2) (fun z hz => ?_) (fun z hz => ?_) go
              · rw [fX8_readTable_24]
                simp only [l_0, l_1, l_2, l_3, l_4, l_5, l_6, l_7, l_8, l_9, l_10, l_11, l_12, l_13, l_14, l_15, l_16, l_17, l_18, l_19, l_20, l_21, l_22, l_23, l_24, l_25, l_30, l_31, l_32, l_40, l_48, l_54, l_57, l_59, l_60, l_61, l_62, l_63, l_65, l_66, l_72, l_82, l_92, l_93, l_94, l_97, l_99, l_100, l_101, l_102, l_103, l_104, l_105, l_107, l_108, l_109, l_110, l_111, l_112, l_114, l_115, l_116, l_117, l_119, l_121, l_122, l_136, l_200, l_255, l_300, l_364, l_900, l_1000, l_1456, l_1458, l_1459, l_1460, l_1462, l_1471, l_1504, l_1510, l_1522, l_1550, l_2971, l_9999, l_10000, l_10979, l_65536, l_m1, lt9, t9, kn, e3, x0, x1, x2, x3, x4, x5, x6, x7, x8, Nat.reduceEqDiff, hz, if_true, if_false, Option.bind_some]
              · rw [D0]
                have : fX12_readPart M = some z := by simp only [fX12_readPart, w_0, u0, w_1, u1, w_4, u4, w_8, u8, l_0, l_1, l_2, l_3, l_4, l_5, l_6, l_7, l_8, l_9, l_10, l_11, l_12, l_13, l_14, l_15, l_16, l_17, l_18, l_19, l_20, l_21, l_22, l_23, l_24, l_25, l_30, l_31, l_32, l_40, l_48, l_54, l_57, l_59, l_60, l_61, l_62, l_63, l_65, l_66, l_72, l_82, l_92, l_93, l_94, l_97, l_99, l_100, l_101, l_102, l_103, l_104, l_105, l_107, l_108, l_109, l_110, l_111, l_112, l_114, l_115, l_116, l_117, l_119, l_121, l_122, l_136, l_200, l_255, l_300, l_364, l_900, l_1000, l_1456, l_1458, l_1459, l_1460, l_1462, l_1471, l_1504, l_1510, l_1522, l_1550, l_2971, l_9999, l_10000, l_10979, l_65536, l_m1, bt, hz, decide_true, Nat.reduceEqDiff, decide_false, Bool.true_eq_false, if_true, if_false, Option.bind_some]
                rw [this, Option.bind_some]
            · by_cases c12 : wn = 12
              · subst c12
                refine to_step (so_feud h ht (h.2.2.2.2.2.2.1 (by omega))) (K := fX8_readTable_24 B fu1) (i := i) (fu := fu2) (fun z hz => ?_) (fun z hz => ?_) go
                · rw [fX8_readTable_24]
                  simp only [l_0, l_1, l_2, l_3, l_4, l_5, l_6, l_7, l_8, l_9, l_10, l_11, l_12, l_13, l_14, l_15, l_16, l_17, l_18, l_19, l_20, l_21, l_22, l_23, l_24, l_25, l_30, l_31, l_32, l_40, l_48, l_54, l_57, l_59, l_60, l_61, l_62, l_63, l_65, l_66, l_72, l_82, l_92, l_93, l_94, l_97, l_99, l_100, l_101, l_102, l_103, l_104, l_105, l_107, l_108, l_109, l_110, l_111, l_112, l_114, l_115, l_116, l_117, l_119, l_121, l_122, l_136, l_200, l_255, l_300, l_364, l_900, l_1000, l_1456, l_1458, l_1459, l_1460, l_1462, l_1471, l_1504, l_1510, l_1522, l_1550, l_2971, l_9999, l_10000, l_10979, l_65536, l_m1, lt9, t9, kn, e3, x0, x1, x2, x3, x4, x5, x6, x7, x8, x9, x10, x11, x12, Nat.reduceEqDiff, hz, if_true, if_false, Option.bind_some]
                · rw [D0]
                  have : fX12_readPart M = some z := by simp only [fX12_readPart, w_0, u0, w_1, u1, w_4, u4, w_8, u8, w_12, u12, l_0, l_1, l_2, l_3, l_4, l_5, l_6, l_7, l_8, l_9, l_10, l_11, l_12, l_13, l_14, l_15, l_16, l_17, l_18, l_19, l_20, l_21, l_22, l_23, l_24, l_25, l_30, l_31, l_32, l_40, l_48, l_54, l_57, l_59, l_60, l_61, l_62, l_63, l_65, l_66, l_72, l_82, l_92, l_93, l_94, l_97, l_99, l_100, l_101, l_102, l_103, l_104, l_105, l_107, l_108, l_109, l_110, l_111, l_112, l_114, l_115, l_116, l_117, l_119, l_121, l_122, l_136, l_200, l_255, l_300, l_364, l_900, l_1000, l_1456, l_1458, l_1459, l_1460, l_1462, l_1471, l_1504, l_1510, l_1522, l_1550, l_2971, l_9999, l_10000, l_10979, l_65536, l_m1, bt, hz, decide_true, Nat.reduceEqDiff, decide_false, Bool.true_eq_false, if_true, if_false, Option.bind_some]
                  rw [this, Option.bind_some]
              · obtain ⟨R', M', q1, q2, q3, q4, q5⟩ := rd_amiss h
                have hb := bd_bm q3
                refine Or.inr ⟨R', T, M', ?_, ?_, q3, mg_mh q5⟩
                · have c153 : fX8_readTable_153 B (fX8_readTable_24 B fu1) R T (nI i) = some (nI 0, R', T) := by
                    simp only [fX8_readTable_153, fX8_readTable_160, l_0, l_1, l_2, l_3, l_4, l_5, l_6, l_7, l_8, l_9, l_10, l_11, l_12, l_13, l_14, l_15, l_16, l_17, l_18, l_19, l_20, l_21, l_22, l_23, l_24, l_25, l_30, l_31, l_32, l_40, l_48, l_54, l_57, l_59, l_60, l_61, l_62, l_63, l_65, l_66, l_72, l_82, l_92, l_93, l_94, l_97, l_99, l_100, l_101, l_102, l_103, l_104, l_105, l_107, l_108, l_109, l_110, l_111, l_112, l_114, l_115, l_116, l_117, l_119, l_121, l_122, l_136, l_200, l_255, l_300, l_364, l_900, l_1000, l_1456, l_1458, l_1459, l_1460, l_1462, l_1471, l_1504, l_1510, l_1522, l_1550, l_2971, l_9999, l_10000, l_10979, l_65536, l_m1, q1, if_true, Option.bind_some]
                  rw [fX8_readTable_24]
                  simp only [l_0, l_1, l_2, l_3, l_4, l_5, l_6, l_7, l_8, l_9, l_10, l_11, l_12, l_13, l_14, l_15, l_16, l_17, l_18, l_19, l_20, l_21, l_22, l_23, l_24, l_25, l_30, l_31, l_32, l_40, l_48, l_54, l_57, l_59, l_60, l_61, l_62, l_63, l_65, l_66, l_72, l_82, l_92, l_93, l_94, l_97, l_99, l_100, l_101, l_102, l_103, l_104, l_105, l_107, l_108, l_109, l_110, l_111, l_112, l_114, l_115, l_116, l_117, l_119, l_121, l_122, l_136, l_200, l_255, l_300, l_364, l_900, l_1000, l_1456, l_1458, l_1459, l_1460, l_1462, l_1471, l_1504, l_1510, l_1522, l_1550, l_2971, l_9999, l_10000, l_10979, l_65536, l_m1, lt9, t9, kn, e3, x0, x1, x4, x8, x12, c0, c1, c4, c8, c12, c153, if_false]
                  simp only [ite_self]
                · rw [D0]
                  have : fX12_readPart M = some M' := by simp only [fX12_readPart, w_0, u0, w_1, u1, w_4, u4, w_8, u8, w_12, u12, l_0, l_1, l_2, l_3, l_4, l_5, l_6, l_7, l_8, l_9, l_10, l_11, l_12, l_13, l_14, l_15, l_16, l_17, l_18, l_19, l_20, l_21, l_22, l_23, l_24, l_25, l_30, l_31, l_32, l_40, l_48, l_54, l_57, l_59, l_60, l_61, l_62, l_63, l_65, l_66, l_72, l_82, l_92, l_93, l_94, l_97, l_99, l_100, l_101, l_102, l_103, l_104, l_105, l_107, l_108, l_109, l_110, l_111, l_112, l_114, l_115, l_116, l_117, l_119, l_121, l_122, l_136, l_200, l_255, l_300, l_364, l_900, l_1000, l_1456, l_1458, l_1459, l_1460, l_1462, l_1471, l_1504, l_1510, l_1522, l_1550, l_2971, l_9999, l_10000, l_10979, l_65536, l_m1, bt, q2, decide_eq_false c0, decide_eq_false c1, decide_eq_false c4, decide_eq_false c8, decide_eq_false c12, if_true, Option.bind_some]
                  obtain ⟨z, z1⟩ := M_isSign (M := M') (nI 59)
                  rw [this, Option.bind_some, z1, Option.bind_some, b_must hb, Option.bind_some, b_33 hb]
end Q86
