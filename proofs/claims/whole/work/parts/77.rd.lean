/-! tests of tokens, on both sides -/
theorem lg0 (a b : Int64) : (lg_cmp a b = 0) ↔ a = b := by
  unfold lg_cmp
  by_cases c : a > b
  · rw [if_pos c]
    constructor
    · intro h; exact absurd h (by decide)
    · intro h
      have := Int64.lt_iff_toInt_lt.mp c
      rw [h] at this; omega
  · rw [if_neg c]
    by_cases d : a = b
    · rw [if_pos d]
      exact ⟨fun _ => d, fun _ => rfl⟩
    · rw [if_neg d]
      exact ⟨fun h => absurd h (by decide), fun h => absurd h d⟩
def wb (M : ms_T) (j : Nat) : Bool := decide (gi M 14 = nI 1 ∧ gl M 19 = lN (cod j))
section Q77a
variable {M : ms_T}
theorem M_isWord (j : Nat) : fX12_isWord M (lN (cod j)) = some (bi (wb M j)) := by
  unfold fX12_isWord wb
  by_cases c1 : gi M 14 = nI 1
  · have c1' : gi M 14 = (1 : Int32) := c1
    rw [if_pos c1']
    by_cases c2 : gl M 19 = lN (cod j)
    · rw [if_pos ((lg0 _ _).mpr c2), decide_eq_true ⟨c1, c2⟩]; rfl
    · rw [if_neg (fun h => c2 ((lg0 _ _).mp h)), decide_eq_false (fun h => c2 h.2)]; rfl
  · have c1' : ¬ gi M 14 = (1 : Int32) := c1
    rw [if_neg c1', decide_eq_false (fun h => c1 h.1)]; rfl
theorem bi_and1 (b : Bool) : (bi b &&& 1 = bi b) = True := eq_true (by cases b <;> decide)
theorem sp_0 : fX12_spelled (111 : Int32) (100 : Int32) (100 : Int32) (115 : Int32) (0 : Int32) (0 : Int32) = some (lN (cod 0)) := by decide +kernel
theorem sp_1 : fX12_spelled (116 : Int32) (111 : Int32) (112 : Int32) (105 : Int32) (99 : Int32) (0 : Int32) = some (lN (cod 1)) := by decide +kernel
theorem sp_2 : fX12_spelled (119 : Int32) (111 : Int32) (114 : Int32) (116 : Int32) (104 : Int32) (0 : Int32) = some (lN (cod 2)) := by decide +kernel
theorem sp_3 : fX12_spelled (100 : Int32) (114 : Int32) (105 : Int32) (102 : Int32) (116 : Int32) (0 : Int32) = some (lN (cod 3)) := by decide +kernel
theorem sp_4 : fX12_spelled (99 : Int32) (108 : Int32) (97 : Int32) (105 : Int32) (109 : Int32) (0 : Int32) = some (lN (cod 4)) := by decide +kernel
theorem sp_5 : fX12_spelled (97 : Int32) (116 : Int32) (0 : Int32) (0 : Int32) (0 : Int32) (0 : Int32) = some (lN (cod 5)) := by decide +kernel
theorem sp_7 : fX12_spelled (110 : Int32) (101 : Int32) (101 : Int32) (100 : Int32) (115 : Int32) (0 : Int32) = some (lN (cod 7)) := by decide +kernel
theorem sp_8 : fX12_spelled (116 : Int32) (97 : Int32) (108 : Int32) (107 : Int32) (101 : Int32) (114 : Int32) = some (lN (cod 8)) := by decide +kernel
theorem sp_9 : fX12_spelled (115 : Int32) (101 : Int32) (97 : Int32) (116 : Int32) (0 : Int32) (0 : Int32) = some (lN (cod 9)) := by decide +kernel
theorem sp_10 : fX12_spelled (111 : Int32) (110 : Int32) (0 : Int32) (0 : Int32) (0 : Int32) (0 : Int32) = some (lN (cod 10)) := by decide +kernel
theorem sp_11 : fX12_spelled (102 : Int32) (97 : Int32) (105 : Int32) (108 : Int32) (115 : Int32) (0 : Int32) = some (lN (cod 11)) := by decide +kernel
theorem sp_12 : fX12_spelled (102 : Int32) (101 : Int32) (117 : Int32) (100 : Int32) (0 : Int32) (0 : Int32) = some (lN (cod 12)) := by decide +kernel
theorem sp_13 : fX12_spelled (115 : Int32) (97 : Int32) (121 : Int32) (0 : Int32) (0 : Int32) (0 : Int32) = some (lN (cod 13)) := by decide +kernel
theorem sp_14 : fX12_spelled (100 : Int32) (114 : Int32) (111 : Int32) (112 : Int32) (0 : Int32) (0 : Int32) = some (lN (cod 14)) := by decide +kernel
theorem sp_15 : fX12_spelled (112 : Int32) (117 : Int32) (108 : Int32) (108 : Int32) (0 : Int32) (0 : Int32) = some (lN (cod 15)) := by decide +kernel
theorem sp_16 : fX12_spelled (112 : Int32) (114 : Int32) (111 : Int32) (112 : Int32) (0 : Int32) (0 : Int32) = some (lN (cod 16)) := by decide +kernel
theorem sp_17 : fX12_spelled (99 : Int32) (117 : Int32) (116 : Int32) (0 : Int32) (0 : Int32) (0 : Int32) = some (lN (cod 17)) := by decide +kernel
theorem sp_18 : fX12_spelled (97 : Int32) (110 : Int32) (121 : Int32) (0 : Int32) (0 : Int32) (0 : Int32) = some (lN (cod 18)) := by decide +kernel
theorem sp_19 : fX12_spelled (119 : Int32) (104 : Int32) (101 : Int32) (110 : Int32) (0 : Int32) (0 : Int32) = some (lN (cod 19)) := by decide +kernel
theorem sp_20 : fX12_spelled (115 : Int32) (116 : Int32) (97 : Int32) (110 : Int32) (100 : Int32) (115 : Int32) = some (lN (cod 20)) := by decide +kernel
theorem sp_21 : fX12_spelled (102 : Int32) (97 : Int32) (108 : Int32) (108 : Int32) (115 : Int32) (0 : Int32) = some (lN (cod 21)) := by decide +kernel
theorem sp_22 : fX12_spelled (104 : Int32) (105 : Int32) (103 : Int32) (104 : Int32) (0 : Int32) (0 : Int32) = some (lN (cod 22)) := by decide +kernel
theorem sp_23 : fX12_spelled (108 : Int32) (111 : Int32) (111 : Int32) (112 : Int32) (0 : Int32) (0 : Int32) = some (lN (cod 23)) := by decide +kernel
theorem sp_24 : fX12_spelled (101 : Int32) (110 : Int32) (100 : Int32) (0 : Int32) (0 : Int32) (0 : Int32) = some (lN (cod 24)) := by decide +kernel
theorem sp_25 : fX12_spelled (115 : Int32) (116 : Int32) (111 : Int32) (112 : Int32) (0 : Int32) (0 : Int32) = some (lN (cod 25)) := by decide +kernel
theorem sp_6 : ∃ z, fX12_spelled (112 : Int32) (114 : Int32) (111 : Int32) (112 : Int32) (112 : Int32) (101 : Int32) = some z ∧ ((z * (32 : Int64)) + (100 : Int64)) - (96 : Int64) = lN (cod 6) := ⟨_, rfl, by decide +kernel⟩
theorem w_0 : fX12_isOdds M = some (bi (wb M 0)) := by
  unfold fX12_isOdds
  rw [sp_0, Option.bind_some, M_isWord, Option.bind_some]
  simp only [bi_and1, if_true]
theorem w_1 : fX12_isTopic M = some (bi (wb M 1)) := by
  unfold fX12_isTopic
  rw [sp_1, Option.bind_some, M_isWord, Option.bind_some]
  simp only [bi_and1, if_true]
theorem w_2 : fX12_isWorth M = some (bi (wb M 2)) := by
  unfold fX12_isWorth
  rw [sp_2, Option.bind_some, M_isWord, Option.bind_some]
  simp only [bi_and1, if_true]
theorem w_3 : fX12_isDrift M = some (bi (wb M 3)) := by
  unfold fX12_isDrift
  rw [sp_3, Option.bind_some, M_isWord, Option.bind_some]
  simp only [bi_and1, if_true]
theorem w_4 : fX12_isClaim M = some (bi (wb M 4)) := by
  unfold fX12_isClaim
  rw [sp_4, Option.bind_some, M_isWord, Option.bind_some]
  simp only [bi_and1, if_true]
theorem w_5 : fX12_isAtWord M = some (bi (wb M 5)) := by
  unfold fX12_isAtWord
  rw [sp_5, Option.bind_some, M_isWord, Option.bind_some]
  simp only [bi_and1, if_true]
theorem w_6 : fX12_isProppedWord M = some (bi (wb M 6)) := by
  obtain ⟨z, h1, h2⟩ := sp_6
  unfold fX12_isProppedWord
  rw [h1, Option.bind_some, h2, M_isWord, Option.bind_some]
  simp only [bi_and1, if_true]
theorem w_7 : fX12_isNeeds M = some (bi (wb M 7)) := by
  unfold fX12_isNeeds
  rw [sp_7, Option.bind_some, M_isWord, Option.bind_some]
  simp only [bi_and1, if_true]
theorem w_8 : fX12_isTalker M = some (bi (wb M 8)) := by
  unfold fX12_isTalker
  rw [sp_8, Option.bind_some, M_isWord, Option.bind_some]
  simp only [bi_and1, if_true]
theorem w_9 : fX12_isSeat M = some (bi (wb M 9)) := by
  unfold fX12_isSeat
  rw [sp_9, Option.bind_some, M_isWord, Option.bind_some]
  simp only [bi_and1, if_true]
theorem w_10 : fX12_isOn M = some (bi (wb M 10)) := by
  unfold fX12_isOn
  rw [sp_10, Option.bind_some, M_isWord, Option.bind_some]
  simp only [bi_and1, if_true]
theorem w_11 : fX12_isFails M = some (bi (wb M 11)) := by
  unfold fX12_isFails
  rw [sp_11, Option.bind_some, M_isWord, Option.bind_some]
  simp only [bi_and1, if_true]
theorem w_12 : fX12_isFeud M = some (bi (wb M 12)) := by
  unfold fX12_isFeud
  rw [sp_12, Option.bind_some, M_isWord, Option.bind_some]
  simp only [bi_and1, if_true]
theorem w_24 : fX12_isEnd M = some (bi (wb M 24)) := by
  unfold fX12_isEnd
  rw [sp_24, Option.bind_some, M_isWord, Option.bind_some]
  simp only [bi_and1, if_true]
def wv (M : ms_T) (wn : Nat) : Prop := ∀ j, j < 26 → wb M j = decide (wn = j)
def stw (wn : Nat) : Nat := if 13 ≤ wn ∧ wn ≤ 19 then wn - 13 else if wn = 23 then 7 else if wn = 25 then 8 else 9
def tsw (wn : Nat) : Nat := if 20 ≤ wn ∧ wn ≤ 22 then wn - 20 else 3
theorem bi_1 : bi true = nI 1 := rfl
theorem n_10 : (nI 1 = nI 0) = False := q_eqF (by omega) (by omega) (by omega)
theorem M_stepWord {wn : Nat} (h : wv M wn) (hw : wn ≤ 26) : fX12_stepWord M = some (if stw wn = 9 then nM else nI (stw wn)) := by
  unfold fX12_stepWord
  simp only [sp_13, sp_14, sp_15, sp_16, sp_17, sp_18, sp_19, sp_23, sp_25, M_isWord, Option.bind_some, h 13 (by omega), h 14 (by omega), h 15 (by omega), h 16 (by omega), h 17 (by omega), h 18 (by omega), h 19 (by omega), h 23 (by omega), h 25 (by omega)]
  rcases (by omega : wn = 0 ∨ wn = 1 ∨ wn = 2 ∨ wn = 3 ∨ wn = 4 ∨ wn = 5 ∨ wn = 6 ∨ wn = 7 ∨ wn = 8 ∨ wn = 9 ∨ wn = 10 ∨ wn = 11 ∨ wn = 12 ∨ wn = 13 ∨ wn = 14 ∨ wn = 15 ∨ wn = 16 ∨ wn = 17 ∨ wn = 18 ∨ wn = 19 ∨ wn = 20 ∨ wn = 21 ∨ wn = 22 ∨ wn = 23 ∨ wn = 24 ∨ wn = 25 ∨ wn = 26) with rfl | rfl | rfl | rfl | rfl | rfl | rfl | rfl | rfl | rfl | rfl | rfl | rfl | rfl | rfl | rfl | rfl | rfl | rfl | rfl | rfl | rfl | rfl | rfl | rfl | rfl | rfl <;> rfl
theorem M_testWord {wn : Nat} (h : wv M wn) (hw : wn ≤ 26) : fX12_testWord M = some (if tsw wn = 3 then nM else nI (tsw wn)) := by
  unfold fX12_testWord
  simp only [sp_20, sp_21, sp_22, M_isWord, Option.bind_some, h 20 (by omega), h 21 (by omega), h 22 (by omega)]
  rcases (by omega : wn = 0 ∨ wn = 1 ∨ wn = 2 ∨ wn = 3 ∨ wn = 4 ∨ wn = 5 ∨ wn = 6 ∨ wn = 7 ∨ wn = 8 ∨ wn = 9 ∨ wn = 10 ∨ wn = 11 ∨ wn = 12 ∨ wn = 13 ∨ wn = 14 ∨ wn = 15 ∨ wn = 16 ∨ wn = 17 ∨ wn = 18 ∨ wn = 19 ∨ wn = 20 ∨ wn = 21 ∨ wn = 22 ∨ wn = 23 ∨ wn = 24 ∨ wn = 25 ∨ wn = 26) with rfl | rfl | rfl | rfl | rfl | rfl | rfl | rfl | rfl | rfl | rfl | rfl | rfl | rfl | rfl | rfl | rfl | rfl | rfl | rfl | rfl | rfl | rfl | rfl | rfl | rfl | rfl <;> rfl
theorem M_isKept {wn : Nat} (h : wv M wn) (hw : wn ≤ 26) : fX12_isKept M = some (bi (decide (wn < 26))) := by
  unfold fX12_isKept
  simp only [w_24, M_stepWord h hw, M_testWord h hw, Option.bind_some, w_0, w_1, w_2, w_3, w_4, w_5, w_6, w_7, w_8, w_9, w_10, w_11, w_12, h 0 (by omega), h 1 (by omega), h 2 (by omega), h 3 (by omega), h 4 (by omega), h 5 (by omega), h 6 (by omega), h 7 (by omega), h 8 (by omega), h 9 (by omega), h 10 (by omega), h 11 (by omega), h 12 (by omega), h 24 (by omega)]
  rcases (by omega : wn = 0 ∨ wn = 1 ∨ wn = 2 ∨ wn = 3 ∨ wn = 4 ∨ wn = 5 ∨ wn = 6 ∨ wn = 7 ∨ wn = 8 ∨ wn = 9 ∨ wn = 10 ∨ wn = 11 ∨ wn = 12 ∨ wn = 13 ∨ wn = 14 ∨ wn = 15 ∨ wn = 16 ∨ wn = 17 ∨ wn = 18 ∨ wn = 19 ∨ wn = 20 ∨ wn = 21 ∨ wn = 22 ∨ wn = 23 ∨ wn = 24 ∨ wn = 25 ∨ wn = 26) with rfl | rfl | rfl | rfl | rfl | rfl | rfl | rfl | rfl | rfl | rfl | rfl | rfl | rfl | rfl | rfl | rfl | rfl | rfl | rfl | rfl | rfl | rfl | rfl | rfl | rfl | rfl <;> rfl
end Q77a
/-- reading goes well so far; the token at hand -/
def rd (B R M : ms_T) (g : Nat → Nat) (n a e k wn : Nat) : Prop := tx B M g ∧ n ≤ 900 ∧ tk R M n a e k ∧ wn ≤ 26 ∧ gi R 7 = wnI wn ∧ wv M wn ∧ (wn < 26 → k = 1) ∧ gi M 12 = nI 0 ∧ gi R 9 = nI 0 ∧ gi R 10 = nM
def rg (R R' : ms_T) : Prop := (∀ j, 11 ≤ j → gi R' j = gi R j) ∧ R'.2.2 = R.2.2
def mg (M M' : ms_T) : Prop := (∀ j, j < 12 ∨ 18 < j → gi M' j = gi M j) ∧ (∀ j, j ≠ 19 → gl M' j = gl M j) ∧ M'.2.2 = M.2.2
theorem rg_id (R : ms_T) : rg R R := ⟨fun _ _ => rfl, rfl⟩
theorem mg_id (R : ms_T) : mg R R := ⟨fun _ _ => rfl, fun _ _ => rfl, rfl⟩
theorem rg_tr {A B C : ms_T} (h : rg A B) (k : rg B C) : rg A C := ⟨fun j hj => (k.1 j hj).trans (h.1 j hj), k.2.trans h.2⟩
theorem mg_tr {A B C : ms_T} (h : mg A B) (k : mg B C) : mg A C := ⟨fun j hj => (k.1 j hj).trans (h.1 j hj), fun j hj => (k.2.1 j hj).trans (h.2.1 j hj), k.2.2.trans h.2.2⟩
theorem mg_ra {A B : ms_T} (h : mg A B) (k : Nat) : ra B k = ra A k := congrFun (congrArg Prod.fst h.2.2) k
theorem mg_rl {A B : ms_T} (h : mg A B) (k : Nat) : rl B k = rl A k := congrFun (congrArg Prod.snd h.2.2) k
/-- a fault, the same on both sides -/
def bd (R M : ms_T) : Prop := ∃ f pl, 1 ≤ f ∧ f ≤ 7 ∧ gi R 9 = nI f ∧ gi R 10 = nI pl ∧ gi M 12 = nI f ∧ gi M 13 = nI pl
def bm (M : ms_T) : Prop := ∃ f, 1 ≤ f ∧ f ≤ 7 ∧ gi M 12 = nI f
theorem bd_bm {R M : ms_T} (h : bd R M) : bm M := by
  obtain ⟨f, pl, h1, h2, h3, h4, h5, h6⟩ := h
  exact ⟨f, h1, h2, h5⟩
section Q77
variable {R B M : ms_T} {g : Nat → Nat} {n a e k wn : Nat}
/-! behind a fault the reference does nothing more -/
theorem b_fail (h : bm M) (x y : Int32) : fX12_fail M x y = some M := by
  obtain ⟨f, h1, h2, h3⟩ := h
  simp (disch := omega) only [fX12_fail, h3, l_0, l_1, l_2, l_3, l_4, l_5, l_6, l_7, l_8, l_9, l_10, l_11, l_12, l_13, l_14, l_15, l_16, l_17, l_18, l_19, l_20, l_21, l_22, l_23, l_24, l_25, l_30, l_31, l_32, l_40, l_48, l_54, l_57, l_59, l_60, l_61, l_62, l_63, l_65, l_66, l_72, l_82, l_92, l_93, l_94, l_97, l_99, l_100, l_101, l_102, l_103, l_104, l_105, l_107, l_108, l_109, l_110, l_111, l_112, l_114, l_115, l_116, l_117, l_119, l_121, l_122, l_136, l_200, l_255, l_300, l_364, l_900, l_1000, l_1456, l_1458, l_1459, l_1460, l_1462, l_1471, l_1504, l_1510, l_1522, l_1550, l_2971, l_9999, l_10000, l_10979, l_65536, l_m1, nI_add, pk_mul, q_sub, q_ltT, q_ltF, q_leT, q_leF, q_eqT, q_eqF, q_inT, q_inF, nI_clamp, q_mlt, q_mle, q_mne, q_mne2, q_mnlt, q_mnle, Option.bind_some, if_true, if_false, reduceIte, ite_not, not_true_eq_false, not_false_eq_true, q_z1, Nat.reduceEqDiff]
theorem b_amiss (h : bm M) : fX12_amiss M = some M := by
  unfold fX12_amiss fX12_amiss_14
  simp only [b_fail h, Option.bind_some]
  split <;> rfl
theorem b_must (h : bm M) (x : Int32) : fX12_must M x = some M := by
  obtain ⟨f, h1, h2, h3⟩ := h
  simp (disch := omega) only [fX12_must, h3, l_0, l_1, l_2, l_3, l_4, l_5, l_6, l_7, l_8, l_9, l_10, l_11, l_12, l_13, l_14, l_15, l_16, l_17, l_18, l_19, l_20, l_21, l_22, l_23, l_24, l_25, l_30, l_31, l_32, l_40, l_48, l_54, l_57, l_59, l_60, l_61, l_62, l_63, l_65, l_66, l_72, l_82, l_92, l_93, l_94, l_97, l_99, l_100, l_101, l_102, l_103, l_104, l_105, l_107, l_108, l_109, l_110, l_111, l_112, l_114, l_115, l_116, l_117, l_119, l_121, l_122, l_136, l_200, l_255, l_300, l_364, l_900, l_1000, l_1456, l_1458, l_1459, l_1460, l_1462, l_1471, l_1504, l_1510, l_1522, l_1550, l_2971, l_9999, l_10000, l_10979, l_65536, l_m1, nI_add, pk_mul, q_sub, q_ltT, q_ltF, q_leT, q_leF, q_eqT, q_eqF, q_inT, q_inF, nI_clamp, q_mlt, q_mle, q_mne, q_mne2, q_mnlt, q_mnle, Option.bind_some, if_true, if_false, reduceIte, ite_not, not_true_eq_false, not_false_eq_true, q_z1, Nat.reduceEqDiff]
theorem b_stands (h : bm M) (x y : Int32) : fX12_stands M x y = some M := by
  obtain ⟨f, h1, h2, h3⟩ := h
  simp (disch := omega) only [fX12_stands, fX12_stands_19, h3, l_0, l_1, l_2, l_3, l_4, l_5, l_6, l_7, l_8, l_9, l_10, l_11, l_12, l_13, l_14, l_15, l_16, l_17, l_18, l_19, l_20, l_21, l_22, l_23, l_24, l_25, l_30, l_31, l_32, l_40, l_48, l_54, l_57, l_59, l_60, l_61, l_62, l_63, l_65, l_66, l_72, l_82, l_92, l_93, l_94, l_97, l_99, l_100, l_101, l_102, l_103, l_104, l_105, l_107, l_108, l_109, l_110, l_111, l_112, l_114, l_115, l_116, l_117, l_119, l_121, l_122, l_136, l_200, l_255, l_300, l_364, l_900, l_1000, l_1456, l_1458, l_1459, l_1460, l_1462, l_1471, l_1504, l_1510, l_1522, l_1550, l_2971, l_9999, l_10000, l_10979, l_65536, l_m1, nI_add, pk_mul, q_sub, q_ltT, q_ltF, q_leT, q_leF, q_eqT, q_eqF, q_inT, q_inF, nI_clamp, q_mlt, q_mle, q_mne, q_mne2, q_mnlt, q_mnle, Option.bind_some, if_true, if_false, reduceIte, ite_not, not_true_eq_false, not_false_eq_true, q_z1, Nat.reduceEqDiff]
theorem b_count (h : bm M) (x y : Int32) : fX12_count M x y = some (nI 0, M) := by
  have e := b_stands h x y
  obtain ⟨f, h1, h2, h3⟩ := h
  simp (disch := omega) only [fX12_count, e, h3, l_0, l_1, l_2, l_3, l_4, l_5, l_6, l_7, l_8, l_9, l_10, l_11, l_12, l_13, l_14, l_15, l_16, l_17, l_18, l_19, l_20, l_21, l_22, l_23, l_24, l_25, l_30, l_31, l_32, l_40, l_48, l_54, l_57, l_59, l_60, l_61, l_62, l_63, l_65, l_66, l_72, l_82, l_92, l_93, l_94, l_97, l_99, l_100, l_101, l_102, l_103, l_104, l_105, l_107, l_108, l_109, l_110, l_111, l_112, l_114, l_115, l_116, l_117, l_119, l_121, l_122, l_136, l_200, l_255, l_300, l_364, l_900, l_1000, l_1456, l_1458, l_1459, l_1460, l_1462, l_1471, l_1504, l_1510, l_1522, l_1550, l_2971, l_9999, l_10000, l_10979, l_65536, l_m1, nI_add, pk_mul, q_sub, q_ltT, q_ltF, q_leT, q_leF, q_eqT, q_eqF, q_inT, q_inF, nI_clamp, q_mlt, q_mle, q_mne, q_mne2, q_mnlt, q_mnle, Option.bind_some, if_true, if_false, reduceIte, ite_not, not_true_eq_false, not_false_eq_true, q_z1, Nat.reduceEqDiff]
theorem b_behind (h : bm M) (x y z : Int32) : fX12_behindWord M x y z = some (nI 0, M) := by
  unfold fX12_behindWord
  rw [b_must h, Option.bind_some, b_count h, Option.bind_some]
theorem b_perhaps (h : bm M) (x : Int32) : fX12_perhaps M x = some (nI 0, M) := by
  obtain ⟨f, h1, h2, h3⟩ := h
  simp (disch := omega) only [fX12_perhaps, h3, l_0, l_1, l_2, l_3, l_4, l_5, l_6, l_7, l_8, l_9, l_10, l_11, l_12, l_13, l_14, l_15, l_16, l_17, l_18, l_19, l_20, l_21, l_22, l_23, l_24, l_25, l_30, l_31, l_32, l_40, l_48, l_54, l_57, l_59, l_60, l_61, l_62, l_63, l_65, l_66, l_72, l_82, l_92, l_93, l_94, l_97, l_99, l_100, l_101, l_102, l_103, l_104, l_105, l_107, l_108, l_109, l_110, l_111, l_112, l_114, l_115, l_116, l_117, l_119, l_121, l_122, l_136, l_200, l_255, l_300, l_364, l_900, l_1000, l_1456, l_1458, l_1459, l_1460, l_1462, l_1471, l_1504, l_1510, l_1522, l_1550, l_2971, l_9999, l_10000, l_10979, l_65536, l_m1, nI_add, pk_mul, q_sub, q_ltT, q_ltF, q_leT, q_leF, q_eqT, q_eqF, q_inT, q_inF, nI_clamp, q_mlt, q_mle, q_mne, q_mne2, q_mnlt, q_mnle, Option.bind_some, if_true, if_false, reduceIte, ite_not, not_true_eq_false, not_false_eq_true, q_z1, Nat.reduceEqDiff]
theorem b_told (h : bm M) (x y : Int32) : fX12_told M x y = some (nI 0, M) := by
  obtain ⟨f, h1, h2, h3⟩ := h
  simp (disch := omega) only [fX12_told, fX12_told_18, h3, l_0, l_1, l_2, l_3, l_4, l_5, l_6, l_7, l_8, l_9, l_10, l_11, l_12, l_13, l_14, l_15, l_16, l_17, l_18, l_19, l_20, l_21, l_22, l_23, l_24, l_25, l_30, l_31, l_32, l_40, l_48, l_54, l_57, l_59, l_60, l_61, l_62, l_63, l_65, l_66, l_72, l_82, l_92, l_93, l_94, l_97, l_99, l_100, l_101, l_102, l_103, l_104, l_105, l_107, l_108, l_109, l_110, l_111, l_112, l_114, l_115, l_116, l_117, l_119, l_121, l_122, l_136, l_200, l_255, l_300, l_364, l_900, l_1000, l_1456, l_1458, l_1459, l_1460, l_1462, l_1471, l_1504, l_1510, l_1522, l_1550, l_2971, l_9999, l_10000, l_10979, l_65536, l_m1, nI_add, pk_mul, q_sub, q_ltT, q_ltF, q_leT, q_leF, q_eqT, q_eqF, q_inT, q_inF, nI_clamp, q_mlt, q_mle, q_mne, q_mne2, q_mnlt, q_mnle, Option.bind_some, if_true, if_false, reduceIte, ite_not, not_true_eq_false, not_false_eq_true, q_z1, Nat.reduceEqDiff]
theorem b_readTold (h : bm M) (x y : Int32) : fX12_readTold M x y = some (nI 0, M) := by
  unfold fX12_readTold
  rw [b_told h, Option.bind_some, b_must h, Option.bind_some]
theorem b_new26 (h : bm M) (x y : Int32) : fX12_readNew_26 M x y = some (y, M) := by
  have e := b_must h (1 : Int32)
  unfold fX12_readNew_26
  rw [e, Option.bind_some]
  have e2 : fX12_readNew_49 M x y = some (y, M) := by
    obtain ⟨f, h1, h2, h3⟩ := id h
    have n0 : (nI f = nI 0) = False := q_eqF (by omega) (by omega) (by omega)
    simp only [fX12_readNew_49, fX12_readNew_92, fX12_readNew_117, h3, n0, l_0, l_1, l_2, l_3, l_4, l_5, l_6, l_7, l_8, l_9, l_10, l_11, l_12, l_13, l_14, l_15, l_16, l_17, l_18, l_19, l_20, l_21, l_22, l_23, l_24, l_25, l_30, l_31, l_32, l_40, l_48, l_54, l_57, l_59, l_60, l_61, l_62, l_63, l_65, l_66, l_72, l_82, l_92, l_93, l_94, l_97, l_99, l_100, l_101, l_102, l_103, l_104, l_105, l_107, l_108, l_109, l_110, l_111, l_112, l_114, l_115, l_116, l_117, l_119, l_121, l_122, l_136, l_200, l_255, l_300, l_364, l_900, l_1000, l_1456, l_1458, l_1459, l_1460, l_1462, l_1471, l_1504, l_1510, l_1522, l_1550, l_2971, l_9999, l_10000, l_10979, l_65536, l_m1, if_false]
    simp only [l_1] at e
    rw [e, Option.bind_some]
  obtain ⟨f, h1, h2, h3⟩ := id h
  have n0 : (nI f = nI 0) = False := q_eqF (by omega) (by omega) (by omega)
  simp only [h3, n0, l_0, if_false]
  exact e2
/-! the token at hand, looked at -/
theorem wnI_eq {j : Nat} (hw : wn ≤ 26) (hj : j < 26) : (wnI wn = nI j) = (wn = j) := by
  unfold wnI
  by_cases c : wn = 26
  · rw [if_pos c]
    exact propext ⟨fun h => absurd h (by rw [q_mne (by omega)]; exact id), fun h => by omega⟩
  · rw [if_neg c]
    exact propext (nI_eq (by omega) (by omega))
theorem wnI_m (hw : wn ≤ 26) : (wnI wn = nM) = (wn = 26) := by
  unfold wnI
  by_cases c : wn = 26
  · rw [if_pos c]; simp [c]
  · rw [if_neg c]
    exact propext ⟨fun h => absurd h (by rw [q_mne2 (by omega)]; exact id), fun h => absurd h c⟩
theorem tk_w (h : tk R M n a e k) : ∃ wn, wn ≤ 26 ∧ gi R 7 = wnI wn ∧ wv M wn ∧ (wn < 26 → k = 1) := by
  obtain ⟨-, -, -, -, -, -, -, -, -, m14, -, h⟩ := h
  have no : k ≠ 1 → k ≤ 4 → wv M 26 := fun c c4 j hj => by
    unfold wb
    rw [decide_eq_false (show ¬ 26 = j by omega), decide_eq_false]
    intro ⟨q, _⟩
    rw [m14] at q
    exact c ((nI_eq (by omega) (by omega)).mp q)
  have w26 : wnI 26 = nM := rfl
  rcases h with ⟨rfl, h⟩ | ⟨rfl, h1, h2, wn, h3, h4, h5⟩ | ⟨rfl, h, _⟩ | ⟨rfl, h, _⟩ | ⟨rfl, h⟩
  · exact ⟨26, by omega, h, no (by omega) (by omega), fun q => by omega⟩
  · refine ⟨wn, h3, h4, fun j hj => ?_, fun _ => rfl⟩
    unfold wb
    by_cases c : wn = j
    · rw [decide_eq_true c, decide_eq_true ⟨m14, (h5 j hj).mpr c⟩]
    · rw [decide_eq_false c, decide_eq_false (fun q => c ((h5 j hj).mp q.2))]
  · exact ⟨26, by omega, h, no (by omega) (by omega), fun q => by omega⟩
  · exact ⟨26, by omega, h, no (by omega) (by omega), fun q => by omega⟩
  · exact ⟨26, by omega, h, no (by omega) (by omega), fun q => by omega⟩
theorem rd_adv (h : rd B R M g n a e k wn) : ∃ R' M' a' e' k' wn', fX4_advanceT R B = some R' ∧ fX12_advance M = some M' ∧ rd B R' M' g n a' e' k' wn' ∧ e ≤ a' ∧ rg R R' ∧ mg M M' := by
  obtain ⟨h1, h2, h3, h4, h5, h6, h7, h8, h9, h10⟩ := h
  obtain ⟨t1, t2, t3, t4, t5, t6, t7, t8, t9⟩ := id h3
  obtain ⟨R', M', a', e', k', q1, q2, q3, q4, q5, q6⟩ := adv h1 h2 t8 t1 t2 t3 t4
  obtain ⟨wn', w1, w2, w3, w4⟩ := tk_w q3
  have m4 : ra M' 4 = ra M 4 := congrFun (congrArg Prod.fst q6.2.2) 4
  refine ⟨R', M', a', e', k', wn', q1, q2, ⟨fun i hi => by rw [m4]; exact h1 i hi, h2, q3, w1, w2, w3, w4, ?_, ?_, ?_⟩, q4, ⟨fun j hj => q5.1 j (by omega), q5.2⟩, ⟨fun j hj => q6.1 j (by omega), q6.2.1, q6.2.2⟩⟩
  · rw [q6.1 12 (by omega)]; exact h8
  · rw [q5.1 9 (by omega)]; exact h9
  · rw [q5.1 10 (by omega)]; exact h10
theorem rd_amiss (h : rd B R M g n a e k wn) : ∃ R' M', fX4_refuseHereT R (nI 2) = some (nI 0, R') ∧ fX12_amiss M = some M' ∧ bd R' M' ∧ rg R R' ∧ mg M M' := by
  obtain ⟨h1, h2, ⟨t1, t2, t3, t4, t5, t6, t7, t8, t9, t10, t11, t12⟩, h4, h5, h6, h7, h8, h9, h10⟩ := h
  have le : (nI 0 ≤ nI 0) = True := q_leT (by omega) (by omega)
  have k4 : k ≤ 4 := by rcases t12 with q | q | q | q | q <;> omega
  by_cases c : k = 4
  · subst c
    refine ⟨si (si R 9 (nI 1)) 10 (nI a), si (si M 12 (nI 1)) 13 (nI a), ?_, ?_, ⟨1, a, by omega, by omega, rfl, rfl, rfl, rfl⟩, ⟨fun j hj => by rw [q_gi, if_neg (by omega), q_gi, if_neg (by omega)], rfl⟩, ⟨fun j hj => by rw [q_gi, if_neg (by omega), q_gi, if_neg (by omega)], fun _ _ => rfl, rfl⟩⟩
    · simp (disch := omega) only [fX4_refuseHereT, t9, t5, l_0, l_1, l_2, l_3, l_4, l_5, l_6, l_7, l_8, l_9, l_10, l_11, l_12, l_13, l_14, l_15, l_16, l_17, l_18, l_19, l_20, l_21, l_22, l_23, l_24, l_25, l_30, l_31, l_32, l_40, l_48, l_54, l_57, l_59, l_60, l_61, l_62, l_63, l_65, l_66, l_72, l_82, l_92, l_93, l_94, l_97, l_99, l_100, l_101, l_102, l_103, l_104, l_105, l_107, l_108, l_109, l_110, l_111, l_112, l_114, l_115, l_116, l_117, l_119, l_121, l_122, l_136, l_200, l_255, l_300, l_364, l_900, l_1000, l_1456, l_1458, l_1459, l_1460, l_1462, l_1471, l_1504, l_1510, l_1522, l_1550, l_2971, l_9999, l_10000, l_10979, l_65536, l_m1, q_gi, q_gil, q_gir, q_giR, q_gl, q_gli, q_glr, q_glR, q_ra, q_rai, q_ral, q_raR, q_rl, q_rli, q_rll, q_rlr, sa, sA, ia, la, q_srsr, q_sRsR, Option.bind_some, if_true, if_false, reduceIte, ite_not, not_true_eq_false, not_false_eq_true, q_z1, Nat.reduceEqDiff]
    · simp (disch := omega) only [fX12_amiss, fX12_amiss_14, fX12_fail, t10, t6, h8, le, l_0, l_1, l_2, l_3, l_4, l_5, l_6, l_7, l_8, l_9, l_10, l_11, l_12, l_13, l_14, l_15, l_16, l_17, l_18, l_19, l_20, l_21, l_22, l_23, l_24, l_25, l_30, l_31, l_32, l_40, l_48, l_54, l_57, l_59, l_60, l_61, l_62, l_63, l_65, l_66, l_72, l_82, l_92, l_93, l_94, l_97, l_99, l_100, l_101, l_102, l_103, l_104, l_105, l_107, l_108, l_109, l_110, l_111, l_112, l_114, l_115, l_116, l_117, l_119, l_121, l_122, l_136, l_200, l_255, l_300, l_364, l_900, l_1000, l_1456, l_1458, l_1459, l_1460, l_1462, l_1471, l_1504, l_1510, l_1522, l_1550, l_2971, l_9999, l_10000, l_10979, l_65536, l_m1, q_gi, q_gil, q_gir, q_giR, q_gl, q_gli, q_glr, q_glR, q_ra, q_rai, q_ral, q_raR, q_rl, q_rli, q_rll, q_rlr, sa, sA, ia, la, q_srsr, q_sRsR, Option.bind_some, if_true, if_false, reduceIte, ite_not, not_true_eq_false, not_false_eq_true, q_z1, Nat.reduceEqDiff]
  · have c' : (nI k = nI 4) = False := q_eqF c (by omega) (by omega)
    refine ⟨si (si R 9 (nI 2)) 10 (nI a), si (si M 12 (nI 2)) 13 (nI a), ?_, ?_, ⟨2, a, by omega, by omega, rfl, rfl, rfl, rfl⟩, ⟨fun j hj => by rw [q_gi, if_neg (by omega), q_gi, if_neg (by omega)], rfl⟩, ⟨fun j hj => by rw [q_gi, if_neg (by omega), q_gi, if_neg (by omega)], fun _ _ => rfl, rfl⟩⟩
    · simp (disch := omega) only [fX4_refuseHereT, t9, t5, c', l_0, l_1, l_2, l_3, l_4, l_5, l_6, l_7, l_8, l_9, l_10, l_11, l_12, l_13, l_14, l_15, l_16, l_17, l_18, l_19, l_20, l_21, l_22, l_23, l_24, l_25, l_30, l_31, l_32, l_40, l_48, l_54, l_57, l_59, l_60, l_61, l_62, l_63, l_65, l_66, l_72, l_82, l_92, l_93, l_94, l_97, l_99, l_100, l_101, l_102, l_103, l_104, l_105, l_107, l_108, l_109, l_110, l_111, l_112, l_114, l_115, l_116, l_117, l_119, l_121, l_122, l_136, l_200, l_255, l_300, l_364, l_900, l_1000, l_1456, l_1458, l_1459, l_1460, l_1462, l_1471, l_1504, l_1510, l_1522, l_1550, l_2971, l_9999, l_10000, l_10979, l_65536, l_m1, q_gi, q_gil, q_gir, q_giR, q_gl, q_gli, q_glr, q_glR, q_ra, q_rai, q_ral, q_raR, q_rl, q_rli, q_rll, q_rlr, sa, sA, ia, la, q_srsr, q_sRsR, Option.bind_some, if_true, if_false, reduceIte, ite_not, not_true_eq_false, not_false_eq_true, q_z1, Nat.reduceEqDiff]
    · simp (disch := omega) only [fX12_amiss, fX12_amiss_14, fX12_fail, t10, t6, h8, le, c', l_0, l_1, l_2, l_3, l_4, l_5, l_6, l_7, l_8, l_9, l_10, l_11, l_12, l_13, l_14, l_15, l_16, l_17, l_18, l_19, l_20, l_21, l_22, l_23, l_24, l_25, l_30, l_31, l_32, l_40, l_48, l_54, l_57, l_59, l_60, l_61, l_62, l_63, l_65, l_66, l_72, l_82, l_92, l_93, l_94, l_97, l_99, l_100, l_101, l_102, l_103, l_104, l_105, l_107, l_108, l_109, l_110, l_111, l_112, l_114, l_115, l_116, l_117, l_119, l_121, l_122, l_136, l_200, l_255, l_300, l_364, l_900, l_1000, l_1456, l_1458, l_1459, l_1460, l_1462, l_1471, l_1504, l_1510, l_1522, l_1550, l_2971, l_9999, l_10000, l_10979, l_65536, l_m1, q_gi, q_gil, q_gir, q_giR, q_gl, q_gli, q_glr, q_glR, q_ra, q_rai, q_ral, q_raR, q_rl, q_rli, q_rll, q_rlr, sa, sA, ia, la, q_srsr, q_sRsR, Option.bind_some, if_true, if_false, reduceIte, ite_not, not_true_eq_false, not_false_eq_true, q_z1, Nat.reduceEqDiff]
theorem rd_fail (h : rd B R M g n a e k wn) {f : Nat} (hk : k ≠ 4) (hf : 1 ≤ f) (hf2 : f ≤ 7) : ∃ R' M', fX4_refuseHereT R (nI f) = some (nI 0, R') ∧ fX12_fail M (nI f) (gi M 15) = some M' ∧ bd R' M' ∧ rg R R' ∧ mg M M' := by
  obtain ⟨h1, h2, ⟨t1, t2, t3, t4, t5, t6, t7, t8, t9, t10, t11, t12⟩, h4, h5, h6, h7, h8, h9, h10⟩ := h
  have le : (nI 0 ≤ nI 0) = True := q_leT (by omega) (by omega)
  have k4 : k ≤ 4 := by rcases t12 with q | q | q | q | q <;> omega
  have c' : (nI k = nI 4) = False := q_eqF hk (by omega) (by omega)
  refine ⟨si (si R 9 (nI f)) 10 (nI a), si (si M 12 (nI f)) 13 (nI a), ?_, ?_, ⟨f, a, hf, hf2, rfl, rfl, rfl, rfl⟩, ⟨fun j hj => by rw [q_gi, if_neg (by omega), q_gi, if_neg (by omega)], rfl⟩, ⟨fun j hj => by rw [q_gi, if_neg (by omega), q_gi, if_neg (by omega)], fun _ _ => rfl, rfl⟩⟩
  · simp (disch := omega) only [fX4_refuseHereT, t9, t5, c', l_0, l_1, l_2, l_3, l_4, l_5, l_6, l_7, l_8, l_9, l_10, l_11, l_12, l_13, l_14, l_15, l_16, l_17, l_18, l_19, l_20, l_21, l_22, l_23, l_24, l_25, l_30, l_31, l_32, l_40, l_48, l_54, l_57, l_59, l_60, l_61, l_62, l_63, l_65, l_66, l_72, l_82, l_92, l_93, l_94, l_97, l_99, l_100, l_101, l_102, l_103, l_104, l_105, l_107, l_108, l_109, l_110, l_111, l_112, l_114, l_115, l_116, l_117, l_119, l_121, l_122, l_136, l_200, l_255, l_300, l_364, l_900, l_1000, l_1456, l_1458, l_1459, l_1460, l_1462, l_1471, l_1504, l_1510, l_1522, l_1550, l_2971, l_9999, l_10000, l_10979, l_65536, l_m1, q_gi, q_gil, q_gir, q_giR, q_gl, q_gli, q_glr, q_glR, q_ra, q_rai, q_ral, q_raR, q_rl, q_rli, q_rll, q_rlr, sa, sA, ia, la, q_srsr, q_sRsR, Option.bind_some, if_true, if_false, reduceIte, ite_not, not_true_eq_false, not_false_eq_true, q_z1, Nat.reduceEqDiff]
  · simp (disch := omega) only [fX12_fail, t6, h8, le, l_0, l_1, l_2, l_3, l_4, l_5, l_6, l_7, l_8, l_9, l_10, l_11, l_12, l_13, l_14, l_15, l_16, l_17, l_18, l_19, l_20, l_21, l_22, l_23, l_24, l_25, l_30, l_31, l_32, l_40, l_48, l_54, l_57, l_59, l_60, l_61, l_62, l_63, l_65, l_66, l_72, l_82, l_92, l_93, l_94, l_97, l_99, l_100, l_101, l_102, l_103, l_104, l_105, l_107, l_108, l_109, l_110, l_111, l_112, l_114, l_115, l_116, l_117, l_119, l_121, l_122, l_136, l_200, l_255, l_300, l_364, l_900, l_1000, l_1456, l_1458, l_1459, l_1460, l_1462, l_1471, l_1504, l_1510, l_1522, l_1550, l_2971, l_9999, l_10000, l_10979, l_65536, l_m1, q_gi, q_gil, q_gir, q_giR, q_gl, q_gli, q_glr, q_glR, q_ra, q_rai, q_ral, q_raR, q_rl, q_rli, q_rll, q_rlr, sa, sA, ia, la, q_srsr, q_sRsR, Option.bind_some, if_true, if_false, reduceIte, ite_not, not_true_eq_false, not_false_eq_true, q_z1, Nat.reduceEqDiff]
/-! the reference's moves while all is well -/
theorem k_must1 (h : gi M 12 = nI 0) : fX12_must M (nI 1) = fX12_advance M := by
  have le : (nI 0 ≤ nI 0) = True := q_leT (by omega) (by omega)
  unfold fX12_must
  simp only [h, l_0, le, n_10, if_true, if_false]
  cases fX12_advance M <;> rfl
theorem k_must0 (h : gi M 12 = nI 0) : fX12_must M (nI 0) = fX12_amiss M := by
  have le : (nI 0 ≤ nI 0) = True := q_leT (by omega) (by omega)
  unfold fX12_must
  simp only [h, l_0, le, if_true]
  cases fX12_amiss M <;> rfl
/-- a word that must stand -/
theorem rd_word (h : rd B R M g n a e k wn) {j : Nat} (hj : j < 26) :
    (wn = j ∧ ∃ R' M' a' e' k' wn', fX4_passWordT R B (nI j) = some (nI 1, R') ∧ fX12_must M (bi (wb M j)) = some M' ∧ rd B R' M' g n a' e' k' wn' ∧ e ≤ a' ∧ rg R R' ∧ mg M M') ∨
    (wn ≠ j ∧ ∃ R' M', fX4_passWordT R B (nI j) = some (nI 0, R') ∧ fX12_must M (bi (wb M j)) = some M' ∧ bd R' M' ∧ rg R R' ∧ mg M M') := by
  have e1 := wnI_eq (wn := wn) (j := j) h.2.2.2.1 hj
  have e2 := h.2.2.2.2.2.1 j hj
  have e3 := h.2.2.2.2.1
  have e4 := h.2.2.2.2.2.2.2.1
  by_cases c : wn = j
  · left
    refine ⟨c, ?_⟩
    obtain ⟨R', M', a', e', k', wn', q1, q2, q3, q4, q5, q6⟩ := rd_adv h
    have e1' : (wnI wn = nI j) = True := by rw [e1]; exact eq_true c
    refine ⟨R', M', a', e', k', wn', ?_, ?_, q3, q4, q5, q6⟩
    · simp only [fX4_passWordT, e3, e1', q1, l_0, l_1, l_2, l_3, l_4, l_5, l_6, l_7, l_8, l_9, l_10, l_11, l_12, l_13, l_14, l_15, l_16, l_17, l_18, l_19, l_20, l_21, l_22, l_23, l_24, l_25, l_30, l_31, l_32, l_40, l_48, l_54, l_57, l_59, l_60, l_61, l_62, l_63, l_65, l_66, l_72, l_82, l_92, l_93, l_94, l_97, l_99, l_100, l_101, l_102, l_103, l_104, l_105, l_107, l_108, l_109, l_110, l_111, l_112, l_114, l_115, l_116, l_117, l_119, l_121, l_122, l_136, l_200, l_255, l_300, l_364, l_900, l_1000, l_1456, l_1458, l_1459, l_1460, l_1462, l_1471, l_1504, l_1510, l_1522, l_1550, l_2971, l_9999, l_10000, l_10979, l_65536, l_m1, if_true, Option.bind_some]
    · rw [e2, decide_eq_true c, bi_1, k_must1 e4, q2]
  · right
    refine ⟨c, ?_⟩
    obtain ⟨R', M', q1, q2, q3, q4, q5⟩ := rd_amiss h
    have e1' : (wnI wn = nI j) = False := by rw [e1]; exact eq_false c
    refine ⟨R', M', ?_, ?_, q3, q4, q5⟩
    · simp only [fX4_passWordT, e3, e1', q1, l_0, l_1, l_2, l_3, l_4, l_5, l_6, l_7, l_8, l_9, l_10, l_11, l_12, l_13, l_14, l_15, l_16, l_17, l_18, l_19, l_20, l_21, l_22, l_23, l_24, l_25, l_30, l_31, l_32, l_40, l_48, l_54, l_57, l_59, l_60, l_61, l_62, l_63, l_65, l_66, l_72, l_82, l_92, l_93, l_94, l_97, l_99, l_100, l_101, l_102, l_103, l_104, l_105, l_107, l_108, l_109, l_110, l_111, l_112, l_114, l_115, l_116, l_117, l_119, l_121, l_122, l_136, l_200, l_255, l_300, l_364, l_900, l_1000, l_1456, l_1458, l_1459, l_1460, l_1462, l_1471, l_1504, l_1510, l_1522, l_1550, l_2971, l_9999, l_10000, l_10979, l_65536, l_m1, if_false, Option.bind_some, q_z0, if_true]
    · rw [e2, decide_eq_false c, show bi false = nI 0 from rfl, k_must0 e4, q2]
/-- a number that must stand -/
theorem rd_num (h : rd B R M g n a e k wn) {lo hi : Nat} (h1 : lo ≤ hi) (h2 : hi ≤ 9999) :
    (∃ v, lo ≤ v ∧ v ≤ hi ∧ k = 2 ∧ gi R 5 = nI v ∧ gi M 17 = nI v ∧ fX4_isNumberHereT R (nI lo) (nI hi) = some (nI 1, R) ∧ fX12_stands M (nI lo) (nI hi) = some M) ∨
    (∃ R' M', fX4_isNumberHereT R (nI lo) (nI hi) = some (nI 0, R') ∧ fX12_stands M (nI lo) (nI hi) = some M' ∧ bd R' M' ∧ rg R R' ∧ mg M M') := by
  have e4 := h.2.2.2.2.2.2.2.1
  obtain ⟨t1, t2, t3, t4, t5, t6, t7, t8, t9, t10, t11, t12⟩ := h.2.2.1
  have k4 : k ≤ 4 := by rcases t12 with q | q | q | q | q <;> omega
  by_cases c : k = 2
  · subst c
    obtain ⟨v, v1, v2, v3⟩ : ∃ v, v ≤ 9999 ∧ gi R 5 = nI v ∧ gi M 17 = nI v := by
      rcases t12 with ⟨q, _⟩ | ⟨q, _⟩ | ⟨_, _, q⟩ | ⟨q, _⟩ | ⟨q, _⟩
      · omega
      · omega
      · exact q
      · omega
      · omega
    have eI : fX12_isIn ((nI v).toInt64) (nI lo).toInt64 (nI hi).toInt64 = some (bi (decide (lo ≤ v ∧ v ≤ hi))) := by
      rw [q_isIn, Int32.toInt_toInt64, Int32.toInt_toInt64, Int32.toInt_toInt64, nI_toInt (by omega), nI_toInt (by omega), nI_toInt (by omega)]
      congr 2
      exact decide_eq_decide.mpr (by omega)
    by_cases d : lo ≤ v ∧ v ≤ hi
    · left
      rw [decide_eq_true d] at eI
      refine ⟨v, d.1, d.2, rfl, v2, v3, ?_, ?_⟩
      · simp (disch := omega) only [fX4_isNumberHereT, t9, v2, l_0, l_1, l_2, l_3, l_4, l_5, l_6, l_7, l_8, l_9, l_10, l_11, l_12, l_13, l_14, l_15, l_16, l_17, l_18, l_19, l_20, l_21, l_22, l_23, l_24, l_25, l_30, l_31, l_32, l_40, l_48, l_54, l_57, l_59, l_60, l_61, l_62, l_63, l_65, l_66, l_72, l_82, l_92, l_93, l_94, l_97, l_99, l_100, l_101, l_102, l_103, l_104, l_105, l_107, l_108, l_109, l_110, l_111, l_112, l_114, l_115, l_116, l_117, l_119, l_121, l_122, l_136, l_200, l_255, l_300, l_364, l_900, l_1000, l_1456, l_1458, l_1459, l_1460, l_1462, l_1471, l_1504, l_1510, l_1522, l_1550, l_2971, l_9999, l_10000, l_10979, l_65536, l_m1, nI_add, pk_mul, q_sub, q_ltT, q_ltF, q_leT, q_leF, q_eqT, q_eqF, q_inT, q_inF, nI_clamp, q_mlt, q_mle, q_mne, q_mne2, q_mnlt, q_mnle, Option.bind_some, if_true, if_false, reduceIte, ite_not, not_true_eq_false, not_false_eq_true, q_z1, Nat.reduceEqDiff]
      · simp (disch := omega) only [fX12_stands, fX12_stands_19, t10, e4, v3, eI, bi, b2_1, l_0, l_1, l_2, l_3, l_4, l_5, l_6, l_7, l_8, l_9, l_10, l_11, l_12, l_13, l_14, l_15, l_16, l_17, l_18, l_19, l_20, l_21, l_22, l_23, l_24, l_25, l_30, l_31, l_32, l_40, l_48, l_54, l_57, l_59, l_60, l_61, l_62, l_63, l_65, l_66, l_72, l_82, l_92, l_93, l_94, l_97, l_99, l_100, l_101, l_102, l_103, l_104, l_105, l_107, l_108, l_109, l_110, l_111, l_112, l_114, l_115, l_116, l_117, l_119, l_121, l_122, l_136, l_200, l_255, l_300, l_364, l_900, l_1000, l_1456, l_1458, l_1459, l_1460, l_1462, l_1471, l_1504, l_1510, l_1522, l_1550, l_2971, l_9999, l_10000, l_10979, l_65536, l_m1, nI_add, pk_mul, q_sub, q_ltT, q_ltF, q_leT, q_leF, q_eqT, q_eqF, q_inT, q_inF, nI_clamp, q_mlt, q_mle, q_mne, q_mne2, q_mnlt, q_mnle, Option.bind_some, if_true, if_false, reduceIte, ite_not, not_true_eq_false, not_false_eq_true, q_z1, Nat.reduceEqDiff]
    · right
      rw [decide_eq_false d] at eI
      obtain ⟨R', M', q1, q2, q3, q4, q5⟩ := rd_fail h (f := 4) (by omega) (by omega) (by omega)
      refine ⟨R', M', ?_, ?_, q3, q4, q5⟩
      · by_cases d1 : v < lo
        · simp (disch := omega) only [fX4_isNumberHereT, fX4_isNumberHereT_30, t9, v2, q1, l_0, l_1, l_2, l_3, l_4, l_5, l_6, l_7, l_8, l_9, l_10, l_11, l_12, l_13, l_14, l_15, l_16, l_17, l_18, l_19, l_20, l_21, l_22, l_23, l_24, l_25, l_30, l_31, l_32, l_40, l_48, l_54, l_57, l_59, l_60, l_61, l_62, l_63, l_65, l_66, l_72, l_82, l_92, l_93, l_94, l_97, l_99, l_100, l_101, l_102, l_103, l_104, l_105, l_107, l_108, l_109, l_110, l_111, l_112, l_114, l_115, l_116, l_117, l_119, l_121, l_122, l_136, l_200, l_255, l_300, l_364, l_900, l_1000, l_1456, l_1458, l_1459, l_1460, l_1462, l_1471, l_1504, l_1510, l_1522, l_1550, l_2971, l_9999, l_10000, l_10979, l_65536, l_m1, nI_add, pk_mul, q_sub, q_ltT, q_ltF, q_leT, q_leF, q_eqT, q_eqF, q_inT, q_inF, nI_clamp, q_mlt, q_mle, q_mne, q_mne2, q_mnlt, q_mnle, Option.bind_some, if_true, if_false, reduceIte, ite_not, not_true_eq_false, not_false_eq_true, q_z1, Nat.reduceEqDiff]
        · simp (disch := omega) only [fX4_isNumberHereT, fX4_isNumberHereT_30, t9, v2, q1, l_0, l_1, l_2, l_3, l_4, l_5, l_6, l_7, l_8, l_9, l_10, l_11, l_12, l_13, l_14, l_15, l_16, l_17, l_18, l_19, l_20, l_21, l_22, l_23, l_24, l_25, l_30, l_31, l_32, l_40, l_48, l_54, l_57, l_59, l_60, l_61, l_62, l_63, l_65, l_66, l_72, l_82, l_92, l_93, l_94, l_97, l_99, l_100, l_101, l_102, l_103, l_104, l_105, l_107, l_108, l_109, l_110, l_111, l_112, l_114, l_115, l_116, l_117, l_119, l_121, l_122, l_136, l_200, l_255, l_300, l_364, l_900, l_1000, l_1456, l_1458, l_1459, l_1460, l_1462, l_1471, l_1504, l_1510, l_1522, l_1550, l_2971, l_9999, l_10000, l_10979, l_65536, l_m1, nI_add, pk_mul, q_sub, q_ltT, q_ltF, q_leT, q_leF, q_eqT, q_eqF, q_inT, q_inF, nI_clamp, q_mlt, q_mle, q_mne, q_mne2, q_mnlt, q_mnle, Option.bind_some, if_true, if_false, reduceIte, ite_not, not_true_eq_false, not_false_eq_true, q_z1, Nat.reduceEqDiff]
      · simp (disch := omega) only [fX12_stands, fX12_stands_19, t10, e4, v3, eI, q2, bi, b2_0, l_0, l_1, l_2, l_3, l_4, l_5, l_6, l_7, l_8, l_9, l_10, l_11, l_12, l_13, l_14, l_15, l_16, l_17, l_18, l_19, l_20, l_21, l_22, l_23, l_24, l_25, l_30, l_31, l_32, l_40, l_48, l_54, l_57, l_59, l_60, l_61, l_62, l_63, l_65, l_66, l_72, l_82, l_92, l_93, l_94, l_97, l_99, l_100, l_101, l_102, l_103, l_104, l_105, l_107, l_108, l_109, l_110, l_111, l_112, l_114, l_115, l_116, l_117, l_119, l_121, l_122, l_136, l_200, l_255, l_300, l_364, l_900, l_1000, l_1456, l_1458, l_1459, l_1460, l_1462, l_1471, l_1504, l_1510, l_1522, l_1550, l_2971, l_9999, l_10000, l_10979, l_65536, l_m1, nI_add, pk_mul, q_sub, q_ltT, q_ltF, q_leT, q_leF, q_eqT, q_eqF, q_inT, q_inF, nI_clamp, q_mlt, q_mle, q_mne, q_mne2, q_mnlt, q_mnle, Option.bind_some, if_true, if_false, reduceIte, ite_not, not_true_eq_false, not_false_eq_true, q_z1, Nat.reduceEqDiff]
  · right
    have c' : (nI k = nI 2) = False := q_eqF c (by omega) (by omega)
    obtain ⟨R', M', q1, q2, q3, q4, q5⟩ := rd_amiss h
    refine ⟨R', M', ?_, ?_, q3, q4, q5⟩
    · simp only [fX4_isNumberHereT, t9, c', q1, l_0, l_1, l_2, l_3, l_4, l_5, l_6, l_7, l_8, l_9, l_10, l_11, l_12, l_13, l_14, l_15, l_16, l_17, l_18, l_19, l_20, l_21, l_22, l_23, l_24, l_25, l_30, l_31, l_32, l_40, l_48, l_54, l_57, l_59, l_60, l_61, l_62, l_63, l_65, l_66, l_72, l_82, l_92, l_93, l_94, l_97, l_99, l_100, l_101, l_102, l_103, l_104, l_105, l_107, l_108, l_109, l_110, l_111, l_112, l_114, l_115, l_116, l_117, l_119, l_121, l_122, l_136, l_200, l_255, l_300, l_364, l_900, l_1000, l_1456, l_1458, l_1459, l_1460, l_1462, l_1471, l_1504, l_1510, l_1522, l_1550, l_2971, l_9999, l_10000, l_10979, l_65536, l_m1, if_false, Option.bind_some, q_z0, if_true]
    · obtain ⟨f, pl, f1, f2, f3, f4, f5, f6⟩ := q3
      have n0 : (nI f = nI 0) = False := q_eqF (by omega) (by omega) (by omega)
      simp only [fX12_stands, fX12_stands_19, t10, e4, c', q2, f5, n0, l_0, l_1, l_2, l_3, l_4, l_5, l_6, l_7, l_8, l_9, l_10, l_11, l_12, l_13, l_14, l_15, l_16, l_17, l_18, l_19, l_20, l_21, l_22, l_23, l_24, l_25, l_30, l_31, l_32, l_40, l_48, l_54, l_57, l_59, l_60, l_61, l_62, l_63, l_65, l_66, l_72, l_82, l_92, l_93, l_94, l_97, l_99, l_100, l_101, l_102, l_103, l_104, l_105, l_107, l_108, l_109, l_110, l_111, l_112, l_114, l_115, l_116, l_117, l_119, l_121, l_122, l_136, l_200, l_255, l_300, l_364, l_900, l_1000, l_1456, l_1458, l_1459, l_1460, l_1462, l_1471, l_1504, l_1510, l_1522, l_1550, l_2971, l_9999, l_10000, l_10979, l_65536, l_m1, if_false, if_true, Option.bind_some]
/-- count, behind what stands -/
theorem k_count (h : rd B R M g n a e k wn) {v : Nat} {lo hi : Int32} (hv : gi M 17 = nI v) (hs : fX12_stands M lo hi = some M) : ∃ R' M' a' e' k' wn', fX4_advanceT R B = some R' ∧ fX12_count M lo hi = some (nI v, M') ∧ rd B R' M' g n a' e' k' wn' ∧ e ≤ a' ∧ rg R R' ∧ mg M M' := by
  have e4 := h.2.2.2.2.2.2.2.1
  obtain ⟨R', M', a', e', k', wn', q1, q2, q3, q4, q5, q6⟩ := rd_adv h
  have le : (nI 0 ≤ nI 0) = True := q_leT (by omega) (by omega)
  refine ⟨R', M', a', e', k', wn', q1, ?_, q3, q4, q5, q6⟩
  simp only [fX12_count, hs, e4, q2, hv, le, l_0, l_1, l_2, l_3, l_4, l_5, l_6, l_7, l_8, l_9, l_10, l_11, l_12, l_13, l_14, l_15, l_16, l_17, l_18, l_19, l_20, l_21, l_22, l_23, l_24, l_25, l_30, l_31, l_32, l_40, l_48, l_54, l_57, l_59, l_60, l_61, l_62, l_63, l_65, l_66, l_72, l_82, l_92, l_93, l_94, l_97, l_99, l_100, l_101, l_102, l_103, l_104, l_105, l_107, l_108, l_109, l_110, l_111, l_112, l_114, l_115, l_116, l_117, l_119, l_121, l_122, l_136, l_200, l_255, l_300, l_364, l_900, l_1000, l_1456, l_1458, l_1459, l_1460, l_1462, l_1471, l_1504, l_1510, l_1522, l_1550, l_2971, l_9999, l_10000, l_10979, l_65536, l_m1, if_true, Option.bind_some]
theorem b_count2 {M' : ms_T} {lo hi : Int32} (hs : fX12_stands M lo hi = some M') (hb : bm M') : fX12_count M lo hi = some (nI 0, M') := by
  obtain ⟨f, h1, h2, h3⟩ := hb
  simp (disch := omega) only [fX12_count, hs, h3, l_0, l_1, l_2, l_3, l_4, l_5, l_6, l_7, l_8, l_9, l_10, l_11, l_12, l_13, l_14, l_15, l_16, l_17, l_18, l_19, l_20, l_21, l_22, l_23, l_24, l_25, l_30, l_31, l_32, l_40, l_48, l_54, l_57, l_59, l_60, l_61, l_62, l_63, l_65, l_66, l_72, l_82, l_92, l_93, l_94, l_97, l_99, l_100, l_101, l_102, l_103, l_104, l_105, l_107, l_108, l_109, l_110, l_111, l_112, l_114, l_115, l_116, l_117, l_119, l_121, l_122, l_136, l_200, l_255, l_300, l_364, l_900, l_1000, l_1456, l_1458, l_1459, l_1460, l_1462, l_1471, l_1504, l_1510, l_1522, l_1550, l_2971, l_9999, l_10000, l_10979, l_65536, l_m1, nI_add, pk_mul, q_sub, q_ltT, q_ltF, q_leT, q_leF, q_eqT, q_eqF, q_inT, q_inF, nI_clamp, q_mlt, q_mle, q_mne, q_mne2, q_mnlt, q_mnle, Option.bind_some, if_true, if_false, reduceIte, ite_not, not_true_eq_false, not_false_eq_true, q_z1, Nat.reduceEqDiff]
/-- the sign behind each part -/
theorem rd_semi (h : rd B R M g n a e k wn) : ∃ z, fX12_isSign M (nI 59) = some z ∧
    ((∃ R' M' a' e' k' wn', fX4_passSemicolonT R B = some (nI 1, R') ∧ fX12_must M z = some M' ∧ rd B R' M' g n a' e' k' wn' ∧ e ≤ a' ∧ a < e ∧ rg R R' ∧ mg M M') ∨
    (∃ R' M', fX4_passSemicolonT R B = some (nI 0, R') ∧ fX12_must M z = some M' ∧ bd R' M' ∧ rg R R' ∧ mg M M')) := by
  have e4 := h.2.2.2.2.2.2.2.1
  obtain ⟨t1, t2, t3, t4, t5, t6, t7, t8, t9, t10, t11, t12⟩ := h.2.2.1
  have k4 : k ≤ 4 := by rcases t12 with q | q | q | q | q <;> omega
  by_cases c : k = 3
  · subst c
    obtain ⟨v, v0, v1, v2, v3⟩ : ∃ v, 59 ≤ v ∧ v ≤ 62 ∧ gi R 6 = nI v ∧ gi M 17 = nI v := by
      rcases t12 with ⟨q, _⟩ | ⟨q, _⟩ | ⟨q, _⟩ | ⟨_, _, q⟩ | ⟨q, _⟩
      · omega
      · omega
      · omega
      · exact q
      · omega
    by_cases d : v = 59
    · subst d
      refine ⟨nI 1, by simp (disch := omega) only [fX12_isSign, t10, v3, l_0, l_1, l_2, l_3, l_4, l_5, l_6, l_7, l_8, l_9, l_10, l_11, l_12, l_13, l_14, l_15, l_16, l_17, l_18, l_19, l_20, l_21, l_22, l_23, l_24, l_25, l_30, l_31, l_32, l_40, l_48, l_54, l_57, l_59, l_60, l_61, l_62, l_63, l_65, l_66, l_72, l_82, l_92, l_93, l_94, l_97, l_99, l_100, l_101, l_102, l_103, l_104, l_105, l_107, l_108, l_109, l_110, l_111, l_112, l_114, l_115, l_116, l_117, l_119, l_121, l_122, l_136, l_200, l_255, l_300, l_364, l_900, l_1000, l_1456, l_1458, l_1459, l_1460, l_1462, l_1471, l_1504, l_1510, l_1522, l_1550, l_2971, l_9999, l_10000, l_10979, l_65536, l_m1, nI_add, pk_mul, q_sub, q_ltT, q_ltF, q_leT, q_leF, q_eqT, q_eqF, q_inT, q_inF, nI_clamp, q_mlt, q_mle, q_mne, q_mne2, q_mnlt, q_mnle, Option.bind_some, if_true, if_false, reduceIte, ite_not, not_true_eq_false, not_false_eq_true, q_z1, Nat.reduceEqDiff], Or.inl ?_⟩
      obtain ⟨R', M', a', e', k', wn', q1, q2, q3, q4, q5, q6⟩ := rd_adv h
      refine ⟨R', M', a', e', k', wn', ?_, ?_, q3, q4, t11 (by omega), q5, q6⟩
      · simp (disch := omega) only [fX4_passSemicolonT, t9, v2, q1, l_0, l_1, l_2, l_3, l_4, l_5, l_6, l_7, l_8, l_9, l_10, l_11, l_12, l_13, l_14, l_15, l_16, l_17, l_18, l_19, l_20, l_21, l_22, l_23, l_24, l_25, l_30, l_31, l_32, l_40, l_48, l_54, l_57, l_59, l_60, l_61, l_62, l_63, l_65, l_66, l_72, l_82, l_92, l_93, l_94, l_97, l_99, l_100, l_101, l_102, l_103, l_104, l_105, l_107, l_108, l_109, l_110, l_111, l_112, l_114, l_115, l_116, l_117, l_119, l_121, l_122, l_136, l_200, l_255, l_300, l_364, l_900, l_1000, l_1456, l_1458, l_1459, l_1460, l_1462, l_1471, l_1504, l_1510, l_1522, l_1550, l_2971, l_9999, l_10000, l_10979, l_65536, l_m1, nI_add, pk_mul, q_sub, q_ltT, q_ltF, q_leT, q_leF, q_eqT, q_eqF, q_inT, q_inF, nI_clamp, q_mlt, q_mle, q_mne, q_mne2, q_mnlt, q_mnle, Option.bind_some, if_true, if_false, reduceIte, ite_not, not_true_eq_false, not_false_eq_true, q_z1, Nat.reduceEqDiff]
      · rw [k_must1 e4, q2]
    · refine ⟨nI 0, by simp (disch := omega) only [fX12_isSign, t10, v3, l_0, l_1, l_2, l_3, l_4, l_5, l_6, l_7, l_8, l_9, l_10, l_11, l_12, l_13, l_14, l_15, l_16, l_17, l_18, l_19, l_20, l_21, l_22, l_23, l_24, l_25, l_30, l_31, l_32, l_40, l_48, l_54, l_57, l_59, l_60, l_61, l_62, l_63, l_65, l_66, l_72, l_82, l_92, l_93, l_94, l_97, l_99, l_100, l_101, l_102, l_103, l_104, l_105, l_107, l_108, l_109, l_110, l_111, l_112, l_114, l_115, l_116, l_117, l_119, l_121, l_122, l_136, l_200, l_255, l_300, l_364, l_900, l_1000, l_1456, l_1458, l_1459, l_1460, l_1462, l_1471, l_1504, l_1510, l_1522, l_1550, l_2971, l_9999, l_10000, l_10979, l_65536, l_m1, nI_add, pk_mul, q_sub, q_ltT, q_ltF, q_leT, q_leF, q_eqT, q_eqF, q_inT, q_inF, nI_clamp, q_mlt, q_mle, q_mne, q_mne2, q_mnlt, q_mnle, Option.bind_some, if_true, if_false, reduceIte, ite_not, not_true_eq_false, not_false_eq_true, q_z1, Nat.reduceEqDiff], Or.inr ?_⟩
      obtain ⟨R', M', q1, q2, q3, q4, q5⟩ := rd_amiss h
      refine ⟨R', M', ?_, ?_, q3, q4, q5⟩
      · simp (disch := omega) only [fX4_passSemicolonT, fX4_passSemicolonT_17, t9, v2, q1, q_z0, l_0, l_1, l_2, l_3, l_4, l_5, l_6, l_7, l_8, l_9, l_10, l_11, l_12, l_13, l_14, l_15, l_16, l_17, l_18, l_19, l_20, l_21, l_22, l_23, l_24, l_25, l_30, l_31, l_32, l_40, l_48, l_54, l_57, l_59, l_60, l_61, l_62, l_63, l_65, l_66, l_72, l_82, l_92, l_93, l_94, l_97, l_99, l_100, l_101, l_102, l_103, l_104, l_105, l_107, l_108, l_109, l_110, l_111, l_112, l_114, l_115, l_116, l_117, l_119, l_121, l_122, l_136, l_200, l_255, l_300, l_364, l_900, l_1000, l_1456, l_1458, l_1459, l_1460, l_1462, l_1471, l_1504, l_1510, l_1522, l_1550, l_2971, l_9999, l_10000, l_10979, l_65536, l_m1, nI_add, pk_mul, q_sub, q_ltT, q_ltF, q_leT, q_leF, q_eqT, q_eqF, q_inT, q_inF, nI_clamp, q_mlt, q_mle, q_mne, q_mne2, q_mnlt, q_mnle, Option.bind_some, if_true, if_false, reduceIte, ite_not, not_true_eq_false, not_false_eq_true, q_z1, Nat.reduceEqDiff]
      · rw [k_must0 e4, q2]
  · have c' : (nI k = nI 3) = False := q_eqF c (by omega) (by omega)
    refine ⟨nI 0, by simp only [fX12_isSign, t10, c', l_0, l_1, l_2, l_3, l_4, l_5, l_6, l_7, l_8, l_9, l_10, l_11, l_12, l_13, l_14, l_15, l_16, l_17, l_18, l_19, l_20, l_21, l_22, l_23, l_24, l_25, l_30, l_31, l_32, l_40, l_48, l_54, l_57, l_59, l_60, l_61, l_62, l_63, l_65, l_66, l_72, l_82, l_92, l_93, l_94, l_97, l_99, l_100, l_101, l_102, l_103, l_104, l_105, l_107, l_108, l_109, l_110, l_111, l_112, l_114, l_115, l_116, l_117, l_119, l_121, l_122, l_136, l_200, l_255, l_300, l_364, l_900, l_1000, l_1456, l_1458, l_1459, l_1460, l_1462, l_1471, l_1504, l_1510, l_1522, l_1550, l_2971, l_9999, l_10000, l_10979, l_65536, l_m1, if_false], Or.inr ?_⟩
    obtain ⟨R', M', q1, q2, q3, q4, q5⟩ := rd_amiss h
    refine ⟨R', M', ?_, ?_, q3, q4, q5⟩
    · simp only [fX4_passSemicolonT, fX4_passSemicolonT_17, t9, c', q1, q_z0, l_0, l_1, l_2, l_3, l_4, l_5, l_6, l_7, l_8, l_9, l_10, l_11, l_12, l_13, l_14, l_15, l_16, l_17, l_18, l_19, l_20, l_21, l_22, l_23, l_24, l_25, l_30, l_31, l_32, l_40, l_48, l_54, l_57, l_59, l_60, l_61, l_62, l_63, l_65, l_66, l_72, l_82, l_92, l_93, l_94, l_97, l_99, l_100, l_101, l_102, l_103, l_104, l_105, l_107, l_108, l_109, l_110, l_111, l_112, l_114, l_115, l_116, l_117, l_119, l_121, l_122, l_136, l_200, l_255, l_300, l_364, l_900, l_1000, l_1456, l_1458, l_1459, l_1460, l_1462, l_1471, l_1504, l_1510, l_1522, l_1550, l_2971, l_9999, l_10000, l_10979, l_65536, l_m1, if_false, if_true, Option.bind_some]
    · rw [k_must0 e4, q2]
/-- whether a name stands -/
theorem rd_name (h : rd B R M g n a e k wn) : ∃ b, fX4_isNameT R = some (bi b) ∧ fX12_isName M = some (bi b) ∧ (b = true → k = 1 ∧ wn = 26 ∧ a < e ∧ gl R 8 = gl M 19 ∧ gl R 8 ≠ 0) ∧ (b = false → k = 1 → wn < 26 ∨ 8 < e - a) := by
  obtain ⟨t1, t2, t3, t4, t5, t6, t7, t8, t9, t10, t11, t12⟩ := h.2.2.1
  have k4 : k ≤ 4 := by rcases t12 with q | q | q | q | q <;> omega
  have hw := h.2.2.2.1
  have e3 := h.2.2.2.2.1
  have ek := M_isKept h.2.2.2.2.2.1 hw
  have em := wnI_m hw
  have n9 := h.2.1
  by_cases c : k = 1
  · subst c
    obtain ⟨m18, hn⟩ : gi M 18 = nI (e - a) ∧ (e - a ≤ 8 → gl R 8 = gl M 19 ∧ gl R 8 ≠ 0) := by
      rcases t12 with ⟨q, _⟩ | ⟨_, q1, q2, _⟩ | ⟨q, _⟩ | ⟨q, _⟩ | ⟨q, _⟩
      · omega
      · exact ⟨q1, q2⟩
      · omega
      · omega
      · omega
    have es : nI e - nI a = nI (e - a) := q_sub t7
    by_cases d : wn = 26
    · have em' : (wnI wn = nM) = True := by rw [em]; exact eq_true d
      have dk : decide (wn < 26) = false := decide_eq_false (by omega)
      rw [dk] at ek
      by_cases d2 : e - a ≤ 8
      · refine ⟨true, ?_, ?_, fun _ => ⟨rfl, d, t11 (by omega), hn d2⟩, fun q => (by cases q)⟩
        · simp (disch := omega) only [fX4_isNameT, t9, e3, em', t3, t5, es, bi, b2_1, l_0, l_1, l_2, l_3, l_4, l_5, l_6, l_7, l_8, l_9, l_10, l_11, l_12, l_13, l_14, l_15, l_16, l_17, l_18, l_19, l_20, l_21, l_22, l_23, l_24, l_25, l_30, l_31, l_32, l_40, l_48, l_54, l_57, l_59, l_60, l_61, l_62, l_63, l_65, l_66, l_72, l_82, l_92, l_93, l_94, l_97, l_99, l_100, l_101, l_102, l_103, l_104, l_105, l_107, l_108, l_109, l_110, l_111, l_112, l_114, l_115, l_116, l_117, l_119, l_121, l_122, l_136, l_200, l_255, l_300, l_364, l_900, l_1000, l_1456, l_1458, l_1459, l_1460, l_1462, l_1471, l_1504, l_1510, l_1522, l_1550, l_2971, l_9999, l_10000, l_10979, l_65536, l_m1, nI_add, pk_mul, q_sub, q_ltT, q_ltF, q_leT, q_leF, q_eqT, q_eqF, q_inT, q_inF, nI_clamp, q_mlt, q_mle, q_mne, q_mne2, q_mnlt, q_mnle, Option.bind_some, if_true, if_false, reduceIte, ite_not, not_true_eq_false, not_false_eq_true, q_z1, Nat.reduceEqDiff]
        · simp (disch := omega) only [fX12_isName, t10, m18, ek, bi, b2_0, b2_1, l_0, l_1, l_2, l_3, l_4, l_5, l_6, l_7, l_8, l_9, l_10, l_11, l_12, l_13, l_14, l_15, l_16, l_17, l_18, l_19, l_20, l_21, l_22, l_23, l_24, l_25, l_30, l_31, l_32, l_40, l_48, l_54, l_57, l_59, l_60, l_61, l_62, l_63, l_65, l_66, l_72, l_82, l_92, l_93, l_94, l_97, l_99, l_100, l_101, l_102, l_103, l_104, l_105, l_107, l_108, l_109, l_110, l_111, l_112, l_114, l_115, l_116, l_117, l_119, l_121, l_122, l_136, l_200, l_255, l_300, l_364, l_900, l_1000, l_1456, l_1458, l_1459, l_1460, l_1462, l_1471, l_1504, l_1510, l_1522, l_1550, l_2971, l_9999, l_10000, l_10979, l_65536, l_m1, nI_add, pk_mul, q_sub, q_ltT, q_ltF, q_leT, q_leF, q_eqT, q_eqF, q_inT, q_inF, nI_clamp, q_mlt, q_mle, q_mne, q_mne2, q_mnlt, q_mnle, Option.bind_some, if_true, if_false, reduceIte, ite_not, not_true_eq_false, not_false_eq_true, q_z1, Nat.reduceEqDiff]
      · refine ⟨false, ?_, ?_, fun q => (by cases q), fun _ _ => Or.inr (by omega)⟩
        · simp (disch := omega) only [fX4_isNameT, t9, e3, em', t3, t5, es, bi, b2_0, l_0, l_1, l_2, l_3, l_4, l_5, l_6, l_7, l_8, l_9, l_10, l_11, l_12, l_13, l_14, l_15, l_16, l_17, l_18, l_19, l_20, l_21, l_22, l_23, l_24, l_25, l_30, l_31, l_32, l_40, l_48, l_54, l_57, l_59, l_60, l_61, l_62, l_63, l_65, l_66, l_72, l_82, l_92, l_93, l_94, l_97, l_99, l_100, l_101, l_102, l_103, l_104, l_105, l_107, l_108, l_109, l_110, l_111, l_112, l_114, l_115, l_116, l_117, l_119, l_121, l_122, l_136, l_200, l_255, l_300, l_364, l_900, l_1000, l_1456, l_1458, l_1459, l_1460, l_1462, l_1471, l_1504, l_1510, l_1522, l_1550, l_2971, l_9999, l_10000, l_10979, l_65536, l_m1, nI_add, pk_mul, q_sub, q_ltT, q_ltF, q_leT, q_leF, q_eqT, q_eqF, q_inT, q_inF, nI_clamp, q_mlt, q_mle, q_mne, q_mne2, q_mnlt, q_mnle, Option.bind_some, if_true, if_false, reduceIte, ite_not, not_true_eq_false, not_false_eq_true, q_z1, Nat.reduceEqDiff]
        · simp (disch := omega) only [fX12_isName, t10, m18, bi, b2_0, l_0, l_1, l_2, l_3, l_4, l_5, l_6, l_7, l_8, l_9, l_10, l_11, l_12, l_13, l_14, l_15, l_16, l_17, l_18, l_19, l_20, l_21, l_22, l_23, l_24, l_25, l_30, l_31, l_32, l_40, l_48, l_54, l_57, l_59, l_60, l_61, l_62, l_63, l_65, l_66, l_72, l_82, l_92, l_93, l_94, l_97, l_99, l_100, l_101, l_102, l_103, l_104, l_105, l_107, l_108, l_109, l_110, l_111, l_112, l_114, l_115, l_116, l_117, l_119, l_121, l_122, l_136, l_200, l_255, l_300, l_364, l_900, l_1000, l_1456, l_1458, l_1459, l_1460, l_1462, l_1471, l_1504, l_1510, l_1522, l_1550, l_2971, l_9999, l_10000, l_10979, l_65536, l_m1, nI_add, pk_mul, q_sub, q_ltT, q_ltF, q_leT, q_leF, q_eqT, q_eqF, q_inT, q_inF, nI_clamp, q_mlt, q_mle, q_mne, q_mne2, q_mnlt, q_mnle, Option.bind_some, if_true, if_false, reduceIte, ite_not, not_true_eq_false, not_false_eq_true, q_z1, Nat.reduceEqDiff]
    · have em' : (wnI wn = nM) = False := by rw [em]; exact eq_false d
      have dk : decide (wn < 26) = true := decide_eq_true (by omega)
      rw [dk] at ek
      refine ⟨false, ?_, ?_, fun q => (by cases q), fun _ _ => Or.inl (by omega)⟩
      · simp (disch := omega) only [fX4_isNameT, t9, e3, em', bi, b2_0, l_0, l_1, l_2, l_3, l_4, l_5, l_6, l_7, l_8, l_9, l_10, l_11, l_12, l_13, l_14, l_15, l_16, l_17, l_18, l_19, l_20, l_21, l_22, l_23, l_24, l_25, l_30, l_31, l_32, l_40, l_48, l_54, l_57, l_59, l_60, l_61, l_62, l_63, l_65, l_66, l_72, l_82, l_92, l_93, l_94, l_97, l_99, l_100, l_101, l_102, l_103, l_104, l_105, l_107, l_108, l_109, l_110, l_111, l_112, l_114, l_115, l_116, l_117, l_119, l_121, l_122, l_136, l_200, l_255, l_300, l_364, l_900, l_1000, l_1456, l_1458, l_1459, l_1460, l_1462, l_1471, l_1504, l_1510, l_1522, l_1550, l_2971, l_9999, l_10000, l_10979, l_65536, l_m1, nI_add, pk_mul, q_sub, q_ltT, q_ltF, q_leT, q_leF, q_eqT, q_eqF, q_inT, q_inF, nI_clamp, q_mlt, q_mle, q_mne, q_mne2, q_mnlt, q_mnle, Option.bind_some, if_true, if_false, reduceIte, ite_not, not_true_eq_false, not_false_eq_true, q_z1, Nat.reduceEqDiff]
      · by_cases d2 : e - a ≤ 8
        · simp (disch := omega) only [fX12_isName, t10, m18, ek, bi, b2_0, b2_1, l_0, l_1, l_2, l_3, l_4, l_5, l_6, l_7, l_8, l_9, l_10, l_11, l_12, l_13, l_14, l_15, l_16, l_17, l_18, l_19, l_20, l_21, l_22, l_23, l_24, l_25, l_30, l_31, l_32, l_40, l_48, l_54, l_57, l_59, l_60, l_61, l_62, l_63, l_65, l_66, l_72, l_82, l_92, l_93, l_94, l_97, l_99, l_100, l_101, l_102, l_103, l_104, l_105, l_107, l_108, l_109, l_110, l_111, l_112, l_114, l_115, l_116, l_117, l_119, l_121, l_122, l_136, l_200, l_255, l_300, l_364, l_900, l_1000, l_1456, l_1458, l_1459, l_1460, l_1462, l_1471, l_1504, l_1510, l_1522, l_1550, l_2971, l_9999, l_10000, l_10979, l_65536, l_m1, nI_add, pk_mul, q_sub, q_ltT, q_ltF, q_leT, q_leF, q_eqT, q_eqF, q_inT, q_inF, nI_clamp, q_mlt, q_mle, q_mne, q_mne2, q_mnlt, q_mnle, Option.bind_some, if_true, if_false, reduceIte, ite_not, not_true_eq_false, not_false_eq_true, q_z1, Nat.reduceEqDiff]
        · simp (disch := omega) only [fX12_isName, t10, m18, bi, b2_0, l_0, l_1, l_2, l_3, l_4, l_5, l_6, l_7, l_8, l_9, l_10, l_11, l_12, l_13, l_14, l_15, l_16, l_17, l_18, l_19, l_20, l_21, l_22, l_23, l_24, l_25, l_30, l_31, l_32, l_40, l_48, l_54, l_57, l_59, l_60, l_61, l_62, l_63, l_65, l_66, l_72, l_82, l_92, l_93, l_94, l_97, l_99, l_100, l_101, l_102, l_103, l_104, l_105, l_107, l_108, l_109, l_110, l_111, l_112, l_114, l_115, l_116, l_117, l_119, l_121, l_122, l_136, l_200, l_255, l_300, l_364, l_900, l_1000, l_1456, l_1458, l_1459, l_1460, l_1462, l_1471, l_1504, l_1510, l_1522, l_1550, l_2971, l_9999, l_10000, l_10979, l_65536, l_m1, nI_add, pk_mul, q_sub, q_ltT, q_ltF, q_leT, q_leF, q_eqT, q_eqF, q_inT, q_inF, nI_clamp, q_mlt, q_mle, q_mne, q_mne2, q_mnlt, q_mnle, Option.bind_some, if_true, if_false, reduceIte, ite_not, not_true_eq_false, not_false_eq_true, q_z1, Nat.reduceEqDiff]
  · have c' : (nI k = nI 1) = False := q_eqF c (by omega) (by omega)
    refine ⟨false, ?_, ?_, fun q => (by cases q), fun _ q => absurd q c⟩
    · simp only [fX4_isNameT, t9, c', bi, b2_0, l_0, l_1, l_2, l_3, l_4, l_5, l_6, l_7, l_8, l_9, l_10, l_11, l_12, l_13, l_14, l_15, l_16, l_17, l_18, l_19, l_20, l_21, l_22, l_23, l_24, l_25, l_30, l_31, l_32, l_40, l_48, l_54, l_57, l_59, l_60, l_61, l_62, l_63, l_65, l_66, l_72, l_82, l_92, l_93, l_94, l_97, l_99, l_100, l_101, l_102, l_103, l_104, l_105, l_107, l_108, l_109, l_110, l_111, l_112, l_114, l_115, l_116, l_117, l_119, l_121, l_122, l_136, l_200, l_255, l_300, l_364, l_900, l_1000, l_1456, l_1458, l_1459, l_1460, l_1462, l_1471, l_1504, l_1510, l_1522, l_1550, l_2971, l_9999, l_10000, l_10979, l_65536, l_m1, if_false]
    · simp only [fX12_isName, t10, c', bi, b2_0, l_0, l_1, l_2, l_3, l_4, l_5, l_6, l_7, l_8, l_9, l_10, l_11, l_12, l_13, l_14, l_15, l_16, l_17, l_18, l_19, l_20, l_21, l_22, l_23, l_24, l_25, l_30, l_31, l_32, l_40, l_48, l_54, l_57, l_59, l_60, l_61, l_62, l_63, l_65, l_66, l_72, l_82, l_92, l_93, l_94, l_97, l_99, l_100, l_101, l_102, l_103, l_104, l_105, l_107, l_108, l_109, l_110, l_111, l_112, l_114, l_115, l_116, l_117, l_119, l_121, l_122, l_136, l_200, l_255, l_300, l_364, l_900, l_1000, l_1456, l_1458, l_1459, l_1460, l_1462, l_1471, l_1504, l_1510, l_1522, l_1550, l_2971, l_9999, l_10000, l_10979, l_65536, l_m1, if_false]
end Q77
