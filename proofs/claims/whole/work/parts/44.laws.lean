/-! laws of drift: which fit, how many -/
theorem lgc_lt (x y : Int64) : (lg_cmp x y < nI 0) ↔ x.toInt < y.toInt := by
  unfold lg_cmp
  have e1 : (x > y) ↔ y.toInt < x.toInt := Int64.lt_iff_toInt_lt
  have e3 : (x = y) ↔ x.toInt = y.toInt := Int64.toInt_inj.symm
  by_cases c : y.toInt < x.toInt
  · rw [if_pos (e1.mpr c)]
    exact ⟨fun h => absurd h (by decide), fun h => by omega⟩
  · rw [if_neg (fun h => c (e1.mp h))]
    by_cases d : x.toInt = y.toInt
    · rw [if_pos (e3.mpr d)]
      exact ⟨fun h => absurd h (by decide), fun h => by omega⟩
    · rw [if_neg (fun h => d (e3.mp h))]
      exact ⟨fun _ => by omega, fun _ => by decide⟩
theorem lgc_gt (x y : Int64) : (nI 0 < lg_cmp x y) ↔ y.toInt < x.toInt := by
  unfold lg_cmp
  have e1 : (x > y) ↔ y.toInt < x.toInt := Int64.lt_iff_toInt_lt
  by_cases c : y.toInt < x.toInt
  · rw [if_pos (e1.mpr c)]
    exact ⟨fun _ => c, fun _ => by decide⟩
  · rw [if_neg (fun h => c (e1.mp h))]
    split
    · exact ⟨fun h => absurd h (by decide), fun h => absurd h c⟩
    · exact ⟨fun h => absurd h (by decide), fun h => absurd h c⟩
theorem lgc_le (x y : Int64) : (lg_cmp x y ≤ nI 0) ↔ x.toInt ≤ y.toInt := by
  unfold lg_cmp
  have e1 : (x > y) ↔ y.toInt < x.toInt := Int64.lt_iff_toInt_lt
  by_cases c : y.toInt < x.toInt
  · rw [if_pos (e1.mpr c)]
    exact ⟨fun h => absurd h (by decide), fun h => by omega⟩
  · rw [if_neg (fun h => c (e1.mp h))]
    split
    · exact ⟨fun _ => by omega, fun _ => by decide⟩
    · exact ⟨fun _ => by omega, fun _ => by decide⟩
theorem lgc_ge (x y : Int64) : (nI 0 ≤ lg_cmp x y) ↔ y.toInt ≤ x.toInt := by
  have h := lgc_lt x y
  constructor
  · intro a
    by_cases c : x.toInt < y.toInt
    · have := h.mpr c
      rw [Int32.lt_iff_toInt_lt] at this
      rw [Int32.le_iff_toInt_le] at a
      omega
    · omega
  · intro a
    rw [Int32.le_iff_toInt_le]
    by_cases c : lg_cmp x y < nI 0
    · have := h.mp c; omega
    · rw [Int32.lt_iff_toInt_lt] at c; omega
theorem lgc_eq (x y : Int64) : (lg_cmp x y = nI 0) ↔ x = y := by
  unfold lg_cmp
  by_cases c : x > y
  · rw [if_pos c]
    refine ⟨fun h => absurd h (by decide), fun h => ?_⟩
    subst h
    exact absurd c (by rw [gt_iff_lt, Int64.lt_iff_toInt_lt]; omega)
  · rw [if_neg c]
    by_cases d : x = y
    · rw [if_pos d]; exact ⟨fun _ => d, fun _ => rfl⟩
    · rw [if_neg d]; exact ⟨fun h => absurd h (by decide), fun h => absurd h d⟩
def lnl (law h : Nat) : Nat := h - (law / 8 * h + law % 8) / 4
theorem lands_e {law h : Nat} (hl : law < 32) (hh : h < 10) : jmax (nI 0) (nI h - (nI law / nI 8 * nI h + (nI law - nI law / nI 8 * nI 8)) / nI 4) = nI (lnl law h) := by
  have h1 : law / 8 * h ≤ 3 * 9 := Nat.mul_le_mul (by omega) (by omega)
  rw [pk_rem (by omega) (by omega) (by omega), pk_div (by omega) (by omega) (by omega), pk_mul, nI_add, pk_div (by omega) (by omega) (by omega), q_max0 (by omega) (by omega)]
  rfl
theorem C_lands {law h : Nat} (hl : law < 32) (hh : h < 10) : fX11_landsBy (nI law) (nI h) = some (nI (lnl law h)) := congrArg some (lands_e hl hh)
theorem N_lands {law h : Nat} (hl : law < 32) (hh : h < 10) : fX12_lands (nI law) (nI h) = some (nI (lnl law h)) := congrArg some (lands_e hl hh)
/-- sets of laws, with 32 bits -/
theorem q_s31b (n : Nat) (hn : n < 32) : ((nI n &&& nI 31).toBitVec.smod 32).toNat = n := q_s31 n hn
theorem q_bit32 {a k : Nat} (hk : k < 32) : (nI a >>> (nI k &&& nI 31)) &&& nI 1 = nI (b2 (a.testBit k)) := by
  apply Int32.toBitVec_inj.1
  apply BitVec.eq_of_getLsbD_eq
  intro i hi
  rw [Int32.toBitVec_and, BitVec.getLsbD_and, Int32.toBitVec_shiftRight]
  show (((nI a).toBitVec.sshiftRight ((nI k &&& nI 31).toBitVec.smod 32).toNat).getLsbD i && (BitVec.ofNat 32 1).getLsbD i) = (BitVec.ofNat 32 (b2 (a.testBit k))).getLsbD i
  rw [q_s31 k hk, BitVec.getLsbD_sshiftRight]
  by_cases c : i = 0
  · subst c
    have e : (nI a).toBitVec.getLsbD k = a.testBit k := by
      show (BitVec.ofNat 32 a).getLsbD k = _
      rw [BitVec.getLsbD_ofNat]; simp [hk]
    simp only [Nat.add_zero, hk, if_true, e]
    cases a.testBit k <;> decide
  · have e1 : (BitVec.ofNat 32 1).getLsbD i = false := by
      rw [BitVec.getLsbD_ofNat]
      have : Nat.testBit 1 i = false := by
        rw [Nat.testBit_lt_two_pow]
        exact Nat.one_lt_two_pow c
      simp [this]
    have e2 : (BitVec.ofNat 32 (b2 (a.testBit k))).getLsbD i = false := by
      cases a.testBit k
      · show (BitVec.ofNat 32 0).getLsbD i = false; simp
      · exact e1
    rw [e1, e2]; simp
theorem N_has32 {x k : Nat} (hk : k < 32) : fX12_has (nI x) (nI k) = some (bi (x.testBit k)) := by
  unfold fX12_has
  rw [show (31 : Int32) = nI 31 from rfl, show (1 : Int32) = nI 1 from rfl, q_bit32 hk]
  cases x.testBit k <;> rfl
theorem q_one32 {k : Nat} (hk : k < 32) : nI 1 <<< (nI k &&& nI 31) = nI (2 ^ k) := by
  have h := pk_shlN (n := 1) (nI k &&& nI 31) k (q_s31 k hk) (by have := Nat.pow_lt_pow_right (a := 2) (by decide) hk; omega)
  rwa [Nat.one_mul] at h
/-- what is told of landings, one by one -/
def lok (v : Nat → Int64) (i : Nat) : Prop := ∃ a b, 1 ≤ a ∧ a ≤ 9 ∧ b ≤ 9 ∧ v (2 * i) = lN a ∧ v (2 * i + 1) = lN b
def lbad (v : Nat → Int64) (i : Nat) : Bool := !(decide (1 ≤ (v (2 * i)).toInt ∧ (v (2 * i)).toInt ≤ 9) && decide (0 ≤ (v (2 * i + 1)).toInt ∧ (v (2 * i + 1)).toInt ≤ 9))
theorem lN_of {x : Int64} {n : Nat} (h0 : 0 ≤ x.toInt) (h1 : x.toInt ≤ n) : ∃ a, a ≤ n ∧ (a : Int) = x.toInt ∧ x = lN a := by
  have hx : ¬ x < 0 := by rw [Int64.lt_iff_toInt_lt]; have : (0 : Int64).toInt = 0 := by decide
                          omega
  obtain ⟨a, ha, rfl⟩ := pk_lOf hx
  rw [pk_lT ha] at h1
  exact ⟨a, by omega, (pk_lT ha).symm, rfl⟩
theorem lok_of {v : Nat → Int64} {i : Nat} (h : lbad v i = false) : lok v i := by
  unfold lbad at h
  simp at h
  obtain ⟨⟨h1, h2⟩, h3, h4⟩ := h
  obtain ⟨a, a1, a2, a3⟩ := lN_of (n := 9) (by omega) h2
  obtain ⟨b, b1, b2, b3⟩ := lN_of (n := 9) h3 h4
  exact ⟨a, b, by omega, a1, b1, a3, b3⟩
theorem lp_any5 (L : Nat → Int32 → Option Int32) (m : Nat) (p : Nat → Bool) (c d : Int32) (hx : ∀ n, L (n + 1) (nI m) = some c) (hs : ∀ n k, k < m → L (n + 1) (nI k) = if p k = true then some d else L n (nI (k + 1))) :
    ∀ fuel, m < fuel → L fuel (nI 0) = some (if anyb p m then d else c) := by
  intro fuel hf
  obtain ⟨r, e, hr⟩ := lp_up (σ := Unit) (fun n i _ => L n i) m (fun k _ => ∀ i, i < k → p i = false) (fun r => r = if anyb p m then d else c)
    (fun n _ hI => ⟨_, hx n, by rw [anyb_no hI]; rfl⟩)
    (fun n k _ hk hI => by
      cases c' : p k
      · left
        refine ⟨(), fun i hi => ?_, by show L (n + 1) (nI k) = L n (nI (k + 1)); rw [hs n k hk, c']; simp⟩
        by_cases e : i = k
        · subst e; exact c'
        · exact hI i (by omega)
      · right
        refine ⟨d, by show L (n + 1) (nI k) = _; rw [hs n k hk, c']; simp, ?_⟩
        rw [(anyb_iff p m).mpr ⟨k, hk, c'⟩]; rfl) 0 () fuel (by omega) (fun i hi => by omega) (by omega)
  rw [← hr]; exact e
theorem C_lawS0 {SC SY0 SY1 SY2 SY3 : ms_T} {n : Nat} (hn : n ≤ 20) : fX11_lawStatus_52 SC SY0 SY1 SY2 SY3 FU (nI n) (nI 0) = some (if anyb (lbad (rl SY0 1)) n then nI 5 else nI 0) := by
  refine lp_any5 (fun f k => fX11_lawStatus_52 SC SY0 SY1 SY2 SY3 f (nI n) k) n (lbad (rl SY0 1)) (nI 0) (nI 5) ?_ ?_ FU (FU_big (by omega))
  · intro f
    simp (disch := omega) only [fX11_lawStatus_52, l_0, l_1, l_2, l_3, l_4, l_5, l_6, l_7, l_8, l_9, l_10, l_11, l_12, l_13, l_14, l_15, l_16, l_17, l_18, l_19, l_20, l_21, l_22, l_23, l_24, l_25, l_30, l_31, l_32, l_40, l_48, l_54, l_57, l_59, l_60, l_61, l_62, l_63, l_65, l_66, l_72, l_82, l_92, l_93, l_94, l_97, l_99, l_100, l_101, l_102, l_103, l_104, l_105, l_107, l_108, l_109, l_110, l_111, l_112, l_114, l_115, l_116, l_117, l_119, l_121, l_122, l_136, l_200, l_255, l_300, l_364, l_900, l_1000, l_1456, l_1458, l_1459, l_1460, l_1462, l_1471, l_1504, l_1510, l_1522, l_1550, l_2971, l_9999, l_10000, l_10979, l_65536, l_m1, nI_add, pk_mul, q_sub, q_ltT, q_ltF, q_leT, q_leF, q_eqT, q_eqF, q_inT, q_inF, nI_clamp, q_mlt, q_mle, q_mne, q_mne2, q_mnlt, q_mnle, Option.bind_some, if_true, if_false, reduceIte, ite_not, not_true_eq_false, not_false_eq_true, q_z1, Nat.reduceEqDiff]
  · intro f k hk
    have a1 := lgc_lt (rl SY0 1 (2 * k)) 1
    have a2 := lgc_gt (rl SY0 1 (2 * k)) 9
    have a3 := lgc_lt (rl SY0 1 (2 * k + 1)) 0
    have a4 := lgc_le (rl SY0 1 (2 * k + 1)) 9
    have c1 : (1 : Int64).toInt = 1 := by decide
    have c9 : (9 : Int64).toInt = 9 := by decide
    have c0 : (0 : Int64).toInt = 0 := by decide
    rw [c1] at a1; rw [c9] at a2 a4; rw [c0] at a3
    simp (disch := omega) only [fX11_lawStatus_52, l_0, l_1, l_2, l_3, l_4, l_5, l_6, l_7, l_8, l_9, l_10, l_11, l_12, l_13, l_14, l_15, l_16, l_17, l_18, l_19, l_20, l_21, l_22, l_23, l_24, l_25, l_30, l_31, l_32, l_40, l_48, l_54, l_57, l_59, l_60, l_61, l_62, l_63, l_65, l_66, l_72, l_82, l_92, l_93, l_94, l_97, l_99, l_100, l_101, l_102, l_103, l_104, l_105, l_107, l_108, l_109, l_110, l_111, l_112, l_114, l_115, l_116, l_117, l_119, l_121, l_122, l_136, l_200, l_255, l_300, l_364, l_900, l_1000, l_1456, l_1458, l_1459, l_1460, l_1462, l_1471, l_1504, l_1510, l_1522, l_1550, l_2971, l_9999, l_10000, l_10979, l_65536, l_m1, nI_add, pk_mul, q_sub, q_ltT, q_ltF, q_leT, q_leF, q_eqT, q_eqF, q_inT, q_inF, nI_clamp, q_mlt, q_mle, q_mne, q_mne2, q_mnlt, q_mnle, la, Option.bind_some, if_true, if_false, reduceIte, ite_not, not_true_eq_false, not_false_eq_true, q_z1, Nat.reduceEqDiff]
    unfold lbad
    by_cases d1 : (rl SY0 1 (2 * k)).toInt < 1
    · rw [if_pos (a1.mpr d1), if_pos (by simp; omega)]
    · rw [if_neg (fun h => d1 (a1.mp h))]
      by_cases d2 : 9 < (rl SY0 1 (2 * k)).toInt
      · rw [if_pos (a2.mpr d2), if_pos (by simp; omega)]
      · rw [if_neg (fun h => d2 (a2.mp h))]
        by_cases d3 : (rl SY0 1 (2 * k + 1)).toInt < 0
        · rw [if_pos (a3.mpr d3), if_pos (by simp; omega)]
        · rw [if_neg (fun h => d3 (a3.mp h))]
          by_cases d4 : (rl SY0 1 (2 * k + 1)).toInt ≤ 9
          · rw [if_pos (a4.mpr d4), if_neg (by simp; omega)]
          · rw [if_neg (fun h => d4 (a4.mp h)), if_pos (by simp; omega)]
theorem C_lawS1 {SC SY0 SY1 SY2 SY3 : ms_T} {n : Nat} (hn : n ≤ 20) : fX11_lawStatus_52_1 SC SY0 SY1 SY2 SY3 FU (nI n) (nI 0) = some (if anyb (lbad (rl SY1 1)) n then nI 5 else nI 0) := by
  refine lp_any5 (fun f k => fX11_lawStatus_52_1 SC SY0 SY1 SY2 SY3 f (nI n) k) n (lbad (rl SY1 1)) (nI 0) (nI 5) ?_ ?_ FU (FU_big (by omega))
  · intro f
    simp (disch := omega) only [fX11_lawStatus_52_1, l_0, l_1, l_2, l_3, l_4, l_5, l_6, l_7, l_8, l_9, l_10, l_11, l_12, l_13, l_14, l_15, l_16, l_17, l_18, l_19, l_20, l_21, l_22, l_23, l_24, l_25, l_30, l_31, l_32, l_40, l_48, l_54, l_57, l_59, l_60, l_61, l_62, l_63, l_65, l_66, l_72, l_82, l_92, l_93, l_94, l_97, l_99, l_100, l_101, l_102, l_103, l_104, l_105, l_107, l_108, l_109, l_110, l_111, l_112, l_114, l_115, l_116, l_117, l_119, l_121, l_122, l_136, l_200, l_255, l_300, l_364, l_900, l_1000, l_1456, l_1458, l_1459, l_1460, l_1462, l_1471, l_1504, l_1510, l_1522, l_1550, l_2971, l_9999, l_10000, l_10979, l_65536, l_m1, nI_add, pk_mul, q_sub, q_ltT, q_ltF, q_leT, q_leF, q_eqT, q_eqF, q_inT, q_inF, nI_clamp, q_mlt, q_mle, q_mne, q_mne2, q_mnlt, q_mnle, Option.bind_some, if_true, if_false, reduceIte, ite_not, not_true_eq_false, not_false_eq_true, q_z1, Nat.reduceEqDiff]
  · intro f k hk
    have a1 := lgc_lt (rl SY1 1 (2 * k)) 1
    have a2 := lgc_gt (rl SY1 1 (2 * k)) 9
    have a3 := lgc_lt (rl SY1 1 (2 * k + 1)) 0
    have a4 := lgc_le (rl SY1 1 (2 * k + 1)) 9
    have c1 : (1 : Int64).toInt = 1 := by decide
    have c9 : (9 : Int64).toInt = 9 := by decide
    have c0 : (0 : Int64).toInt = 0 := by decide
    rw [c1] at a1; rw [c9] at a2 a4; rw [c0] at a3
    simp (disch := omega) only [fX11_lawStatus_52_1, l_0, l_1, l_2, l_3, l_4, l_5, l_6, l_7, l_8, l_9, l_10, l_11, l_12, l_13, l_14, l_15, l_16, l_17, l_18, l_19, l_20, l_21, l_22, l_23, l_24, l_25, l_30, l_31, l_32, l_40, l_48, l_54, l_57, l_59, l_60, l_61, l_62, l_63, l_65, l_66, l_72, l_82, l_92, l_93, l_94, l_97, l_99, l_100, l_101, l_102, l_103, l_104, l_105, l_107, l_108, l_109, l_110, l_111, l_112, l_114, l_115, l_116, l_117, l_119, l_121, l_122, l_136, l_200, l_255, l_300, l_364, l_900, l_1000, l_1456, l_1458, l_1459, l_1460, l_1462, l_1471, l_1504, l_1510, l_1522, l_1550, l_2971, l_9999, l_10000, l_10979, l_65536, l_m1, nI_add, pk_mul, q_sub, q_ltT, q_ltF, q_leT, q_leF, q_eqT, q_eqF, q_inT, q_inF, nI_clamp, q_mlt, q_mle, q_mne, q_mne2, q_mnlt, q_mnle, la, Option.bind_some, if_true, if_false, reduceIte, ite_not, not_true_eq_false, not_false_eq_true, q_z1, Nat.reduceEqDiff]
    unfold lbad
    by_cases d1 : (rl SY1 1 (2 * k)).toInt < 1
    · rw [if_pos (a1.mpr d1), if_pos (by simp; omega)]
    · rw [if_neg (fun h => d1 (a1.mp h))]
      by_cases d2 : 9 < (rl SY1 1 (2 * k)).toInt
      · rw [if_pos (a2.mpr d2), if_pos (by simp; omega)]
      · rw [if_neg (fun h => d2 (a2.mp h))]
        by_cases d3 : (rl SY1 1 (2 * k + 1)).toInt < 0
        · rw [if_pos (a3.mpr d3), if_pos (by simp; omega)]
        · rw [if_neg (fun h => d3 (a3.mp h))]
          by_cases d4 : (rl SY1 1 (2 * k + 1)).toInt ≤ 9
          · rw [if_pos (a4.mpr d4), if_neg (by simp; omega)]
          · rw [if_neg (fun h => d4 (a4.mp h)), if_pos (by simp; omega)]
theorem C_lawS2 {SC SY0 SY1 SY2 SY3 : ms_T} {n : Nat} (hn : n ≤ 20) : fX11_lawStatus_52_2 SC SY0 SY1 SY2 SY3 FU (nI n) (nI 0) = some (if anyb (lbad (rl SY2 1)) n then nI 5 else nI 0) := by
  refine lp_any5 (fun f k => fX11_lawStatus_52_2 SC SY0 SY1 SY2 SY3 f (nI n) k) n (lbad (rl SY2 1)) (nI 0) (nI 5) ?_ ?_ FU (FU_big (by omega))
  · intro f
    simp (disch := omega) only [fX11_lawStatus_52_2, l_0, l_1, l_2, l_3, l_4, l_5, l_6, l_7, l_8, l_9, l_10, l_11, l_12, l_13, l_14, l_15, l_16, l_17, l_18, l_19, l_20, l_21, l_22, l_23, l_24, l_25, l_30, l_31, l_32, l_40, l_48, l_54, l_57, l_59, l_60, l_61, l_62, l_63, l_65, l_66, l_72, l_82, l_92, l_93, l_94, l_97, l_99, l_100, l_101, l_102, l_103, l_104, l_105, l_107, l_108, l_109, l_110, l_111, l_112, l_114, l_115, l_116, l_117, l_119, l_121, l_122, l_136, l_200, l_255, l_300, l_364, l_900, l_1000, l_1456, l_1458, l_1459, l_1460, l_1462, l_1471, l_1504, l_1510, l_1522, l_1550, l_2971, l_9999, l_10000, l_10979, l_65536, l_m1, nI_add, pk_mul, q_sub, q_ltT, q_ltF, q_leT, q_leF, q_eqT, q_eqF, q_inT, q_inF, nI_clamp, q_mlt, q_mle, q_mne, q_mne2, q_mnlt, q_mnle, Option.bind_some, if_true, if_false, reduceIte, ite_not, not_true_eq_false, not_false_eq_true, q_z1, Nat.reduceEqDiff]
  · intro f k hk
    have a1 := lgc_lt (rl SY2 1 (2 * k)) 1
    have a2 := lgc_gt (rl SY2 1 (2 * k)) 9
    have a3 := lgc_lt (rl SY2 1 (2 * k + 1)) 0
    have a4 := lgc_le (rl SY2 1 (2 * k + 1)) 9
    have c1 : (1 : Int64).toInt = 1 := by decide
    have c9 : (9 : Int64).toInt = 9 := by decide
    have c0 : (0 : Int64).toInt = 0 := by decide
    rw [c1] at a1; rw [c9] at a2 a4; rw [c0] at a3
    simp (disch := omega) only [fX11_lawStatus_52_2, l_0, l_1, l_2, l_3, l_4, l_5, l_6, l_7, l_8, l_9, l_10, l_11, l_12, l_13, l_14, l_15, l_16, l_17, l_18, l_19, l_20, l_21, l_22, l_23, l_24, l_25, l_30, l_31, l_32, l_40, l_48, l_54, l_57, l_59, l_60, l_61, l_62, l_63, l_65, l_66, l_72, l_82, l_92, l_93, l_94, l_97, l_99, l_100, l_101, l_102, l_103, l_104, l_105, l_107, l_108, l_109, l_110, l_111, l_112, l_114, l_115, l_116, l_117, l_119, l_121, l_122, l_136, l_200, l_255, l_300, l_364, l_900, l_1000, l_1456, l_1458, l_1459, l_1460, l_1462, l_1471, l_1504, l_1510, l_1522, l_1550, l_2971, l_9999, l_10000, l_10979, l_65536, l_m1, nI_add, pk_mul, q_sub, q_ltT, q_ltF, q_leT, q_leF, q_eqT, q_eqF, q_inT, q_inF, nI_clamp, q_mlt, q_mle, q_mne, q_mne2, q_mnlt, q_mnle, la, Option.bind_some, if_true, if_false, reduceIte, ite_not, not_true_eq_false, not_false_eq_true, q_z1, Nat.reduceEqDiff]
    unfold lbad
    by_cases d1 : (rl SY2 1 (2 * k)).toInt < 1
    · rw [if_pos (a1.mpr d1), if_pos (by simp; omega)]
    · rw [if_neg (fun h => d1 (a1.mp h))]
      by_cases d2 : 9 < (rl SY2 1 (2 * k)).toInt
      · rw [if_pos (a2.mpr d2), if_pos (by simp; omega)]
      · rw [if_neg (fun h => d2 (a2.mp h))]
        by_cases d3 : (rl SY2 1 (2 * k + 1)).toInt < 0
        · rw [if_pos (a3.mpr d3), if_pos (by simp; omega)]
        · rw [if_neg (fun h => d3 (a3.mp h))]
          by_cases d4 : (rl SY2 1 (2 * k + 1)).toInt ≤ 9
          · rw [if_pos (a4.mpr d4), if_neg (by simp; omega)]
          · rw [if_neg (fun h => d4 (a4.mp h)), if_pos (by simp; omega)]
theorem C_lawS3 {SC SY0 SY1 SY2 SY3 : ms_T} {n : Nat} (hn : n ≤ 20) : fX11_lawStatus_52_3 SC SY0 SY1 SY2 SY3 FU (nI n) (nI 0) = some (if anyb (lbad (rl SY3 1)) n then nI 5 else nI 0) := by
  refine lp_any5 (fun f k => fX11_lawStatus_52_3 SC SY0 SY1 SY2 SY3 f (nI n) k) n (lbad (rl SY3 1)) (nI 0) (nI 5) ?_ ?_ FU (FU_big (by omega))
  · intro f
    simp (disch := omega) only [fX11_lawStatus_52_3, l_0, l_1, l_2, l_3, l_4, l_5, l_6, l_7, l_8, l_9, l_10, l_11, l_12, l_13, l_14, l_15, l_16, l_17, l_18, l_19, l_20, l_21, l_22, l_23, l_24, l_25, l_30, l_31, l_32, l_40, l_48, l_54, l_57, l_59, l_60, l_61, l_62, l_63, l_65, l_66, l_72, l_82, l_92, l_93, l_94, l_97, l_99, l_100, l_101, l_102, l_103, l_104, l_105, l_107, l_108, l_109, l_110, l_111, l_112, l_114, l_115, l_116, l_117, l_119, l_121, l_122, l_136, l_200, l_255, l_300, l_364, l_900, l_1000, l_1456, l_1458, l_1459, l_1460, l_1462, l_1471, l_1504, l_1510, l_1522, l_1550, l_2971, l_9999, l_10000, l_10979, l_65536, l_m1, nI_add, pk_mul, q_sub, q_ltT, q_ltF, q_leT, q_leF, q_eqT, q_eqF, q_inT, q_inF, nI_clamp, q_mlt, q_mle, q_mne, q_mne2, q_mnlt, q_mnle, Option.bind_some, if_true, if_false, reduceIte, ite_not, not_true_eq_false, not_false_eq_true, q_z1, Nat.reduceEqDiff]
  · intro f k hk
    have a1 := lgc_lt (rl SY3 1 (2 * k)) 1
    have a2 := lgc_gt (rl SY3 1 (2 * k)) 9
    have a3 := lgc_lt (rl SY3 1 (2 * k + 1)) 0
    have a4 := lgc_le (rl SY3 1 (2 * k + 1)) 9
    have c1 : (1 : Int64).toInt = 1 := by decide
    have c9 : (9 : Int64).toInt = 9 := by decide
    have c0 : (0 : Int64).toInt = 0 := by decide
    rw [c1] at a1; rw [c9] at a2 a4; rw [c0] at a3
    simp (disch := omega) only [fX11_lawStatus_52_3, l_0, l_1, l_2, l_3, l_4, l_5, l_6, l_7, l_8, l_9, l_10, l_11, l_12, l_13, l_14, l_15, l_16, l_17, l_18, l_19, l_20, l_21, l_22, l_23, l_24, l_25, l_30, l_31, l_32, l_40, l_48, l_54, l_57, l_59, l_60, l_61, l_62, l_63, l_65, l_66, l_72, l_82, l_92, l_93, l_94, l_97, l_99, l_100, l_101, l_102, l_103, l_104, l_105, l_107, l_108, l_109, l_110, l_111, l_112, l_114, l_115, l_116, l_117, l_119, l_121, l_122, l_136, l_200, l_255, l_300, l_364, l_900, l_1000, l_1456, l_1458, l_1459, l_1460, l_1462, l_1471, l_1504, l_1510, l_1522, l_1550, l_2971, l_9999, l_10000, l_10979, l_65536, l_m1, nI_add, pk_mul, q_sub, q_ltT, q_ltF, q_leT, q_leF, q_eqT, q_eqF, q_inT, q_inF, nI_clamp, q_mlt, q_mle, q_mne, q_mne2, q_mnlt, q_mnle, la, Option.bind_some, if_true, if_false, reduceIte, ite_not, not_true_eq_false, not_false_eq_true, q_z1, Nat.reduceEqDiff]
    unfold lbad
    by_cases d1 : (rl SY3 1 (2 * k)).toInt < 1
    · rw [if_pos (a1.mpr d1), if_pos (by simp; omega)]
    · rw [if_neg (fun h => d1 (a1.mp h))]
      by_cases d2 : 9 < (rl SY3 1 (2 * k)).toInt
      · rw [if_pos (a2.mpr d2), if_pos (by simp; omega)]
      · rw [if_neg (fun h => d2 (a2.mp h))]
        by_cases d3 : (rl SY3 1 (2 * k + 1)).toInt < 0
        · rw [if_pos (a3.mpr d3), if_pos (by simp; omega)]
        · rw [if_neg (fun h => d3 (a3.mp h))]
          by_cases d4 : (rl SY3 1 (2 * k + 1)).toInt ≤ 9
          · rw [if_pos (a4.mpr d4), if_neg (by simp; omega)]
          · rw [if_neg (fun h => d4 (a4.mp h)), if_pos (by simp; omega)]
