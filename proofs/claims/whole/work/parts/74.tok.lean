/-! tokens: bytes, words -/
theorem si_self (M : ms_T) (k : Nat) : M = si M k (gi M k) := by
  unfold si
  refine Prod.ext ?_ rfl
  funext b
  show M.1 b = if b = k then M.1 k else M.1 b
  split
  · next c => rw [c]
  · rfl
theorem q_sisi (S : ms_T) (a : Nat) (x y : Int32) : si (si S a x) a y = si S a y := by
  unfold si
  refine Prod.ext ?_ rfl
  funext b
  show (if b = a then y else if b = a then x else S.1 b) = if b = a then y else S.1 b
  split <;> rfl
theorem by_ok {x : Int32} (h : x.toInt8.toInt32 = x) : -128 ≤ x.toInt ∧ x.toInt < 128 := by
  have h1 := Int8.le_toInt x.toInt8
  have h2 := Int8.toInt_lt x.toInt8
  have h3 : x.toInt8.toInt32.toInt = x.toInt8.toInt := Int8.toInt_toInt32 _
  rw [h] at h3
  omega
/-- the text: g i is the byte at i, without sign -/
def tx (B M : ms_T) (g : Nat → Nat) : Prop := ∀ i, i < 900 → g i < 256 ∧ ra M 4 i &&& nI 255 = nI (g i) ∧ (g i < 128 → ra B 0 i = nI (g i)) ∧ (128 ≤ g i → ra B 0 i < nI 0)
theorem nI_255 (x : Int32) : x &&& nI 255 = nI (x.toBitVec.toNat % 256) := by
  have h := q_and x.toBitVec.toNat 255
  rw [nI_bv, Nat.and_two_pow_sub_one_eq_mod x.toBitVec.toNat 8] at h
  exact h
theorem tx_ex {B M : ms_T} (h : ∀ i, i < 900 → ra B 0 i = ra M 4 i ∧ (ra B 0 i).toInt8.toInt32 = ra B 0 i) : ∃ g, tx B M g := by
  refine ⟨fun i => (ra M 4 i).toBitVec.toNat % 256, fun i hi => ?_⟩
  obtain ⟨h1, h2⟩ := h i hi
  have hb := by_ok h2
  rw [h1] at hb
  show (ra M 4 i).toBitVec.toNat % 256 < 256 ∧ ra M 4 i &&& nI 255 = nI ((ra M 4 i).toBitVec.toNat % 256) ∧ ((ra M 4 i).toBitVec.toNat % 256 < 128 → ra B 0 i = nI ((ra M 4 i).toBitVec.toNat % 256)) ∧ (128 ≤ (ra M 4 i).toBitVec.toNat % 256 → ra B 0 i < nI 0)
  rw [h1]
  generalize ra M 4 i = x at *
  have e : x.toInt = if 2 * x.toBitVec.toNat < 2 ^ 32 then (x.toBitVec.toNat : Int) else (x.toBitVec.toNat : Int) - (2 ^ 32 : Nat) := BitVec.toInt_eq_toNat_cond x.toBitVec
  have lt : x.toBitVec.toNat < 2 ^ 32 := x.toBitVec.isLt
  refine ⟨Nat.mod_lt _ (by omega), nI_255 x, fun c => ?_, fun c => ?_⟩
  · split at e
    · have : x.toBitVec.toNat % 256 = x.toBitVec.toNat := Nat.mod_eq_of_lt (by omega)
      rw [this, nI_bv]
    · exfalso; omega
  · rw [Int32.lt_iff_toInt_lt, nI_toInt (by omega)]
    split at e
    · exfalso; omega
    · omega
/-! the words that are no names -/
def wlen : List Nat := [4, 5, 5, 5, 5, 2, 7, 5, 6, 4, 2, 5, 4, 3, 4, 4, 4, 3, 3, 4, 6, 5, 4, 4, 3, 4]
def wl (j : Nat) : Nat := wlen.getD j 0
def wo : Nat → Nat
  | 0 => 0
  | j + 1 => wo j + wl j + 1
def wcn (o : Nat) : Nat := (wordsB.getD o 0).toBitVec.toNat
theorem w_lt : ∀ j, j < 26 → wo j + wl j < 136 ∧ wl j ≤ 7 ∧ wcn (wo j + wl j) = 32 := by decide +kernel
theorem w_let : ∀ j, j < 26 → ∀ i, i < wl j → 97 ≤ wcn (wo j + i) ∧ wcn (wo j + i) ≤ 122 := by decide +kernel
theorem w_26 : wo 26 = 136 := by decide +kernel
theorem w_ch {o : Nat} (ho : o < 136) : wch (nI o) = nI (wcn o) := by
  unfold wch wcn
  rw [nI_clamp (by omega), nI_bv]
/-- a row of letters as a number -/
def fol (h : Nat → Nat) : Nat → Nat
  | 0 => 0
  | n + 1 => fol h n * 32 + (h n - 96)
theorem fol_s (h : Nat → Nat) (n : Nat) : fol h (n + 1) = fol h n * 32 + (h n - 96) := rfl
theorem fol_inj {h k : Nat → Nat} : ∀ {n m : Nat}, (∀ i, i < n → 97 ≤ h i ∧ h i ≤ 122) → (∀ i, i < m → 97 ≤ k i ∧ k i ≤ 122) → fol h n = fol k m → n = m ∧ ∀ i, i < n → h i = k i
  | 0, 0, _, _, _ => ⟨rfl, fun i hi => absurd hi (by omega)⟩
  | 0, m + 1, _, hk, e => by
    have := hk m (by omega)
    rw [fol_s] at e
    have e : 0 = fol k m * 32 + (k m - 96) := e
    omega
  | n + 1, 0, hh, _, e => by
    have := hh n (by omega)
    rw [fol_s] at e
    have e : fol h n * 32 + (h n - 96) = 0 := e
    omega
  | n + 1, m + 1, hh, hk, e => by
    have a1 := hh n (by omega)
    have a2 := hk m (by omega)
    rw [fol_s, fol_s] at e
    have e1 : fol h n = fol k m := by omega
    have e2 : h n = k m := by omega
    obtain ⟨r1, r2⟩ := fol_inj (fun i hi => hh i (by omega)) (fun i hi => hk i (by omega)) e1
    refine ⟨by omega, fun i hi => ?_⟩
    by_cases c : i = n
    · subst c; rw [e2]; congr 1; exact r1.symm
    · exact r2 i (by omega)
theorem fol_lt {h : Nat → Nat} : ∀ {n : Nat}, (∀ i, i < n → h i ≤ 122) → fol h n < 32 ^ n
  | 0, _ => by show 0 < 32 ^ 0; omega
  | n + 1, hh => by
    have := fol_lt (h := h) (n := n) (fun i hi => hh i (by omega))
    have := hh n (by omega)
    rw [fol_s, Nat.pow_succ]; omega
theorem fol_cong {h k : Nat → Nat} : ∀ {n : Nat}, (∀ i, i < n → h i = k i) → fol h n = fol k n
  | 0, _ => rfl
  | n + 1, e => by rw [fol_s, fol_s, fol_cong (fun i hi => e i (by omega)), e n (by omega)]
def cod (j : Nat) : Nat := fol (fun i => wcn (wo j + i)) (wl j)
theorem cod_inj : ∀ i, i < 26 → ∀ j, j < 26 → cod i = cod j → i = j := by decide +kernel
theorem cod_lt : ∀ j, j < 26 → cod j < 34359738368 ∧ 0 < cod j := by decide +kernel
/-- whether word j stands there -/
def mtw (h : Nat → Nat) (len j : Nat) : Prop := len = wl j ∧ ∀ i, i < len → h i = wcn (wo j + i)
theorem mtw_iff {h : Nat → Nat} {len j : Nat} (hh : ∀ i, i < len → 97 ≤ h i ∧ h i ≤ 122) (hj : j < 26) : fol h len = cod j ↔ mtw h len j := by
  constructor
  · intro e
    exact fol_inj hh (w_let j hj) e
  · intro ⟨e1, e2⟩
    unfold cod
    rw [← e1]
    exact fol_cong e2
section Q74
variable {R B M : ms_T} {g : Nat → Nat}
/-- one word looked at -/
theorem W_one {a e j : Nat} (hae : a ≤ e) (he : e ≤ 900) (hj : j < 26) (hB : ∀ i, a ≤ i → i < e → ra B 0 i = nI (g i) ∧ g i < 128) (h3 : gi R 3 = nI a) (h2 : gi R 2 = nI e) (n : Nat) (hn : 10 ≤ n) :
    (mtw (fun i => g (a + i)) (e - a) j ∧ fX4_wordNumberT_12 R B n (nI j) (nI a) (nI 1) (nI (wo j)) = some (nI j)) ∨
    (¬ mtw (fun i => g (a + i)) (e - a) j ∧ ∃ n', n' + 10 ≥ n ∧ fX4_wordNumberT_12 R B n (nI j) (nI a) (nI 1) (nI (wo j)) = fX4_wordNumberT_12 R B n' (nI (j + 1)) (nI a) (nI 1) (nI (wo (j + 1)))) := by
  obtain ⟨w1, w2, w3⟩ := w_lt j hj
  have key : ∀ d i m b, i + d = wl j → d + 1 ≤ m → (b = 1 ∨ b = 0) → (b = 1 ↔ ∀ x, x < i → x < e - a ∧ g (a + x) = wcn (wo j + x)) →
      (mtw (fun i => g (a + i)) (e - a) j ∧ fX4_wordNumberT_12 R B m (nI j) (nI (a + i)) (nI b) (nI (wo j + i)) = some (nI j)) ∨
      (¬ mtw (fun i => g (a + i)) (e - a) j ∧ ∃ n', n' + (d + 1) = m ∧ fX4_wordNumberT_12 R B m (nI j) (nI (a + i)) (nI b) (nI (wo j + i)) = fX4_wordNumberT_12 R B n' (nI (j + 1)) (nI a) (nI 1) (nI (wo (j + 1)))) := by
    intro d
    induction d with
    | zero =>
      intro i m b hi hm hb hbi
      obtain ⟨m, rfl⟩ : ∃ x, m = x + 1 := ⟨m - 1, by omega⟩
      obtain rfl : i = wl j := by omega
      have ec := w_ch (o := wo j + wl j) w1
      rw [w3] at ec
      have ew : wo (j + 1) = wo j + wl j + 1 := rfl
      rcases hb with rfl | rfl
      · have hall := hbi.mp rfl
        by_cases c : a + wl j = e
        · left
          refine ⟨⟨by omega, fun x hx => (hall x (by omega)).2⟩, ?_⟩
          simp (disch := omega) only [fX4_wordNumberT_12, ec, h2, l_0, l_1, l_2, l_3, l_4, l_5, l_6, l_7, l_8, l_9, l_10, l_11, l_12, l_13, l_14, l_15, l_16, l_17, l_18, l_19, l_20, l_21, l_22, l_23, l_24, l_25, l_30, l_31, l_32, l_40, l_48, l_54, l_57, l_59, l_60, l_61, l_62, l_63, l_65, l_66, l_72, l_82, l_92, l_93, l_94, l_97, l_99, l_100, l_101, l_102, l_103, l_104, l_105, l_107, l_108, l_109, l_110, l_111, l_112, l_114, l_115, l_116, l_117, l_119, l_121, l_122, l_136, l_200, l_255, l_300, l_364, l_900, l_1000, l_1456, l_1458, l_1459, l_1460, l_1462, l_1471, l_1504, l_1510, l_1522, l_1550, l_2971, l_9999, l_10000, l_10979, l_65536, l_m1, nI_add, pk_mul, q_sub, q_ltT, q_ltF, q_leT, q_leF, q_eqT, q_eqF, q_inT, q_inF, nI_clamp, q_mlt, q_mle, q_mne, q_mne2, q_mnlt, q_mnle, Option.bind_some, if_true, if_false, reduceIte, ite_not, not_true_eq_false, not_false_eq_true, q_z1, Nat.reduceEqDiff]
        · right
          refine ⟨fun hm => ?_, m, by omega, ?_⟩
          · have := hm.1; omega
          · rw [ew]
            simp (disch := omega) only [fX4_wordNumberT_12, ec, h2, h3, l_0, l_1, l_2, l_3, l_4, l_5, l_6, l_7, l_8, l_9, l_10, l_11, l_12, l_13, l_14, l_15, l_16, l_17, l_18, l_19, l_20, l_21, l_22, l_23, l_24, l_25, l_30, l_31, l_32, l_40, l_48, l_54, l_57, l_59, l_60, l_61, l_62, l_63, l_65, l_66, l_72, l_82, l_92, l_93, l_94, l_97, l_99, l_100, l_101, l_102, l_103, l_104, l_105, l_107, l_108, l_109, l_110, l_111, l_112, l_114, l_115, l_116, l_117, l_119, l_121, l_122, l_136, l_200, l_255, l_300, l_364, l_900, l_1000, l_1456, l_1458, l_1459, l_1460, l_1462, l_1471, l_1504, l_1510, l_1522, l_1550, l_2971, l_9999, l_10000, l_10979, l_65536, l_m1, nI_add, pk_mul, q_sub, q_ltT, q_ltF, q_leT, q_leF, q_eqT, q_eqF, q_inT, q_inF, nI_clamp, q_mlt, q_mle, q_mne, q_mne2, q_mnlt, q_mnle, Option.bind_some, if_true, if_false, reduceIte, ite_not, not_true_eq_false, not_false_eq_true, q_z1, Nat.reduceEqDiff]
      · right
        refine ⟨fun hm => ?_, m, by omega, ?_⟩
        · have : (0 : Nat) = 1 := hbi.mpr (fun x hx => ⟨by have := hm.1; omega, hm.2 x (by have := hm.1; omega)⟩)
          omega
        · rw [ew]
          simp (disch := omega) only [fX4_wordNumberT_12, ec, h3, l_0, l_1, l_2, l_3, l_4, l_5, l_6, l_7, l_8, l_9, l_10, l_11, l_12, l_13, l_14, l_15, l_16, l_17, l_18, l_19, l_20, l_21, l_22, l_23, l_24, l_25, l_30, l_31, l_32, l_40, l_48, l_54, l_57, l_59, l_60, l_61, l_62, l_63, l_65, l_66, l_72, l_82, l_92, l_93, l_94, l_97, l_99, l_100, l_101, l_102, l_103, l_104, l_105, l_107, l_108, l_109, l_110, l_111, l_112, l_114, l_115, l_116, l_117, l_119, l_121, l_122, l_136, l_200, l_255, l_300, l_364, l_900, l_1000, l_1456, l_1458, l_1459, l_1460, l_1462, l_1471, l_1504, l_1510, l_1522, l_1550, l_2971, l_9999, l_10000, l_10979, l_65536, l_m1, nI_add, pk_mul, q_sub, q_ltT, q_ltF, q_leT, q_leF, q_eqT, q_eqF, q_inT, q_inF, nI_clamp, q_mlt, q_mle, q_mne, q_mne2, q_mnlt, q_mnle, Option.bind_some, if_true, if_false, reduceIte, ite_not, not_true_eq_false, not_false_eq_true, q_z1, Nat.reduceEqDiff]
    | succ d ih =>
      intro i m b hi hm hb hbi
      obtain ⟨m, rfl⟩ : ∃ x, m = x + 1 := ⟨m - 1, by omega⟩
      have wl' := w_let j hj i (by omega)
      have ec := w_ch (o := wo j + i) (by omega)
      generalize hc : wcn (wo j + i) = c at *
      have n32 : (nI c = nI 32) = False := q_eqF (by omega) (by omega) (by omega)
      have go : ∀ b', (b' = 1 ∨ b' = 0) → (b' = 1 ↔ (b = 1 ∧ i < e - a ∧ g (a + i) = c)) → fX4_wordNumberT_12 R B (m + 1) (nI j) (nI (a + i)) (nI b) (nI (wo j + i)) = fX4_wordNumberT_12 R B m (nI j) (nI (a + (i + 1))) (nI b') (nI (wo j + (i + 1))) →
          (mtw (fun i => g (a + i)) (e - a) j ∧ fX4_wordNumberT_12 R B (m + 1) (nI j) (nI (a + i)) (nI b) (nI (wo j + i)) = some (nI j)) ∨
          (¬ mtw (fun i => g (a + i)) (e - a) j ∧ ∃ n', n' + (d + 1 + 1) = m + 1 ∧ fX4_wordNumberT_12 R B (m + 1) (nI j) (nI (a + i)) (nI b) (nI (wo j + i)) = fX4_wordNumberT_12 R B n' (nI (j + 1)) (nI a) (nI 1) (nI (wo (j + 1)))) := by
        intro b' hb' hbb he2
        have hnew : b' = 1 ↔ ∀ x, x < i + 1 → x < e - a ∧ g (a + x) = wcn (wo j + x) := by
          rw [hbb, hbi]
          constructor
          · intro ⟨q1, q2, q3⟩ x hx
            by_cases cx : x = i
            · subst cx; exact ⟨q2, by rw [hc]; exact q3⟩
            · exact q1 x (by omega)
          · intro q
            refine ⟨fun x hx => q x (by omega), (q i (by omega)).1, ?_⟩
            rw [← hc]; exact (q i (by omega)).2
        rw [he2]
        rcases ih (i + 1) m b' (by omega) (by omega) hb' hnew with q | ⟨q1, n', q2, q3⟩
        · exact Or.inl q
        · exact Or.inr ⟨q1, n', by omega, q3⟩
      rcases hb with rfl | rfl
      · by_cases c1 : i < e - a
        · obtain ⟨bb1, bb2⟩ := hB (a + i) (by omega) (by omega)
          by_cases c2 : g (a + i) = c
          · refine go 1 (Or.inl rfl) ⟨fun _ => ⟨rfl, c1, c2⟩, fun _ => rfl⟩ ?_
            simp (disch := omega) only [fX4_wordNumberT_12, ec, n32, h2, bb1, ← Nat.add_assoc, l_0, l_1, l_2, l_3, l_4, l_5, l_6, l_7, l_8, l_9, l_10, l_11, l_12, l_13, l_14, l_15, l_16, l_17, l_18, l_19, l_20, l_21, l_22, l_23, l_24, l_25, l_30, l_31, l_32, l_40, l_48, l_54, l_57, l_59, l_60, l_61, l_62, l_63, l_65, l_66, l_72, l_82, l_92, l_93, l_94, l_97, l_99, l_100, l_101, l_102, l_103, l_104, l_105, l_107, l_108, l_109, l_110, l_111, l_112, l_114, l_115, l_116, l_117, l_119, l_121, l_122, l_136, l_200, l_255, l_300, l_364, l_900, l_1000, l_1456, l_1458, l_1459, l_1460, l_1462, l_1471, l_1504, l_1510, l_1522, l_1550, l_2971, l_9999, l_10000, l_10979, l_65536, l_m1, nI_add, pk_mul, q_sub, q_ltT, q_ltF, q_leT, q_leF, q_eqT, q_eqF, q_inT, q_inF, nI_clamp, q_mlt, q_mle, q_mne, q_mne2, q_mnlt, q_mnle, q_gi, q_gil, q_gir, q_giR, q_gl, q_gli, q_glr, q_glR, q_ra, q_rai, q_ral, q_raR, q_rl, q_rli, q_rll, q_rlr, sa, sA, ia, la, q_srsr, q_sRsR, Option.bind_some, if_true, if_false, reduceIte, ite_not, not_true_eq_false, not_false_eq_true, q_z1, Nat.reduceEqDiff]
          · refine go 0 (Or.inr rfl) ⟨fun q => by omega, fun q => absurd q.2.2 c2⟩ ?_
            simp (disch := omega) only [fX4_wordNumberT_12, ec, n32, h2, bb1, ← Nat.add_assoc, l_0, l_1, l_2, l_3, l_4, l_5, l_6, l_7, l_8, l_9, l_10, l_11, l_12, l_13, l_14, l_15, l_16, l_17, l_18, l_19, l_20, l_21, l_22, l_23, l_24, l_25, l_30, l_31, l_32, l_40, l_48, l_54, l_57, l_59, l_60, l_61, l_62, l_63, l_65, l_66, l_72, l_82, l_92, l_93, l_94, l_97, l_99, l_100, l_101, l_102, l_103, l_104, l_105, l_107, l_108, l_109, l_110, l_111, l_112, l_114, l_115, l_116, l_117, l_119, l_121, l_122, l_136, l_200, l_255, l_300, l_364, l_900, l_1000, l_1456, l_1458, l_1459, l_1460, l_1462, l_1471, l_1504, l_1510, l_1522, l_1550, l_2971, l_9999, l_10000, l_10979, l_65536, l_m1, nI_add, pk_mul, q_sub, q_ltT, q_ltF, q_leT, q_leF, q_eqT, q_eqF, q_inT, q_inF, nI_clamp, q_mlt, q_mle, q_mne, q_mne2, q_mnlt, q_mnle, q_gi, q_gil, q_gir, q_giR, q_gl, q_gli, q_glr, q_glR, q_ra, q_rai, q_ral, q_raR, q_rl, q_rli, q_rll, q_rlr, sa, sA, ia, la, q_srsr, q_sRsR, Option.bind_some, if_true, if_false, reduceIte, ite_not, not_true_eq_false, not_false_eq_true, q_z1, Nat.reduceEqDiff]
        · refine go 0 (Or.inr rfl) ⟨fun q => by omega, fun q => absurd q.2.1 c1⟩ ?_
          simp (disch := omega) only [fX4_wordNumberT_12, ec, n32, h2, ← Nat.add_assoc, l_0, l_1, l_2, l_3, l_4, l_5, l_6, l_7, l_8, l_9, l_10, l_11, l_12, l_13, l_14, l_15, l_16, l_17, l_18, l_19, l_20, l_21, l_22, l_23, l_24, l_25, l_30, l_31, l_32, l_40, l_48, l_54, l_57, l_59, l_60, l_61, l_62, l_63, l_65, l_66, l_72, l_82, l_92, l_93, l_94, l_97, l_99, l_100, l_101, l_102, l_103, l_104, l_105, l_107, l_108, l_109, l_110, l_111, l_112, l_114, l_115, l_116, l_117, l_119, l_121, l_122, l_136, l_200, l_255, l_300, l_364, l_900, l_1000, l_1456, l_1458, l_1459, l_1460, l_1462, l_1471, l_1504, l_1510, l_1522, l_1550, l_2971, l_9999, l_10000, l_10979, l_65536, l_m1, nI_add, pk_mul, q_sub, q_ltT, q_ltF, q_leT, q_leF, q_eqT, q_eqF, q_inT, q_inF, nI_clamp, q_mlt, q_mle, q_mne, q_mne2, q_mnlt, q_mnle, q_gi, q_gil, q_gir, q_giR, q_gl, q_gli, q_glr, q_glR, q_ra, q_rai, q_ral, q_raR, q_rl, q_rli, q_rll, q_rlr, sa, sA, ia, la, q_srsr, q_sRsR, Option.bind_some, if_true, if_false, reduceIte, ite_not, not_true_eq_false, not_false_eq_true, q_z1, Nat.reduceEqDiff]
      · refine go 0 (Or.inr rfl) ⟨fun q => by omega, fun q => by have := q.1; omega⟩ ?_
        simp (disch := omega) only [fX4_wordNumberT_12, ec, n32, ← Nat.add_assoc, l_0, l_1, l_2, l_3, l_4, l_5, l_6, l_7, l_8, l_9, l_10, l_11, l_12, l_13, l_14, l_15, l_16, l_17, l_18, l_19, l_20, l_21, l_22, l_23, l_24, l_25, l_30, l_31, l_32, l_40, l_48, l_54, l_57, l_59, l_60, l_61, l_62, l_63, l_65, l_66, l_72, l_82, l_92, l_93, l_94, l_97, l_99, l_100, l_101, l_102, l_103, l_104, l_105, l_107, l_108, l_109, l_110, l_111, l_112, l_114, l_115, l_116, l_117, l_119, l_121, l_122, l_136, l_200, l_255, l_300, l_364, l_900, l_1000, l_1456, l_1458, l_1459, l_1460, l_1462, l_1471, l_1504, l_1510, l_1522, l_1550, l_2971, l_9999, l_10000, l_10979, l_65536, l_m1, nI_add, pk_mul, q_sub, q_ltT, q_ltF, q_leT, q_leF, q_eqT, q_eqF, q_inT, q_inF, nI_clamp, q_mlt, q_mle, q_mne, q_mne2, q_mnlt, q_mnle, q_gi, q_gil, q_gir, q_giR, q_gl, q_gli, q_glr, q_glR, q_ra, q_rai, q_ral, q_raR, q_rl, q_rli, q_rll, q_rlr, sa, sA, ia, la, q_srsr, q_sRsR, Option.bind_some, if_true, if_false, reduceIte, ite_not, not_true_eq_false, not_false_eq_true, q_z1, Nat.reduceEqDiff]
  rcases key (wl j) 0 n 1 (by omega) (by omega) (Or.inl rfl) ⟨fun _ x hx => by omega, fun _ => rfl⟩ with q | ⟨q1, n', q2, q3⟩
  · exact Or.inl q
  · exact Or.inr ⟨q1, n', by omega, q3⟩
def wnI (wn : Nat) : Int32 := if wn = 26 then nM else nI wn
theorem W_num {a e : Nat} (hae : a ≤ e) (he : e ≤ 900) (hB : ∀ i, a ≤ i → i < e → ra B 0 i = nI (g i) ∧ g i < 128) (h3 : gi R 3 = nI a) (h2 : gi R 2 = nI e) : ∃ wn, wn ≤ 26 ∧ fX4_wordNumberT R B = some (wnI wn) ∧ (∀ j, j < wn → ¬ mtw (fun i => g (a + i)) (e - a) j) ∧ (wn < 26 → mtw (fun i => g (a + i)) (e - a) wn) := by
  have key : ∀ d j n, j + d = 26 → 10 * d + 10 ≤ n → (∀ x, x < j → ¬ mtw (fun i => g (a + i)) (e - a) x) → ∃ wn, wn ≤ 26 ∧ fX4_wordNumberT_12 R B n (nI j) (nI a) (nI 1) (nI (wo j)) = some (wnI wn) ∧ (∀ j, j < wn → ¬ mtw (fun i => g (a + i)) (e - a) j) ∧ (wn < 26 → mtw (fun i => g (a + i)) (e - a) wn) := by
    intro d
    induction d with
    | zero =>
      intro j n hj hn hno
      obtain rfl : j = 26 := by omega
      obtain ⟨n, rfl⟩ : ∃ x, n = x + 1 := ⟨n - 1, by omega⟩
      refine ⟨26, by omega, ?_, hno, fun q => by omega⟩
      rw [w_26]
      simp (disch := omega) only [fX4_wordNumberT_12, wnI, l_0, l_1, l_2, l_3, l_4, l_5, l_6, l_7, l_8, l_9, l_10, l_11, l_12, l_13, l_14, l_15, l_16, l_17, l_18, l_19, l_20, l_21, l_22, l_23, l_24, l_25, l_30, l_31, l_32, l_40, l_48, l_54, l_57, l_59, l_60, l_61, l_62, l_63, l_65, l_66, l_72, l_82, l_92, l_93, l_94, l_97, l_99, l_100, l_101, l_102, l_103, l_104, l_105, l_107, l_108, l_109, l_110, l_111, l_112, l_114, l_115, l_116, l_117, l_119, l_121, l_122, l_136, l_200, l_255, l_300, l_364, l_900, l_1000, l_1456, l_1458, l_1459, l_1460, l_1462, l_1471, l_1504, l_1510, l_1522, l_1550, l_2971, l_9999, l_10000, l_10979, l_65536, l_m1, nI_add, pk_mul, q_sub, q_ltT, q_ltF, q_leT, q_leF, q_eqT, q_eqF, q_inT, q_inF, nI_clamp, q_mlt, q_mle, q_mne, q_mne2, q_mnlt, q_mnle, Option.bind_some, if_true, if_false, reduceIte, ite_not, not_true_eq_false, not_false_eq_true, q_z1, Nat.reduceEqDiff]
    | succ d ih =>
      intro j n hj hn hno
      rcases W_one (j := j) hae he (by omega) hB h3 h2 n (by omega) with ⟨q1, q2⟩ | ⟨q1, n', q2, q3⟩
      · refine ⟨j, by omega, ?_, hno, fun _ => q1⟩
        rw [q2]; unfold wnI; rw [if_neg (by omega)]
      · rw [q3]
        refine ih (j + 1) n' (by omega) (by omega) (fun x hx => ?_)
        by_cases c : x = j
        · rw [c]; exact q1
        · exact hno x (by omega)
  unfold fX4_wordNumberT
  rw [h3]
  exact key 26 0 FU (by omega) (by unfold FU; omega) (fun x hx => by omega)
/-- the number of a word, and the reference's number of its letters -/
theorem W_cod {a e wn : Nat} (hL : ∀ i, a ≤ i → i < e → 97 ≤ g i ∧ g i ≤ 122) (h1 : ∀ j, j < wn → ¬ mtw (fun i => g (a + i)) (e - a) j) (h2 : wn < 26 → mtw (fun i => g (a + i)) (e - a) wn) (hw : wn ≤ 26) {j : Nat} (hj : j < 26) : fol (fun i => g (a + i)) (e - a) = cod j ↔ wn = j := by
  have hl : ∀ i, i < e - a → 97 ≤ (fun i => g (a + i)) i ∧ (fun i => g (a + i)) i ≤ 122 := fun i hi => hL (a + i) (by omega) (by omega)
  rw [mtw_iff hl hj]
  constructor
  · intro hm
    by_cases c : j < wn
    · exact absurd hm (h1 j c)
    · have hwn : wn < 26 := by omega
      have e1 := (mtw_iff hl hwn).mpr (h2 hwn)
      have e2 := (mtw_iff hl hj).mpr hm
      exact cod_inj wn hwn j hj (e1.symm.trans e2)
  · intro e; rw [← e]; exact h2 (by omega)
end Q74
