/-! floor 3: numbers, tables, loops -/
theorem q_gi (S : ms_T) (k : Nat) (v : Int32) (j : Nat) : gi (si S k v) j = if j = k then v else gi S j := rfl
theorem q_gil (S : ms_T) (k : Nat) (v : Int64) (j : Nat) : gi (sl S k v) j = gi S j := rfl
theorem q_gir (S : ms_T) (k : Nat) (v : Nat → Int32) (j : Nat) : gi (sr S k v) j = gi S j := rfl
theorem q_giR (S : ms_T) (k : Nat) (v : Nat → Int64) (j : Nat) : gi (sR S k v) j = gi S j := rfl
theorem q_gl (S : ms_T) (k : Nat) (v : Int64) (j : Nat) : gl (sl S k v) j = if j = k then v else gl S j := rfl
theorem q_gli (S : ms_T) (k : Nat) (v : Int32) (j : Nat) : gl (si S k v) j = gl S j := rfl
theorem q_glr (S : ms_T) (k : Nat) (v : Nat → Int32) (j : Nat) : gl (sr S k v) j = gl S j := rfl
theorem q_glR (S : ms_T) (k : Nat) (v : Nat → Int64) (j : Nat) : gl (sR S k v) j = gl S j := rfl
theorem q_ra (S : ms_T) (k : Nat) (v : Nat → Int32) (j : Nat) : ra (sr S k v) j = if j = k then v else ra S j := rfl
theorem q_rai (S : ms_T) (k : Nat) (v : Int32) (j : Nat) : ra (si S k v) j = ra S j := rfl
theorem q_ral (S : ms_T) (k : Nat) (v : Int64) (j : Nat) : ra (sl S k v) j = ra S j := rfl
theorem q_raR (S : ms_T) (k : Nat) (v : Nat → Int64) (j : Nat) : ra (sR S k v) j = ra S j := rfl
theorem q_rl (S : ms_T) (k : Nat) (v : Nat → Int64) (j : Nat) : rl (sR S k v) j = if j = k then v else rl S j := rfl
theorem q_rli (S : ms_T) (k : Nat) (v : Int32) (j : Nat) : rl (si S k v) j = rl S j := rfl
theorem q_rll (S : ms_T) (k : Nat) (v : Int64) (j : Nat) : rl (sl S k v) j = rl S j := rfl
theorem q_rlr (S : ms_T) (k : Nat) (v : Nat → Int32) (j : Nat) : rl (sr S k v) j = rl S j := rfl
theorem q_srsr (S : ms_T) (a : Nat) (f g : Nat → Int32) : sr (sr S a f) a g = sr S a g := by
  unfold sr
  refine Prod.ext rfl (Prod.ext rfl (Prod.ext ?_ rfl))
  funext b
  show (if b = a then g else if b = a then f else S.2.2.1 b) = if b = a then g else S.2.2.1 b
  split <;> rfl
theorem q_sRsR (S : ms_T) (a : Nat) (f g : Nat → Int64) : sR (sR S a f) a g = sR S a g := by
  unfold sR
  refine Prod.ext rfl (Prod.ext rfl (Prod.ext rfl ?_))
  funext b
  show (if b = a then g else if b = a then f else S.2.2.2 b) = if b = a then g else S.2.2.2 b
  split <;> rfl
def nM : Int32 := -1
theorem l_m1 : -(nI 1) = nM := rfl
theorem l_0 : (0 : Int32) = nI 0 := rfl
theorem l_1 : (1 : Int32) = nI 1 := rfl
theorem l_2 : (2 : Int32) = nI 2 := rfl
theorem l_3 : (3 : Int32) = nI 3 := rfl
theorem l_4 : (4 : Int32) = nI 4 := rfl
theorem l_5 : (5 : Int32) = nI 5 := rfl
theorem l_6 : (6 : Int32) = nI 6 := rfl
theorem l_7 : (7 : Int32) = nI 7 := rfl
theorem l_8 : (8 : Int32) = nI 8 := rfl
theorem l_9 : (9 : Int32) = nI 9 := rfl
theorem l_10 : (10 : Int32) = nI 10 := rfl
theorem l_11 : (11 : Int32) = nI 11 := rfl
theorem l_12 : (12 : Int32) = nI 12 := rfl
theorem l_13 : (13 : Int32) = nI 13 := rfl
theorem l_14 : (14 : Int32) = nI 14 := rfl
theorem l_15 : (15 : Int32) = nI 15 := rfl
theorem l_16 : (16 : Int32) = nI 16 := rfl
theorem l_17 : (17 : Int32) = nI 17 := rfl
theorem l_18 : (18 : Int32) = nI 18 := rfl
theorem l_19 : (19 : Int32) = nI 19 := rfl
theorem l_20 : (20 : Int32) = nI 20 := rfl
theorem l_21 : (21 : Int32) = nI 21 := rfl
theorem l_22 : (22 : Int32) = nI 22 := rfl
theorem l_23 : (23 : Int32) = nI 23 := rfl
theorem l_24 : (24 : Int32) = nI 24 := rfl
theorem l_25 : (25 : Int32) = nI 25 := rfl
theorem l_30 : (30 : Int32) = nI 30 := rfl
theorem l_31 : (31 : Int32) = nI 31 := rfl
theorem l_32 : (32 : Int32) = nI 32 := rfl
theorem l_40 : (40 : Int32) = nI 40 := rfl
theorem l_48 : (48 : Int32) = nI 48 := rfl
theorem l_54 : (54 : Int32) = nI 54 := rfl
theorem l_57 : (57 : Int32) = nI 57 := rfl
theorem l_59 : (59 : Int32) = nI 59 := rfl
theorem l_60 : (60 : Int32) = nI 60 := rfl
theorem l_61 : (61 : Int32) = nI 61 := rfl
theorem l_62 : (62 : Int32) = nI 62 := rfl
theorem l_63 : (63 : Int32) = nI 63 := rfl
theorem l_65 : (65 : Int32) = nI 65 := rfl
theorem l_66 : (66 : Int32) = nI 66 := rfl
theorem l_72 : (72 : Int32) = nI 72 := rfl
theorem l_82 : (82 : Int32) = nI 82 := rfl
theorem l_92 : (92 : Int32) = nI 92 := rfl
theorem l_93 : (93 : Int32) = nI 93 := rfl
theorem l_94 : (94 : Int32) = nI 94 := rfl
theorem l_97 : (97 : Int32) = nI 97 := rfl
theorem l_99 : (99 : Int32) = nI 99 := rfl
theorem l_100 : (100 : Int32) = nI 100 := rfl
theorem l_101 : (101 : Int32) = nI 101 := rfl
theorem l_102 : (102 : Int32) = nI 102 := rfl
theorem l_103 : (103 : Int32) = nI 103 := rfl
theorem l_104 : (104 : Int32) = nI 104 := rfl
theorem l_105 : (105 : Int32) = nI 105 := rfl
theorem l_107 : (107 : Int32) = nI 107 := rfl
theorem l_108 : (108 : Int32) = nI 108 := rfl
theorem l_109 : (109 : Int32) = nI 109 := rfl
theorem l_110 : (110 : Int32) = nI 110 := rfl
theorem l_111 : (111 : Int32) = nI 111 := rfl
theorem l_112 : (112 : Int32) = nI 112 := rfl
theorem l_114 : (114 : Int32) = nI 114 := rfl
theorem l_115 : (115 : Int32) = nI 115 := rfl
theorem l_116 : (116 : Int32) = nI 116 := rfl
theorem l_117 : (117 : Int32) = nI 117 := rfl
theorem l_119 : (119 : Int32) = nI 119 := rfl
theorem l_121 : (121 : Int32) = nI 121 := rfl
theorem l_122 : (122 : Int32) = nI 122 := rfl
theorem l_136 : (136 : Int32) = nI 136 := rfl
theorem l_200 : (200 : Int32) = nI 200 := rfl
theorem l_255 : (255 : Int32) = nI 255 := rfl
theorem l_300 : (300 : Int32) = nI 300 := rfl
theorem l_364 : (364 : Int32) = nI 364 := rfl
theorem l_900 : (900 : Int32) = nI 900 := rfl
theorem l_1000 : (1000 : Int32) = nI 1000 := rfl
theorem l_1456 : (1456 : Int32) = nI 1456 := rfl
theorem l_1458 : (1458 : Int32) = nI 1458 := rfl
theorem l_1459 : (1459 : Int32) = nI 1459 := rfl
theorem l_1460 : (1460 : Int32) = nI 1460 := rfl
theorem l_1462 : (1462 : Int32) = nI 1462 := rfl
theorem l_1471 : (1471 : Int32) = nI 1471 := rfl
theorem l_1504 : (1504 : Int32) = nI 1504 := rfl
theorem l_1510 : (1510 : Int32) = nI 1510 := rfl
theorem l_1522 : (1522 : Int32) = nI 1522 := rfl
theorem l_1550 : (1550 : Int32) = nI 1550 := rfl
theorem l_2971 : (2971 : Int32) = nI 2971 := rfl
theorem l_9999 : (9999 : Int32) = nI 9999 := rfl
theorem l_10000 : (10000 : Int32) = nI 10000 := rfl
theorem l_10979 : (10979 : Int32) = nI 10979 := rfl
theorem l_65536 : (65536 : Int32) = nI 65536 := rfl
theorem q_sub {a b : Nat} (h : b ≤ a) : nI a - nI b = nI (a - b) := pk_sub h
theorem q_ltT {a b : Nat} (h : a < b) (hb : b < 2147483648) : (nI a < nI b) = True := eq_true (nI_lt h hb)
theorem q_ltF {a b : Nat} (h : b ≤ a) (ha : a < 2147483648) : (nI a < nI b) = False := eq_false (nI_nlt h ha)
theorem q_leT {a b : Nat} (h : a ≤ b) (hb : b < 2147483648) : (nI a ≤ nI b) = True := eq_true (nI_le h hb)
theorem q_leF {a b : Nat} (h : b < a) (ha : a < 2147483648) : (nI a ≤ nI b) = False := eq_false (nI_ge h ha)
theorem q_eqT {a b : Nat} (h : a = b) : (nI a = nI b) = True := eq_true (congrArg nI h)
theorem q_eqF {a b : Nat} (h : a ≠ b) (ha : a < 2147483648) (hb : b < 2147483648) : (nI a = nI b) = False := eq_false (fun e => h ((nI_eq ha hb).mp e))
theorem q_lt {a b : Nat} (ha : a < 2147483648) (hb : b < 2147483648) : (nI a < nI b) ↔ a < b := nI_ltI ha hb
theorem q_le {a b : Nat} (ha : a < 2147483648) (hb : b < 2147483648) : (nI a ≤ nI b) ↔ a ≤ b := nI_leI ha hb
theorem q_eq {a b : Nat} (ha : a < 2147483648) (hb : b < 2147483648) : (nI a = nI b) ↔ a = b := nI_eq ha hb
theorem q_inb {a n : Nat} (ha : a < 2147483648) : inb (nI a) n = decide (a < n) := by
  unfold inb
  have h1 : ¬ nI a < 0 := nI_pos ha
  rw [nI_clamp ha, Bool.eq_iff_iff]
  simp [h1]
theorem q_inT {a n : Nat} (h : a < n) (ha : a < 2147483648) : inb (nI a) n = true := by rw [q_inb ha]; simp [h]
theorem q_inF {a n : Nat} (h : n ≤ a) (ha : a < 2147483648) : inb (nI a) n = false := by rw [q_inb ha]; simp; exact h
theorem q_mI : nM.toInt = -1 := by decide
theorem q_mlt {a : Nat} (ha : a < 2147483648) : (nM < nI a) = True := eq_true (by rw [Int32.lt_iff_toInt_lt, q_mI, nI_toInt ha]; omega)
theorem q_mle {a : Nat} (ha : a < 2147483648) : (nM ≤ nI a) = True := eq_true (by rw [Int32.le_iff_toInt_le, q_mI, nI_toInt ha]; omega)
theorem q_mne {a : Nat} (ha : a < 2147483648) : (nM = nI a) = False := eq_false (fun e => by have h := congrArg Int32.toInt e; rw [q_mI, nI_toInt ha] at h; omega)
theorem q_mne2 {a : Nat} (ha : a < 2147483648) : (nI a = nM) = False := eq_false (fun e => by have h := congrArg Int32.toInt e; rw [q_mI, nI_toInt ha] at h; omega)
theorem q_mnlt {a : Nat} (ha : a < 2147483648) : (nI a < nM) = False := eq_false (by rw [Int32.lt_iff_toInt_lt, q_mI, nI_toInt ha]; omega)
theorem q_mnle {a : Nat} (ha : a < 2147483648) : (nI a ≤ nM) = False := eq_false (by rw [Int32.le_iff_toInt_le, q_mI, nI_toInt ha]; omega)
/-- a number that is below 0, or too large, or one of the places -/
theorem q_ix (x : Int32) (n : Nat) (hn : n < 2147483648) : (x < nI 0 ∧ inb x n = false) ∨ (nI n ≤ x ∧ ¬ x < nI 0 ∧ inb x n = false) ∨ ∃ j : Nat, j < n ∧ x = nI j := by
  by_cases h : x < 0
  · refine Or.inl ⟨h, ?_⟩
    unfold inb; simp [h]
  · obtain ⟨j, hj, rfl⟩ := nI_of h
    by_cases h2 : j < n
    · exact Or.inr (Or.inr ⟨j, h2, rfl⟩)
    · refine Or.inr (Or.inl ⟨nI_le (by omega) hj, h, ?_⟩)
      exact q_inF (by omega) hj
theorem q_ngl {x : Int32} (h : x < nI 0) {a : Nat} (ha : a < 2147483648) : (x < nI a) = True := eq_true (by rw [Int32.lt_iff_toInt_lt] at *; rw [nI_toInt ha]; rw [nI_toInt (by omega)] at h; omega)
theorem q_ngle {x : Int32} (h : x < nI 0) {a : Nat} (ha : a < 2147483648) : (x ≤ nI a) = True := eq_true (by rw [Int32.lt_iff_toInt_lt] at h; rw [Int32.le_iff_toInt_le]; rw [nI_toInt ha]; rw [nI_toInt (by omega)] at h; omega)
theorem q_ngn {x : Int32} (h : x < nI 0) {a : Nat} (ha : a < 2147483648) : (nI a ≤ x) = False := eq_false (by rw [Int32.lt_iff_toInt_lt] at h; rw [Int32.le_iff_toInt_le]; rw [nI_toInt ha]; rw [nI_toInt (by omega)] at h; omega)
theorem q_ngnl {x : Int32} (h : x < nI 0) {a : Nat} (ha : a < 2147483648) : (nI a < x) = False := eq_false (by rw [Int32.lt_iff_toInt_lt] at *; rw [nI_toInt ha]; rw [nI_toInt (by omega)] at h; omega)
theorem q_nge {x : Int32} (h : x < nI 0) {a : Nat} (ha : a < 2147483648) : (x = nI a) = False := eq_false (fun e => by subst e; exact nI_pos ha h)
theorem q_bgl {x : Int32} {n : Nat} (h : nI n ≤ x) (hn : n < 2147483648) {a : Nat} (ha : a ≤ n) : (x < nI a) = False := eq_false (by rw [Int32.lt_iff_toInt_lt]; rw [Int32.le_iff_toInt_le] at h; rw [nI_toInt (by omega)]; rw [nI_toInt hn] at h; omega)
theorem q_bgle {x : Int32} {n : Nat} (h : nI n ≤ x) (hn : n < 2147483648) {a : Nat} (ha : a < n) : (x ≤ nI a) = False := eq_false (by rw [Int32.le_iff_toInt_le] at *; rw [nI_toInt (by omega)]; rw [nI_toInt hn] at h; omega)
theorem q_bgg {x : Int32} {n : Nat} (h : nI n ≤ x) (hn : n < 2147483648) {a : Nat} (ha : a ≤ n) : (nI a ≤ x) = True := eq_true (by rw [Int32.le_iff_toInt_le] at *; rw [nI_toInt (by omega)]; rw [nI_toInt hn] at h; omega)
theorem q_bggl {x : Int32} {n : Nat} (h : nI n ≤ x) (hn : n < 2147483648) {a : Nat} (ha : a < n) : (nI a < x) = True := eq_true (by rw [Int32.lt_iff_toInt_lt]; rw [Int32.le_iff_toInt_le] at h; rw [nI_toInt (by omega)]; rw [nI_toInt hn] at h; omega)
theorem q_bge {x : Int32} {n : Nat} (h : nI n ≤ x) (hn : n < 2147483648) {a : Nat} (ha : a < n) : (x = nI a) = False := eq_false (fun e => by subst e; exact nI_ge ha hn h)
/-! bits -/
theorem q_and (a b : Nat) : nI a &&& nI b = nI (a &&& b) := by
  apply Int32.toBitVec_inj.1
  show BitVec.ofNat 32 a &&& BitVec.ofNat 32 b = BitVec.ofNat 32 (a &&& b)
  apply BitVec.eq_of_getLsbD_eq
  intro i hi
  simp [hi]
theorem q_or (a b : Nat) : nI a ||| nI b = nI (a ||| b) := by
  apply Int32.toBitVec_inj.1
  show BitVec.ofNat 32 a ||| BitVec.ofNat 32 b = BitVec.ofNat 32 (a ||| b)
  apply BitVec.eq_of_getLsbD_eq
  intro i hi
  simp [hi]
theorem q_or0 (x : Int32) : x ||| nI 0 = x := by
  apply Int32.toBitVec_inj.1
  rw [Int32.toBitVec_or]
  show x.toBitVec ||| 0#32 = x.toBitVec
  simp
theorem q_andn (a b : Nat) : nI a &&& (nI b ^^^ nM) = nI (a ^^^ (a &&& b)) := by
  apply Int32.toBitVec_inj.1
  show BitVec.ofNat 32 a &&& (BitVec.ofNat 32 b ^^^ nM.toBitVec) = BitVec.ofNat 32 (a ^^^ (a &&& b))
  rw [show nM.toBitVec = BitVec.allOnes 32 from by decide]
  apply BitVec.eq_of_getLsbD_eq
  intro i hi
  simp only [BitVec.getLsbD_and, BitVec.getLsbD_xor, BitVec.getLsbD_ofNat, BitVec.getLsbD_allOnes, hi, decide_true, Bool.true_and, Nat.testBit_xor, Nat.testBit_and]
  cases a.testBit i <;> cases b.testBit i <;> rfl
theorem q_s31 : ∀ n, n < 32 → ((nI n &&& nI 31).toBitVec.smod 32).toNat = n := by decide +kernel
theorem q_shl {a k : Nat} (hk : k < 31) (h : a * 2 ^ k < 2 ^ 32) : nI a <<< (nI k &&& nI 31) = nI (a * 2 ^ k) := pk_shlN (n := a) _ k (q_s31 k (by omega)) h
theorem q_one {k : Nat} (hk : k < 31) : nI 1 <<< (nI k &&& nI 31) = nI (2 ^ k) := by
  have h := q_shl (a := 1) hk (by have := Nat.pow_lt_pow_right (a := 2) (by decide) (show k < 32 by omega); omega)
  rwa [Nat.one_mul] at h
theorem q_shr {a k : Nat} (ha : a < 2147483648) (hk : k < 32) : nI a >>> (nI k &&& nI 31) = nI (a / 2 ^ k) := pk_shrN ha _ k (q_s31 k hk)
def b2 (b : Bool) : Nat := if b then 1 else 0
theorem b2_0 : b2 false = 0 := rfl
theorem b2_1 : b2 true = 1 := rfl
theorem b2_le (b : Bool) : b2 b ≤ 1 := by cases b <;> decide
theorem q_bit {a k : Nat} (ha : a < 2147483648) (hk : k < 32) : (nI a >>> (nI k &&& nI 31)) &&& nI 1 = nI (b2 (a.testBit k)) := by
  rw [q_shr ha hk, q_and, Nat.and_one_is_mod, Nat.testBit_eq_decide_div_mod_eq]
  have h : a / 2 ^ k % 2 < 2 := Nat.mod_lt _ (by decide)
  rcases (by omega : a / 2 ^ k % 2 = 0 ∨ a / 2 ^ k % 2 = 1) with h | h <;> rw [h] <;> rfl
theorem q_b0 (b : Bool) : (nI (b2 b) = nI 0) ↔ b = false := by cases b <;> decide
theorem q_b1 (b : Bool) : (nI (b2 b) = nI 1) ↔ b = true := by cases b <;> decide
theorem q_bb (b : Bool) : nI (b2 b) &&& nI 1 = nI (b2 b) := by cases b <;> decide
theorem q_z1 : (nI 1 &&& nI 1 = nI 1) = True := eq_true (by decide)
theorem q_z0 : (nI 0 &&& nI 1 = nI 0) = True := eq_true (by decide)
theorem q_p31 {k : Nat} (hk : k < 31) : 2 ^ k < 2147483648 := by have := Nat.pow_lt_pow_right (a := 2) (by decide) (show k < 31 from hk); omega
/-- a set, built up number by number; whether one is in it may hang on those ahead of it -/
def bs (p : Nat → Nat → Bool) : Nat → Nat
  | 0 => 0
  | n + 1 => if p (bs p n) n then bs p n ||| 2 ^ n else bs p n
theorem bs_s (p : Nat → Nat → Bool) (n : Nat) : bs p (n + 1) = if p (bs p n) n then bs p n ||| 2 ^ n else bs p n := rfl
theorem bs_lt (p : Nat → Nat → Bool) : ∀ n, bs p n < 2 ^ n
  | 0 => by show 0 < 2 ^ 0; decide
  | n + 1 => by
    have h := bs_lt p n
    have h2 : 2 ^ n < 2 ^ (n + 1) := Nat.pow_lt_pow_right (by decide) (by omega)
    rw [bs_s]
    split
    · exact Nat.or_lt_two_pow (by omega) h2
    · omega
theorem bs_bit (p : Nat → Nat → Bool) : ∀ n i, (bs p n).testBit i = (decide (i < n) && p (bs p i) i)
  | 0, i => by simp [bs]
  | n + 1, i => by
    have h := bs_bit p n i
    rw [bs_s]
    by_cases hi : i = n
    · subst hi
      have h0 : (bs p i).testBit i = false := by rw [h]; simp
      split
      · rename_i hp
        rw [Nat.testBit_or, h0, Nat.testBit_two_pow_self, hp]; simp
      · rename_i hp
        rw [h0]; simp [hp]
    · have h1 : decide (i < n + 1) = decide (i < n) := by
        by_cases h3 : i < n
        · have h4 : i < n + 1 := by omega
          simp [h3, h4]
        · have h4 : ¬ i < n + 1 := by omega
          simp [h3, h4]
      split
      · rw [Nat.testBit_or, Nat.testBit_two_pow, h, h1]
        have : ¬ n = i := fun e => hi e.symm
        simp [this]
      · rw [h, h1]
theorem bs_eq {p q : Nat → Nat → Bool} : ∀ {n : Nat}, (∀ k, k < n → p (bs p k) k = q (bs p k) k) → bs p n = bs q n
  | 0, _ => rfl
  | n + 1, h => by
    have ih := bs_eq (p := p) (q := q) (n := n) (fun k hk => h k (by omega))
    have h2 := h n (by omega)
    rw [bs_s, bs_s, ← ih, h2]
theorem bs_ext {p : Nat → Nat → Bool} {n x : Nat} (hx : x < 2 ^ n) (h : ∀ k, k < n → x.testBit k = p (bs p k) k) : x = bs p n := by
  apply Nat.eq_of_testBit_eq
  intro i
  rw [bs_bit]
  by_cases hi : i < n
  · simp [hi, h i hi]
  · have : x < 2 ^ i := Nat.lt_of_lt_of_le hx (Nat.pow_le_pow_right (by decide) (by omega))
    rw [Nat.testBit_lt_two_pow this]; simp [hi]
theorem bs_31 (p : Nat → Nat → Bool) {n : Nat} (hn : n ≤ 31) : bs p n < 2147483648 := by
  have h := bs_lt p n
  have h2 : 2 ^ n ≤ 2 ^ 31 := Nat.pow_le_pow_right (by decide) hn
  have h3 : (2 : Nat) ^ 31 = 2147483648 := by decide
  omega
/-- a loop that builds a set -/
theorem lp_set (L : Nat → Int32 → Int32 → Option Int32) (m : Nat) (p : Nat → Nat → Bool)
    (hx : ∀ n acc, L (n + 1) acc (nI m) = some acc)
    (hs : ∀ n k, k < m → L (n + 1) (nI (bs p k)) (nI k) = L n (if p (bs p k) k then nI (bs p k ||| 2 ^ k) else nI (bs p k)) (nI (k + 1))) :
    ∀ fuel, m < fuel → L fuel (nI 0) (nI 0) = some (nI (bs p m)) := by
  have key : ∀ d k fuel, k + d = m → d < fuel → L fuel (nI (bs p k)) (nI k) = some (nI (bs p m)) := by
    intro d
    induction d with
    | zero =>
      intro k fuel h hf
      obtain ⟨n, rfl⟩ : ∃ n, fuel = n + 1 := ⟨fuel - 1, by omega⟩
      have : k = m := by omega
      subst this
      exact hx n _
    | succ d ih =>
      intro k fuel h hf
      obtain ⟨n, rfl⟩ : ∃ n, fuel = n + 1 := ⟨fuel - 1, by omega⟩
      rw [hs n k (by omega), ← ih (k + 1) n (by omega) (by omega)]
      rw [bs_s]
      split <;> rfl
  intro fuel hf
  exact key m 0 fuel (by omega) hf
/-- a loop that counts up, with an invariant; it may be left before its end -/
theorem lp_up {σ β : Type} (L : Nat → Int32 → σ → Option β) (m : Nat) (I : Nat → σ → Prop) (Q : β → Prop)
    (hx : ∀ n s, I m s → ∃ r, L (n + 1) (nI m) s = some r ∧ Q r)
    (hs : ∀ n k s, k < m → I k s → (∃ s', I (k + 1) s' ∧ L (n + 1) (nI k) s = L n (nI (k + 1)) s') ∨ (∃ r, L (n + 1) (nI k) s = some r ∧ Q r)) :
    ∀ k s fuel, k ≤ m → I k s → m < fuel + k → ∃ r, L fuel (nI k) s = some r ∧ Q r := by
  have key : ∀ d k s fuel, k + d = m → I k s → d < fuel → ∃ r, L fuel (nI k) s = some r ∧ Q r := by
    intro d
    induction d with
    | zero =>
      intro k s fuel h hI hf
      obtain ⟨n, rfl⟩ : ∃ n, fuel = n + 1 := ⟨fuel - 1, by omega⟩
      have : k = m := by omega
      subst this
      exact hx n _ hI
    | succ d ih =>
      intro k s fuel h hI hf
      obtain ⟨n, rfl⟩ : ∃ n, fuel = n + 1 := ⟨fuel - 1, by omega⟩
      rcases hs n k s (by omega) hI with ⟨s', hI', e⟩ | h2
      · rw [e]
        exact ih (k + 1) s' n (by omega) hI' (by omega)
      · exact h2
  intro k s fuel hk hI hf
  exact key (m - k) k s fuel (by omega) hI (by omega)
theorem FU_big {n : Nat} (h : n < 1000000) : n < FU := by unfold FU; exact h
/-! the two readings of a table's cells -/
def tb_W (t : Nat → Nat) : Prop :=
  t 0 ≤ 9 ∧ t 1 ≤ 8 ∧ t 2 ≤ 6 ∧ t 3 ≤ 10 ∧ t 4 ≤ 16 ∧
  (∀ i, i < t 0 → t (6 + i) ≤ 20 ∧ t (15 + i) ≤ 3) ∧
  (∀ i, i < t 1 → t (24 + i) < t 0 ∧ t (32 + i) < 2 ^ i ∧ t (40 + i) ≤ 1) ∧
  (∀ i, i < t 2 → t (48 + i) ≤ 9 ∧ t (54 + i) ≤ t 0 ∧ t (60 + i) ≤ 1 ∧ t (66 + i) ≤ 16) ∧
  (∀ i, i < t 3 → t (72 + i) < t 2 ∧ t (82 + i) < t 2 ∧ t (72 + i) ≠ t (82 + i)) ∧
  (∀ i j, i < j → j < t 3 → ¬ (t (72 + i) = t (72 + j) ∧ t (82 + i) = t (82 + j)) ∧ ¬ (t (72 + i) = t (82 + j) ∧ t (82 + i) = t (72 + j)))
def tb_pp (t : Nat → Nat) : Nat → Nat → Bool := fun _ k => decide (t (40 + k) = 1)
def tb_ff (t : Nat → Nat) : Nat → Nat → Bool := fun _ k => decide (t (60 + k) = 1)
def tb_C (T : ms_T) (t : Nat → Nat) : Prop :=
  gi T 0 = nI (t 4) ∧ gi T 1 = nI (t 0) ∧ gi T 4 = nI (t 1) ∧ gi T 7 = nI (bs (tb_pp t) (t 1)) ∧ gi T 8 = nI (t 2) ∧ gi T 12 = nI (bs (tb_ff t) (t 2)) ∧ gi T 13 = nI (t 3) ∧ gi T 16 = nI (t 5) ∧
  (∀ i, i < t 0 → ra T 1 i = nI (t (6 + i))) ∧ (∀ i, i < t 0 → ra T 2 i = nI (t (15 + i))) ∧
  (∀ i, i < t 1 → ra T 3 i = nI (t (24 + i))) ∧ (∀ i, i < t 1 → ra T 4 i = nI (t (32 + i))) ∧
  (∀ i, i < t 2 → ra T 5 i = nI (t (48 + i))) ∧ (∀ i, i < t 2 → ra T 6 i = nI (t (54 + i))) ∧ (∀ i, i < t 2 → ra T 7 i = nI (t (66 + i))) ∧
  (∀ i, i < t 3 → ra T 8 i = nI (t (72 + i))) ∧ (∀ i, i < t 3 → ra T 9 i = nI (t (82 + i)))
def tb_M (c : Nat → Int32) (b : Nat) (t : Nat → Nat) : Prop := ∀ i, i < 92 → c (b + i) = nI (t i)
