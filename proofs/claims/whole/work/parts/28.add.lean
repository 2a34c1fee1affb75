/-! a claim more, a feud more; rewrite, think, anger -/
def anyb (p : Nat → Bool) : Nat → Bool
  | 0 => false
  | n + 1 => anyb p n || p n
theorem anyb_iff (p : Nat → Bool) : ∀ n, anyb p n = true ↔ ∃ i, i < n ∧ p i = true
  | 0 => by simp [anyb]
  | n + 1 => by
    unfold anyb
    rw [Bool.or_eq_true, anyb_iff p n]
    constructor
    · rintro (⟨i, hi, e⟩ | e)
      · exact ⟨i, by omega, e⟩
      · exact ⟨n, by omega, e⟩
    · rintro ⟨i, hi, e⟩
      by_cases c : i = n
      · subst c; exact Or.inr e
      · exact Or.inl ⟨i, by omega, e⟩
theorem anyb_no {p : Nat → Bool} {n : Nat} (h : ∀ i, i < n → p i = false) : anyb p n = false := by
  cases e : anyb p n
  · rfl
  · obtain ⟨i, hi, g⟩ := (anyb_iff p n).mp e
    rw [h i hi] at g; cases g
theorem lp_any (L : Nat → Int32 → Option Int32) (m : Nat) (p : Nat → Bool) (hx : ∀ n, L (n + 1) (nI m) = some (nI 0)) (hs : ∀ n k, k < m → L (n + 1) (nI k) = if p k = true then some (nI 1) else L n (nI (k + 1))) :
    ∀ fuel, m < fuel → L fuel (nI 0) = some (bi (anyb p m)) := by
  intro fuel hf
  obtain ⟨r, e, hr⟩ := lp_up (σ := Unit) (fun n i _ => L n i) m (fun k _ => ∀ i, i < k → p i = false) (fun r => r = bi (anyb p m))
    (fun n _ hI => ⟨_, hx n, by rw [anyb_no hI]; rfl⟩)
    (fun n k _ hk hI => by
      cases c : p k
      · left
        refine ⟨(), fun i hi => ?_, by show L (n + 1) (nI k) = L n (nI (k + 1)); rw [hs n k hk, c]; simp⟩
        by_cases e : i = k
        · subst e; exact c
        · exact hI i (by omega)
      · right
        refine ⟨nI 1, by show L (n + 1) (nI k) = _; rw [hs n k hk, c]; simp, ?_⟩
        rw [(anyb_iff p m).mpr ⟨k, hk, c⟩]; rfl) 0 () fuel (by omega) (fun i hi => by omega) (by omega)
  rw [← hr]; exact e
section Q28
variable {T M : ms_T} {t : Nat → Nat}
def fdb (t : Nat → Nat) (p q : Nat) : Nat → Bool := fun i => (decide (t (72 + i) = p) && decide (t (82 + i) = q)) || (decide (t (72 + i) = q) && decide (t (82 + i) = p))
theorem T_isFeud (w : tb_W t) (h : tb_C T t) {p q : Nat} (hp : p < 100) (hq : q < 100) : fX7_isFeud T (nI p) (nI q) = some (bi (anyb (fdb t p q) (t 3))) := by
  obtain ⟨w0, w1, w2, w3, w4, w5, w6, w7, w8, w9⟩ := id w
  obtain ⟨h0, h1, h2, h3, h4, h5, h6, h7, h8, h9, h10, h11, h12, h13, h14, h15, h16⟩ := id h
  unfold fX7_isFeud
  refine lp_any (fun n k => fX7_isFeud_2 T n (nI p) (nI q) k) (t 3) _ ?_ ?_ FU (FU_big (by omega))
  · intro n
    simp (disch := omega) only [fX7_isFeud_2, h6, l_0, l_1, l_2, l_3, l_4, l_5, l_6, l_7, l_8, l_9, l_10, l_11, l_12, l_13, l_14, l_15, l_16, l_17, l_18, l_19, l_20, l_21, l_22, l_23, l_24, l_25, l_30, l_31, l_32, l_40, l_48, l_54, l_57, l_59, l_60, l_61, l_62, l_63, l_65, l_66, l_72, l_82, l_92, l_93, l_94, l_97, l_99, l_100, l_101, l_102, l_103, l_104, l_105, l_107, l_108, l_109, l_110, l_111, l_112, l_114, l_115, l_116, l_117, l_119, l_121, l_122, l_136, l_200, l_255, l_300, l_364, l_900, l_1000, l_1456, l_1458, l_1459, l_1460, l_1462, l_1471, l_1504, l_1510, l_1522, l_1550, l_2971, l_9999, l_10000, l_10979, l_65536, l_m1, nI_add, pk_mul, q_sub, q_ltT, q_ltF, q_leT, q_leF, q_eqT, q_eqF, q_inT, q_inF, nI_clamp, q_mlt, q_mle, q_mne, q_mne2, q_mnlt, q_mnle, q_gi, q_gil, q_gir, q_giR, q_gl, q_gli, q_glr, q_glR, q_ra, q_rai, q_ral, q_raR, q_rl, q_rli, q_rll, q_rlr, sa, sA, ia, la, q_srsr, q_sRsR, Option.bind_some, if_true, if_false, reduceIte, ite_not, not_true_eq_false, not_false_eq_true, q_z1, Nat.reduceEqDiff]
  · intro n k hk
    have b8 := w8 k hk
    simp (disch := omega) only [fX7_isFeud_2, fX7_isFeud_30, h6, h15, h16, q_eq, l_0, l_1, l_2, l_3, l_4, l_5, l_6, l_7, l_8, l_9, l_10, l_11, l_12, l_13, l_14, l_15, l_16, l_17, l_18, l_19, l_20, l_21, l_22, l_23, l_24, l_25, l_30, l_31, l_32, l_40, l_48, l_54, l_57, l_59, l_60, l_61, l_62, l_63, l_65, l_66, l_72, l_82, l_92, l_93, l_94, l_97, l_99, l_100, l_101, l_102, l_103, l_104, l_105, l_107, l_108, l_109, l_110, l_111, l_112, l_114, l_115, l_116, l_117, l_119, l_121, l_122, l_136, l_200, l_255, l_300, l_364, l_900, l_1000, l_1456, l_1458, l_1459, l_1460, l_1462, l_1471, l_1504, l_1510, l_1522, l_1550, l_2971, l_9999, l_10000, l_10979, l_65536, l_m1, nI_add, q_leF, q_inT, nI_clamp, q_gi, q_gil, q_gir, q_giR, q_gl, q_gli, q_glr, q_glR, q_ra, q_rai, q_ral, q_raR, q_rl, q_rli, q_rll, q_rlr, sa, sA, ia, la, q_srsr, q_sRsR, Option.bind_some, if_true, if_false, reduceIte, ite_not, not_true_eq_false, not_false_eq_true, q_z1, Nat.reduceEqDiff]
    unfold fdb
    by_cases c1 : t (72 + k) = p <;> by_cases c2 : t (82 + k) = q <;> by_cases c3 : t (72 + k) = q <;> by_cases c4 : t (82 + k) = p <;> (try (exfalso; omega)) <;> simp [c1, c2, c3, c4] <;> (try (intro a b; exact absurd a b)) <;> (try (intro a; exact absurd a (by omega)))
theorem N_isFeudOf (w : tb_W t) {b : Nat} (hb : b ≤ 4) (h : ∀ i, i < 92 → ra M 5 (364 * b + i) = nI (t i)) {p q : Nat} (hp : p < 100) (hq : q < 100) : fX12_isFeudOf M (nI b) (nI p) (nI q) = some (bi (anyb (fdb t p q) (t 3))) := by
  obtain ⟨w0, w1, w2, w3, w4, w5, w6, w7, w8, w9⟩ := id w
  unfold fX12_isFeudOf
  simp (disch := omega) only [l_0, l_1, l_2, l_3, l_4, l_5, l_6, l_7, l_8, l_9, l_10, l_11, l_12, l_13, l_14, l_15, l_16, l_17, l_18, l_19, l_20, l_21, l_22, l_23, l_24, l_25, l_30, l_31, l_32, l_40, l_48, l_54, l_57, l_59, l_60, l_61, l_62, l_63, l_65, l_66, l_72, l_82, l_92, l_93, l_94, l_97, l_99, l_100, l_101, l_102, l_103, l_104, l_105, l_107, l_108, l_109, l_110, l_111, l_112, l_114, l_115, l_116, l_117, l_119, l_121, l_122, l_136, l_200, l_255, l_300, l_364, l_900, l_1000, l_1456, l_1458, l_1459, l_1460, l_1462, l_1471, l_1504, l_1510, l_1522, l_1550, l_2971, l_9999, l_10000, l_10979, l_65536, l_m1, pk_mul]
  have e3 := h 3 (by omega)
  refine lp_any (fun n k => fX12_isFeudOf_10 M n (nI p) (nI q) (nI (364 * b)) k) (t 3) _ ?_ ?_ FU (FU_big (by omega))
  · intro n
    simp (disch := omega) only [fX12_isFeudOf_10, e3, l_0, l_1, l_2, l_3, l_4, l_5, l_6, l_7, l_8, l_9, l_10, l_11, l_12, l_13, l_14, l_15, l_16, l_17, l_18, l_19, l_20, l_21, l_22, l_23, l_24, l_25, l_30, l_31, l_32, l_40, l_48, l_54, l_57, l_59, l_60, l_61, l_62, l_63, l_65, l_66, l_72, l_82, l_92, l_93, l_94, l_97, l_99, l_100, l_101, l_102, l_103, l_104, l_105, l_107, l_108, l_109, l_110, l_111, l_112, l_114, l_115, l_116, l_117, l_119, l_121, l_122, l_136, l_200, l_255, l_300, l_364, l_900, l_1000, l_1456, l_1458, l_1459, l_1460, l_1462, l_1471, l_1504, l_1510, l_1522, l_1550, l_2971, l_9999, l_10000, l_10979, l_65536, l_m1, nI_add, pk_mul, q_sub, q_ltT, q_ltF, q_leT, q_leF, q_eqT, q_eqF, q_inT, q_inF, nI_clamp, q_mlt, q_mle, q_mne, q_mne2, q_mnlt, q_mnle, q_gi, q_gil, q_gir, q_giR, q_gl, q_gli, q_glr, q_glR, q_ra, q_rai, q_ral, q_raR, q_rl, q_rli, q_rll, q_rlr, sa, sA, ia, la, q_srsr, q_sRsR, Option.bind_some, if_true, if_false, reduceIte, ite_not, not_true_eq_false, not_false_eq_true, q_z1, Nat.reduceEqDiff]
  · intro n k hk
    have b8 := w8 k hk
    have e1 := h (72 + k) (by omega)
    have e2 := h (82 + k) (by omega)
    simp (disch := omega) only [fX12_isFeudOf_10, fX12_isFeudOf_66, e3, Nat.add_assoc, e1, e2, q_eq, l_0, l_1, l_2, l_3, l_4, l_5, l_6, l_7, l_8, l_9, l_10, l_11, l_12, l_13, l_14, l_15, l_16, l_17, l_18, l_19, l_20, l_21, l_22, l_23, l_24, l_25, l_30, l_31, l_32, l_40, l_48, l_54, l_57, l_59, l_60, l_61, l_62, l_63, l_65, l_66, l_72, l_82, l_92, l_93, l_94, l_97, l_99, l_100, l_101, l_102, l_103, l_104, l_105, l_107, l_108, l_109, l_110, l_111, l_112, l_114, l_115, l_116, l_117, l_119, l_121, l_122, l_136, l_200, l_255, l_300, l_364, l_900, l_1000, l_1456, l_1458, l_1459, l_1460, l_1462, l_1471, l_1504, l_1510, l_1522, l_1550, l_2971, l_9999, l_10000, l_10979, l_65536, l_m1, nI_add, q_leF, q_inT, nI_clamp, q_gi, q_gil, q_gir, q_giR, q_gl, q_gli, q_glr, q_glR, q_ra, q_rai, q_ral, q_raR, q_rl, q_rli, q_rll, q_rlr, sa, sA, ia, la, q_srsr, q_sRsR, Option.bind_some, if_true, if_false, reduceIte, ite_not, not_true_eq_false, not_false_eq_true, q_z1, Nat.reduceEqDiff]
    unfold fdb
    by_cases c1 : t (72 + k) = p <;> by_cases c2 : t (82 + k) = q <;> by_cases c3 : t (72 + k) = q <;> by_cases c4 : t (82 + k) = p <;> (try (exfalso; omega)) <;> simp [c1, c2, c3, c4] <;> (try (intro a b; exact absurd a b)) <;> (try (intro a; exact absurd a (by omega)))
/-- a claim more -/
def tth (t : Nat → Nat) (a n r : Nat) : Nat → Nat := tu (tu (tu (tu t (24 + t 1) a) (32 + t 1) n) (40 + t 1) r) 1 (t 1 + 1)
theorem tth_n {a n r j : Nat} (h1 : j ≠ 24 + t 1) (h2 : j ≠ 32 + t 1) (h3 : j ≠ 40 + t 1) (h4 : j ≠ 1) : tth t a n r j = t j := by
  unfold tth; rw [tu_n _ _ _ h4, tu_n _ _ _ h3, tu_n _ _ _ h2, tu_n _ _ _ h1]
theorem tth_1 {a n r : Nat} : tth t a n r 1 = t 1 + 1 := by unfold tth; rw [tu_e _ _ _ rfl]
theorem tth_a {a n r : Nat} : tth t a n r (24 + t 1) = a := by unfold tth; rw [tu_n _ _ _ (by omega), tu_n _ _ _ (by omega), tu_n _ _ _ (by omega), tu_e _ _ _ rfl]
theorem tth_b {a n r : Nat} : tth t a n r (32 + t 1) = n := by unfold tth; rw [tu_n _ _ _ (by omega), tu_n _ _ _ (by omega), tu_e _ _ _ rfl]
theorem tth_c {a n r : Nat} : tth t a n r (40 + t 1) = r := by unfold tth; rw [tu_n _ _ _ (by omega), tu_e _ _ _ rfl]
theorem W_tth (w : tb_W t) {a n r : Nat} (hk : t 1 < 8) (ha : a < t 0) (hn : n < 2 ^ t 1) (hr : r ≤ 1) : tb_W (tth t a n r) := by
  obtain ⟨w0, w1, w2, w3, w4, w5, w6, w7, w8, w9⟩ := w
  have e0 : tth t a n r 0 = t 0 := tth_n (by omega) (by omega) (by omega) (by omega)
  have e2 : tth t a n r 2 = t 2 := tth_n (by omega) (by omega) (by omega) (by omega)
  have e3 : tth t a n r 3 = t 3 := tth_n (by omega) (by omega) (by omega) (by omega)
  have e4 : tth t a n r 4 = t 4 := tth_n (by omega) (by omega) (by omega) (by omega)
  unfold tb_W
  rw [e0, e2, e3, e4, tth_1]
  refine ⟨w0, by omega, w2, w3, w4, ?_, ?_, ?_, ?_, ?_⟩
  · intro i hi
    rw [tth_n (by omega) (by omega) (by omega) (by omega), tth_n (by omega) (by omega) (by omega) (by omega)]
    exact w5 i hi
  · intro i hi
    by_cases c : i = t 1
    · subst c
      rw [tth_a, tth_b, tth_c]
      exact ⟨ha, hn, hr⟩
    · rw [tth_n (by omega) (by omega) (by omega) (by omega), tth_n (by omega) (by omega) (by omega) (by omega), tth_n (by omega) (by omega) (by omega) (by omega)]
      exact w6 i (by omega)
  · intro i hi
    rw [tth_n (by omega) (by omega) (by omega) (by omega), tth_n (by omega) (by omega) (by omega) (by omega), tth_n (by omega) (by omega) (by omega) (by omega), tth_n (by omega) (by omega) (by omega) (by omega)]
    exact w7 i hi
  · intro i hi
    rw [tth_n (by omega) (by omega) (by omega) (by omega), tth_n (by omega) (by omega) (by omega) (by omega)]
    exact w8 i hi
  · intro i j hi hj
    rw [tth_n (by omega) (by omega) (by omega) (by omega), tth_n (by omega) (by omega) (by omega) (by omega), tth_n (by omega) (by omega) (by omega) (by omega), tth_n (by omega) (by omega) (by omega) (by omega)]
    exact w9 i j hi hj
theorem pp_tth {a n r : Nat} (hk : t 1 < 8) (hr : r ≤ 1) : bs (tb_pp (tth t a n r)) (t 1 + 1) = if r = 1 then bs (tb_pp t) (t 1) ||| 2 ^ t 1 else bs (tb_pp t) (t 1) := by
  have e : bs (tb_pp (tth t a n r)) (t 1) = bs (tb_pp t) (t 1) := bs_eq (fun k hk => by unfold tb_pp; rw [tth_n (by omega) (by omega) (by omega) (by omega)])
  rw [bs_s, e]
  unfold tb_pp
  rw [tth_c]
  simp
theorem T_addClaim (w : tb_W t) {a n r : Nat} (hk : t 1 < 8) (hr : r ≤ 1) (h : tb_C (si T 7 (nI (bs (tb_pp t) (t 1)))) t) (h7 : gi T 7 = nI (if r = 1 then bs (tb_pp t) (t 1) ||| 2 ^ t 1 else bs (tb_pp t) (t 1))) (nm : Int64) :
    ∃ T', fX7_addClaim T (nI a) (nI n) nm = some T' ∧ tb_C T' (tth t a n r) ∧ rl T' 10 = vp_updL (rl T 10) (9 + t 1) nm ∧ gi T' 4 = nI (t 1 + 1) := by
  obtain ⟨w0, w1, w2, w3, w4, w5, w6, w7, w8, w9⟩ := id w
  obtain ⟨h0, h1, h2, h3, h4, h5, h6, h7', h8, h9, h10, h11, h12, h13, h14, h15, h16⟩ := id h
  have k4 : gi T 4 = nI (t 1) := h2
  refine ⟨si (sR (sr (sr T 3 (upd (ra T 3) (t 1) (nI a))) 4 (upd (ra T 4) (t 1) (nI n))) 10 (vp_updL (rl T 10) (9 + t 1) nm)) 4 (nI (t 1 + 1)), ?_, ?_, rfl, rfl⟩
  · simp (disch := omega) only [fX7_addClaim, k4, l_0, l_1, l_2, l_3, l_4, l_5, l_6, l_7, l_8, l_9, l_10, l_11, l_12, l_13, l_14, l_15, l_16, l_17, l_18, l_19, l_20, l_21, l_22, l_23, l_24, l_25, l_30, l_31, l_32, l_40, l_48, l_54, l_57, l_59, l_60, l_61, l_62, l_63, l_65, l_66, l_72, l_82, l_92, l_93, l_94, l_97, l_99, l_100, l_101, l_102, l_103, l_104, l_105, l_107, l_108, l_109, l_110, l_111, l_112, l_114, l_115, l_116, l_117, l_119, l_121, l_122, l_136, l_200, l_255, l_300, l_364, l_900, l_1000, l_1456, l_1458, l_1459, l_1460, l_1462, l_1471, l_1504, l_1510, l_1522, l_1550, l_2971, l_9999, l_10000, l_10979, l_65536, l_m1, nI_add, pk_mul, q_sub, q_ltT, q_ltF, q_leT, q_leF, q_eqT, q_eqF, q_inT, q_inF, nI_clamp, q_mlt, q_mle, q_mne, q_mne2, q_mnlt, q_mnle, q_gi, q_gil, q_gir, q_giR, q_gl, q_gli, q_glr, q_glR, q_ra, q_rai, q_ral, q_raR, q_rl, q_rli, q_rll, q_rlr, sa, sA, ia, la, q_srsr, q_sRsR, Option.bind_some, if_true, if_false, reduceIte, ite_not, not_true_eq_false, not_false_eq_true, q_z1, Nat.reduceEqDiff]
  · have e0 : tth t a n r 0 = t 0 := tth_n (by omega) (by omega) (by omega) (by omega)
    have e2 : tth t a n r 2 = t 2 := tth_n (by omega) (by omega) (by omega) (by omega)
    have e3 : tth t a n r 3 = t 3 := tth_n (by omega) (by omega) (by omega) (by omega)
    unfold tb_C
    rw [e0, e2, e3, tth_1]
    refine ⟨?_, h1, rfl, ?_, h4, ?_, h6, ?_, ?_, ?_, ?_, ?_, ?_, ?_, ?_, ?_, ?_⟩
    · rw [tth_n (by omega) (by omega) (by omega) (by omega)]; exact h0
    · rw [pp_tth hk hr]; exact h7
    · have e : bs (tb_ff (tth t a n r)) (t 2) = bs (tb_ff t) (t 2) := bs_eq (fun k hk => by unfold tb_ff; rw [tth_n (by omega) (by omega) (by omega) (by omega)])
      rw [e]; exact h5
    · rw [tth_n (by omega) (by omega) (by omega) (by omega)]; exact h7'
    · intro i hi; rw [tth_n (by omega) (by omega) (by omega) (by omega)]; exact h8 i hi
    · intro i hi; rw [tth_n (by omega) (by omega) (by omega) (by omega)]; exact h9 i hi
    · intro i hi
      show upd (ra T 3) (t 1) (nI a) i = _
      by_cases c : i = t 1
      · subst c; rw [up_e _ _ _ rfl, tth_a]
      · rw [up_n _ _ _ c, tth_n (by omega) (by omega) (by omega) (by omega)]; exact h10 i (by omega)
    · intro i hi
      show upd (ra T 4) (t 1) (nI n) i = _
      by_cases c : i = t 1
      · subst c; rw [up_e _ _ _ rfl, tth_b]
      · rw [up_n _ _ _ c, tth_n (by omega) (by omega) (by omega) (by omega)]; exact h11 i (by omega)
    · intro i hi; rw [tth_n (by omega) (by omega) (by omega) (by omega)]; exact h12 i hi
    · intro i hi; rw [tth_n (by omega) (by omega) (by omega) (by omega)]; exact h13 i hi
    · intro i hi; rw [tth_n (by omega) (by omega) (by omega) (by omega)]; exact h14 i hi
    · intro i hi; rw [tth_n (by omega) (by omega) (by omega) (by omega)]; exact h15 i hi
    · intro i hi; rw [tth_n (by omega) (by omega) (by omega) (by omega)]; exact h16 i hi
theorem N_thinks (w : tb_W t) {b a n r : Nat} (hb : b ≤ 4) (hk : t 1 < 8) (h : ∀ i, i < 92 → ra M 5 (364 * b + i) = nI (t i)) :
    ∃ f, fX12_thinks M (nI b) (nI a) (nI n) (nI r) = some (sr M 5 f) ∧ (∀ i, i < 92 → f (364 * b + i) = nI (tth t a n r i)) ∧ (∀ i, (i < 364 * b ∨ 364 * b + 92 ≤ i) → f i = ra M 5 i) := by
  have e1 := h 1 (by omega)
  refine ⟨upd (upd (upd (upd (ra M 5) (364 * b + (24 + t 1)) (nI a)) (364 * b + (32 + t 1)) (nI n)) (364 * b + (40 + t 1)) (nI r)) (364 * b + 1) (nI (t 1 + 1)), ?_, ?_, ?_⟩
  · simp (disch := omega) only [fX12_thinks, e1, Nat.add_assoc, up_n, l_0, l_1, l_2, l_3, l_4, l_5, l_6, l_7, l_8, l_9, l_10, l_11, l_12, l_13, l_14, l_15, l_16, l_17, l_18, l_19, l_20, l_21, l_22, l_23, l_24, l_25, l_30, l_31, l_32, l_40, l_48, l_54, l_57, l_59, l_60, l_61, l_62, l_63, l_65, l_66, l_72, l_82, l_92, l_93, l_94, l_97, l_99, l_100, l_101, l_102, l_103, l_104, l_105, l_107, l_108, l_109, l_110, l_111, l_112, l_114, l_115, l_116, l_117, l_119, l_121, l_122, l_136, l_200, l_255, l_300, l_364, l_900, l_1000, l_1456, l_1458, l_1459, l_1460, l_1462, l_1471, l_1504, l_1510, l_1522, l_1550, l_2971, l_9999, l_10000, l_10979, l_65536, l_m1, nI_add, pk_mul, q_sub, q_ltT, q_ltF, q_leT, q_leF, q_eqT, q_eqF, q_inT, q_inF, nI_clamp, q_mlt, q_mle, q_mne, q_mne2, q_mnlt, q_mnle, q_gi, q_gil, q_gir, q_giR, q_gl, q_gli, q_glr, q_glR, q_ra, q_rai, q_ral, q_raR, q_rl, q_rli, q_rll, q_rlr, sa, sA, ia, la, q_srsr, q_sRsR, Option.bind_some, if_true, if_false, reduceIte, ite_not, not_true_eq_false, not_false_eq_true, q_z1, Nat.reduceEqDiff]
  · intro i hi
    unfold tth tu upd
    by_cases c1 : i = 1
    · subst c1; simp
    · by_cases c2 : i = 40 + t 1
      · subst c2
        rw [if_neg (by omega), if_pos rfl, if_neg (by omega), if_pos rfl]
      · by_cases c3 : i = 32 + t 1
        · subst c3
          rw [if_neg (by omega), if_neg (by omega), if_pos rfl, if_neg (by omega), if_neg (by omega), if_pos rfl]
        · by_cases c4 : i = 24 + t 1
          · subst c4
            rw [if_neg (by omega), if_neg (by omega), if_neg (by omega), if_pos rfl, if_neg (by omega), if_neg (by omega), if_neg (by omega), if_pos rfl]
          · rw [if_neg (by omega), if_neg (by omega), if_neg (by omega), if_neg (by omega), if_neg (by omega), if_neg (by omega), if_neg (by omega), if_neg (by omega)]
            exact h i hi
  · intro i hi
    rw [up_n _ _ _ (by omega), up_n _ _ _ (by omega), up_n _ _ _ (by omega), up_n _ _ _ (by omega)]
/-- a feud more -/
def tan (t : Nat → Nat) (p q : Nat) : Nat → Nat := tu (tu (tu t (72 + t 3) p) (82 + t 3) q) 3 (t 3 + 1)
theorem tan_n {p q j : Nat} (h1 : j ≠ 72 + t 3) (h2 : j ≠ 82 + t 3) (h3 : j ≠ 3) : tan t p q j = t j := by
  unfold tan; rw [tu_n _ _ _ h3, tu_n _ _ _ h2, tu_n _ _ _ h1]
theorem tan_3 {p q : Nat} : tan t p q 3 = t 3 + 1 := by unfold tan; rw [tu_e _ _ _ rfl]
theorem tan_a {p q : Nat} : tan t p q (72 + t 3) = p := by unfold tan; rw [tu_n _ _ _ (by omega), tu_n _ _ _ (by omega), tu_e _ _ _ rfl]
theorem tan_b {p q : Nat} : tan t p q (82 + t 3) = q := by unfold tan; rw [tu_n _ _ _ (by omega), tu_e _ _ _ rfl]
theorem W_tan (w : tb_W t) {p q : Nat} (hk : t 3 < 10) (hp : p < t 2) (hq : q < t 2) (hpq : p ≠ q) (hno : anyb (fdb t p q) (t 3) = false) : tb_W (tan t p q) := by
  obtain ⟨w0, w1, w2, w3, w4, w5, w6, w7, w8, w9⟩ := w
  have hno2 : ∀ i, i < t 3 → ¬ (t (72 + i) = p ∧ t (82 + i) = q) ∧ ¬ (t (72 + i) = q ∧ t (82 + i) = p) := by
    intro i hi
    have : fdb t p q i = false := by
      cases c : fdb t p q i
      · rfl
      · rw [(anyb_iff _ _).mpr ⟨i, hi, c⟩] at hno; cases hno
    unfold fdb at this
    simp at this
    omega
  have e0 : tan t p q 0 = t 0 := tan_n (by omega) (by omega) (by omega)
  have e1 : tan t p q 1 = t 1 := tan_n (by omega) (by omega) (by omega)
  have e2 : tan t p q 2 = t 2 := tan_n (by omega) (by omega) (by omega)
  have e4 : tan t p q 4 = t 4 := tan_n (by omega) (by omega) (by omega)
  unfold tb_W
  rw [e0, e1, e2, e4, tan_3]
  refine ⟨w0, w1, w2, by omega, w4, ?_, ?_, ?_, ?_, ?_⟩
  · intro i hi
    rw [tan_n (by omega) (by omega) (by omega), tan_n (by omega) (by omega) (by omega)]
    exact w5 i hi
  · intro i hi
    rw [tan_n (by omega) (by omega) (by omega), tan_n (by omega) (by omega) (by omega), tan_n (by omega) (by omega) (by omega)]
    exact w6 i hi
  · intro i hi
    rw [tan_n (by omega) (by omega) (by omega), tan_n (by omega) (by omega) (by omega), tan_n (by omega) (by omega) (by omega), tan_n (by omega) (by omega) (by omega)]
    exact w7 i hi
  · intro i hi
    by_cases c : i = t 3
    · subst c; rw [tan_a, tan_b]; exact ⟨hp, hq, hpq⟩
    · rw [tan_n (by omega) (by omega) (by omega), tan_n (by omega) (by omega) (by omega)]
      exact w8 i (by omega)
  · intro i j hi hj
    by_cases c : j = t 3
    · subst c
      rw [tan_a, tan_b, tan_n (by omega) (by omega) (by omega), tan_n (by omega) (by omega) (by omega)]
      exact hno2 i hi
    · rw [tan_n (by omega) (by omega) (by omega), tan_n (by omega) (by omega) (by omega), tan_n (by omega) (by omega) (by omega), tan_n (by omega) (by omega) (by omega)]
      exact w9 i j hi (by omega)
theorem T_addFeud (w : tb_W t) (h : tb_C T t) {p q : Nat} (hk : t 3 < 10) : ∃ T', fX7_addFeud T (nI p) (nI q) = some T' ∧ tb_C T' (tan t p q) ∧ rl T' 10 = rl T 10 ∧ gi T' 13 = nI (t 3 + 1) := by
  obtain ⟨w0, w1, w2, w3, w4, w5, w6, w7, w8, w9⟩ := id w
  obtain ⟨h0, h1, h2, h3, h4, h5, h6, h7, h8, h9, h10, h11, h12, h13, h14, h15, h16⟩ := id h
  refine ⟨si (sr (sr T 8 (upd (ra T 8) (t 3) (nI p))) 9 (upd (ra T 9) (t 3) (nI q))) 13 (nI (t 3 + 1)), ?_, ?_, rfl, rfl⟩
  · simp (disch := omega) only [fX7_addFeud, h6, l_0, l_1, l_2, l_3, l_4, l_5, l_6, l_7, l_8, l_9, l_10, l_11, l_12, l_13, l_14, l_15, l_16, l_17, l_18, l_19, l_20, l_21, l_22, l_23, l_24, l_25, l_30, l_31, l_32, l_40, l_48, l_54, l_57, l_59, l_60, l_61, l_62, l_63, l_65, l_66, l_72, l_82, l_92, l_93, l_94, l_97, l_99, l_100, l_101, l_102, l_103, l_104, l_105, l_107, l_108, l_109, l_110, l_111, l_112, l_114, l_115, l_116, l_117, l_119, l_121, l_122, l_136, l_200, l_255, l_300, l_364, l_900, l_1000, l_1456, l_1458, l_1459, l_1460, l_1462, l_1471, l_1504, l_1510, l_1522, l_1550, l_2971, l_9999, l_10000, l_10979, l_65536, l_m1, nI_add, pk_mul, q_sub, q_ltT, q_ltF, q_leT, q_leF, q_eqT, q_eqF, q_inT, q_inF, nI_clamp, q_mlt, q_mle, q_mne, q_mne2, q_mnlt, q_mnle, q_gi, q_gil, q_gir, q_giR, q_gl, q_gli, q_glr, q_glR, q_ra, q_rai, q_ral, q_raR, q_rl, q_rli, q_rll, q_rlr, sa, sA, ia, la, q_srsr, q_sRsR, Option.bind_some, if_true, if_false, reduceIte, ite_not, not_true_eq_false, not_false_eq_true, q_z1, Nat.reduceEqDiff]
  · have e0 : tan t p q 0 = t 0 := tan_n (by omega) (by omega) (by omega)
    have e1 : tan t p q 1 = t 1 := tan_n (by omega) (by omega) (by omega)
    have e2 : tan t p q 2 = t 2 := tan_n (by omega) (by omega) (by omega)
    have e4 : tan t p q 4 = t 4 := tan_n (by omega) (by omega) (by omega)
    have e5 : tan t p q 5 = t 5 := tan_n (by omega) (by omega) (by omega)
    unfold tb_C
    rw [e0, e1, e2, e4, e5, tan_3]
    refine ⟨h0, h1, h2, ?_, h4, ?_, rfl, h7, ?_, ?_, ?_, ?_, ?_, ?_, ?_, ?_, ?_⟩
    · have e : bs (tb_pp (tan t p q)) (t 1) = bs (tb_pp t) (t 1) := bs_eq (fun k hk => by unfold tb_pp; rw [tan_n (by omega) (by omega) (by omega)])
      rw [e]; exact h3
    · have e : bs (tb_ff (tan t p q)) (t 2) = bs (tb_ff t) (t 2) := bs_eq (fun k hk => by unfold tb_ff; rw [tan_n (by omega) (by omega) (by omega)])
      rw [e]; exact h5
    · intro i hi; rw [tan_n (by omega) (by omega) (by omega)]; exact h8 i hi
    · intro i hi; rw [tan_n (by omega) (by omega) (by omega)]; exact h9 i hi
    · intro i hi; rw [tan_n (by omega) (by omega) (by omega)]; exact h10 i hi
    · intro i hi; rw [tan_n (by omega) (by omega) (by omega)]; exact h11 i hi
    · intro i hi; rw [tan_n (by omega) (by omega) (by omega)]; exact h12 i hi
    · intro i hi; rw [tan_n (by omega) (by omega) (by omega)]; exact h13 i hi
    · intro i hi; rw [tan_n (by omega) (by omega) (by omega)]; exact h14 i hi
    · intro i hi
      show upd (ra T 8) (t 3) (nI p) i = _
      by_cases c : i = t 3
      · subst c; rw [up_e _ _ _ rfl, tan_a]
      · rw [up_n _ _ _ c, tan_n (by omega) (by omega) (by omega)]; exact h15 i (by omega)
    · intro i hi
      show upd (ra T 9) (t 3) (nI q) i = _
      by_cases c : i = t 3
      · subst c; rw [up_e _ _ _ rfl, tan_b]
      · rw [up_n _ _ _ c, tan_n (by omega) (by omega) (by omega)]; exact h16 i (by omega)
theorem N_angers (w : tb_W t) {b p q : Nat} (hb : b ≤ 4) (hk : t 3 < 10) (h : ∀ i, i < 92 → ra M 5 (364 * b + i) = nI (t i)) :
    ∃ f, fX12_angers M (nI b) (nI p) (nI q) = some (sr M 5 f) ∧ (∀ i, i < 92 → f (364 * b + i) = nI (tan t p q i)) ∧ (∀ i, (i < 364 * b ∨ 364 * b + 92 ≤ i) → f i = ra M 5 i) := by
  have e1 := h 3 (by omega)
  refine ⟨upd (upd (upd (ra M 5) (364 * b + (72 + t 3)) (nI p)) (364 * b + (82 + t 3)) (nI q)) (364 * b + 3) (nI (t 3 + 1)), ?_, ?_, ?_⟩
  · simp (disch := omega) only [fX12_angers, e1, Nat.add_assoc, up_n, l_0, l_1, l_2, l_3, l_4, l_5, l_6, l_7, l_8, l_9, l_10, l_11, l_12, l_13, l_14, l_15, l_16, l_17, l_18, l_19, l_20, l_21, l_22, l_23, l_24, l_25, l_30, l_31, l_32, l_40, l_48, l_54, l_57, l_59, l_60, l_61, l_62, l_63, l_65, l_66, l_72, l_82, l_92, l_93, l_94, l_97, l_99, l_100, l_101, l_102, l_103, l_104, l_105, l_107, l_108, l_109, l_110, l_111, l_112, l_114, l_115, l_116, l_117, l_119, l_121, l_122, l_136, l_200, l_255, l_300, l_364, l_900, l_1000, l_1456, l_1458, l_1459, l_1460, l_1462, l_1471, l_1504, l_1510, l_1522, l_1550, l_2971, l_9999, l_10000, l_10979, l_65536, l_m1, nI_add, pk_mul, q_sub, q_ltT, q_ltF, q_leT, q_leF, q_eqT, q_eqF, q_inT, q_inF, nI_clamp, q_mlt, q_mle, q_mne, q_mne2, q_mnlt, q_mnle, q_gi, q_gil, q_gir, q_giR, q_gl, q_gli, q_glr, q_glR, q_ra, q_rai, q_ral, q_raR, q_rl, q_rli, q_rll, q_rlr, sa, sA, ia, la, q_srsr, q_sRsR, Option.bind_some, if_true, if_false, reduceIte, ite_not, not_true_eq_false, not_false_eq_true, q_z1, Nat.reduceEqDiff]
  · intro i hi
    unfold tan tu upd
    by_cases c1 : i = 3
    · subst c1; simp
    · by_cases c2 : i = 82 + t 3
      · subst c2
        rw [if_neg (by omega), if_pos rfl, if_neg (by omega), if_pos rfl]
      · by_cases c3 : i = 72 + t 3
        · subst c3
          rw [if_neg (by omega), if_neg (by omega), if_pos rfl, if_neg (by omega), if_neg (by omega), if_pos rfl]
        · rw [if_neg (by omega), if_neg (by omega), if_neg (by omega), if_neg (by omega), if_neg (by omega), if_neg (by omega)]
          exact h i hi
  · intro i hi
    rw [up_n _ _ _ (by omega), up_n _ _ _ (by omega), up_n _ _ _ (by omega)]
end Q28
