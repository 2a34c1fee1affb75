/-! games of two -/
def fm (g : Nat → Nat) (p : Nat → Bool) (b : Nat) : Nat → Nat
  | 0 => b
  | n + 1 => if p n then max (fm g p b n) (g n) else fm g p b n
theorem fm_s (g : Nat → Nat) (p : Nat → Bool) (b n : Nat) : fm g p b (n + 1) = if p n then max (fm g p b n) (g n) else fm g p b n := rfl
theorem fm_b (g : Nat → Nat) (p : Nat → Bool) (b : Nat) : ∀ n, b ≤ fm g p b n
  | 0 => Nat.le_refl _
  | n + 1 => by have := fm_b g p b n; rw [fm_s]; split <;> omega
theorem fm_ge (g : Nat → Nat) (p : Nat → Bool) (b : Nat) : ∀ n k, k < n → p k = true → g k ≤ fm g p b n
  | 0, k, h, _ => absurd h (by omega)
  | n + 1, k, h, hp => by
    rw [fm_s]
    by_cases c : k = n
    · subst c; rw [if_pos hp]; omega
    · have := fm_ge g p b n k (by omega) hp
      split <;> omega
theorem fm_le {g : Nat → Nat} {p : Nat → Bool} {b c : Nat} (hb : b ≤ c) : ∀ n, (∀ k, k < n → p k = true → g k ≤ c) → fm g p b n ≤ c
  | 0, _ => hb
  | n + 1, h => by
    have ih := fm_le (g := g) (p := p) hb n (fun k hk => h k (by omega))
    rw [fm_s]
    split
    · rename_i e
      have := h n (by omega) e
      omega
    · exact ih
/-- the most worth one comes to from a height, by so many sayings of what stands -/
def mw (t : Nat → Nat) : Nat → Nat → Nat
  | 0, h => wrt t h
  | r + 1, h => fm (fun k => mw t r (t (24 + k) + 1)) (fun k => (stn t).testBit k && nrb (t (24 + k) + 1) h) (wrt t h) (t 1)
theorem mw_s (t : Nat → Nat) (r h : Nat) : mw t (r + 1) h = fm (fun k => mw t r (t (24 + k) + 1)) (fun k => (stn t).testBit k && nrb (t (24 + k) + 1) h) (wrt t h) (t 1) := rfl
theorem mw_w (t : Nat → Nat) (r h : Nat) : wrt t h ≤ mw t r h := by
  cases r with
  | zero => exact Nat.le_refl _
  | succ r => exact fm_b _ _ _ _
theorem mw_mono (t : Nat → Nat) : ∀ r h, mw t r h ≤ mw t (r + 1) h
  | 0, h => mw_w t 1 h
  | r + 1, h => by
    rw [mw_s t r h]
    refine fm_le (mw_w t (r + 2) h) (t 1) (fun k hk hp => ?_)
    refine Nat.le_trans (mw_mono t r _) ?_
    rw [mw_s t (r + 1) h]
    exact fm_ge (fun k => mw t (r + 1) (t (24 + k) + 1)) _ _ (t 1) k hk hp
theorem mw_le {t : Nat → Nat} (w : tb_W t) : ∀ r h, h ≤ t 0 → mw t r h ≤ 20
  | 0, h, hh => wrt_le w hh
  | r + 1, h, hh => by
    rw [mw_s]
    exact fm_le (wrt_le w hh) _ (fun k hk _ => mw_le w r _ (by have := (w.2.2.2.2.2.2.1 k hk).1; omega))
theorem wrt_keep {t t2 : Nat → Nat} (h : ∀ j, j < 54 → t2 j = t j) {a : Nat} (ha : a ≤ 9) : wrt t2 a = wrt t a := by
  unfold wrt; by_cases c : a = 0
  · rw [if_pos c, if_pos c]
  · rw [if_neg c, if_neg c, h _ (by omega)]
theorem mw_keep {t t2 : Nat → Nat} (w : tb_W t) (h : ∀ j, j < 54 → t2 j = t j) : ∀ r a, a ≤ 9 → mw t2 r a = mw t r a
  | 0, a, ha => wrt_keep h ha
  | r + 1, a, ha => by
    have w0 := w.1
    have w1 := w.2.1
    have es : stn t2 = stn t := stn_keep (h 1 (by omega)) (fun j a b => h j (by omega)) w1
    rw [mw_s, mw_s, wrt_keep h ha, h 1 (by omega), es]
    have : ∀ n, n ≤ t 1 → fm (fun k => mw t2 r (t2 (24 + k) + 1)) (fun k => (stn t).testBit k && nrb (t2 (24 + k) + 1) a) (wrt t a) n = fm (fun k => mw t r (t (24 + k) + 1)) (fun k => (stn t).testBit k && nrb (t (24 + k) + 1) a) (wrt t a) n := by
      intro n
      induction n with
      | zero => intro _; rfl
      | succ n ih =>
        intro hn
        have b6 := w.2.2.2.2.2.2.1 n (by omega)
        rw [fm_s, fm_s, ih (by omega)]
        show (if ((stn t).testBit n && nrb (t2 (24 + n) + 1) a) = true then max _ (mw t2 r (t2 (24 + n) + 1)) else _) = _
        rw [h (24 + n) (by omega), mw_keep w h r (t (24 + n) + 1) (by omega)]
    exact this (t 1) (Nat.le_refl _)
/-- what one comes to, as he is -/
def gA (t : Nat → Nat) (p r : Nat) : Nat := if t (60 + p) = 1 ∨ t (54 + p) = 0 then wrt t (t (54 + p)) else mw t r (t (54 + p))
theorem gA_le {t : Nat → Nat} (w : tb_W t) {p r : Nat} (hp : p < t 2) : gA t p r ≤ 20 := by
  have b7 := w.2.2.2.2.2.2.2.1 p hp
  unfold gA; split
  · exact wrt_le w b7.2.1
  · exact mw_le w r _ b7.2.1
section Q49
variable {T M W S : ms_T} {t : Nat → Nat}
theorem W_mw (w : tb_W t) (h : tb_C T t) (hw : gi W 1 = nI (stn t)) : ∀ r d a, a ≤ t 0 → r < 10 → r < d → fX10_mostWorthFrom d W T (nI a) (nI r) = some (nI (mw t r a), W, T) := by
  obtain ⟨w0, w1, w2, w3, w4, w5, w6, w7, w8, w9⟩ := id w
  have h2 := h.2.2.1
  have bst := stn_lt w
  intro r
  induction r with
  | zero =>
    intro d a ha hr hd
    obtain ⟨d, rfl⟩ : ∃ e, d = e + 1 := ⟨d - 1, by omega⟩
    show fX10_mostWorthFrom_0 _ W T (nI a) (nI 0) = _
    unfold fX10_mostWorthFrom_0
    rw [T_worthAt w h ha, Option.bind_some]
    show fX10_mostWorthFrom_12 _ (999999 + 1) W T (nI a) (nI 0) (nI (wrt t a)) (nI 0) = _
    show (if gi T 4 ≤ nI 0 then _ else _) = _
    rw [h2]
    split
    · rfl
    · rw [if_pos (show nI 0 ≤ (0 : Int32) by decide)]; rfl
  | succ r ih =>
    intro d a ha hr hd
    obtain ⟨d, rfl⟩ : ∃ e, d = e + 1 := ⟨d - 1, by omega⟩
    show fX10_mostWorthFrom_0 _ W T (nI a) (nI (r + 1)) = _
    unfold fX10_mostWorthFrom_0
    rw [T_worthAt w h ha, Option.bind_some]
    obtain ⟨x, e, hx⟩ := lp_up (fun f k s => fX10_mostWorthFrom_12 (fX10_mostWorthFrom d) f W T (nI a) (nI (r + 1)) s k) (t 1) (fun n s => s = nI (fm (fun k => mw t r (t (24 + k) + 1)) (fun k => (stn t).testBit k && nrb (t (24 + k) + 1) a) (wrt t a) n)) (fun x => x = (nI (mw t (r + 1) a), W, T))
      (fun f s hs => ⟨(s, W, T), by simp (disch := omega) only [fX10_mostWorthFrom_12, h2, l_0, l_1, l_2, l_3, l_4, l_5, l_6, l_7, l_8, l_9, l_10, l_11, l_12, l_13, l_14, l_15, l_16, l_17, l_18, l_19, l_20, l_21, l_22, l_23, l_24, l_25, l_30, l_31, l_32, l_40, l_48, l_54, l_57, l_59, l_60, l_61, l_62, l_63, l_65, l_66, l_72, l_82, l_92, l_93, l_94, l_97, l_99, l_100, l_101, l_102, l_103, l_104, l_105, l_107, l_108, l_109, l_110, l_111, l_112, l_114, l_115, l_116, l_117, l_119, l_121, l_122, l_136, l_200, l_255, l_300, l_364, l_900, l_1000, l_1456, l_1458, l_1459, l_1460, l_1462, l_1471, l_1504, l_1510, l_1522, l_1550, l_2971, l_9999, l_10000, l_10979, l_65536, l_m1, nI_add, pk_mul, q_sub, q_ltT, q_ltF, q_leT, q_leF, q_eqT, q_eqF, q_inT, q_inF, nI_clamp, q_mlt, q_mle, q_mne, q_mne2, q_mnlt, q_mnle, Option.bind_some, if_true, if_false, reduceIte, ite_not, not_true_eq_false, not_false_eq_true, q_z1, Nat.reduceEqDiff], by rw [hs]; rfl⟩)
      (fun f k s hk hs => by
        left
        subst hs
        refine ⟨_, rfl, ?_⟩
        have b6 := w6 k hk
        have en := T_isNear w h hk (a := a) (by omega)
        have eh := T_heightOf w h hk
        have ei := ih d (t (24 + k) + 1) (by omega) (by omega) (by omega)
        have l1 := mw_le w r (t (24 + k) + 1) (by omega)
        have l2 : fm (fun k => mw t r (t (24 + k) + 1)) (fun k => (stn t).testBit k && nrb (t (24 + k) + 1) a) (wrt t a) k ≤ 20 := fm_le (wrt_le w ha) k (fun j hj _ => mw_le w r _ (by have := (w6 j (by omega)).1; omega))
        rw [fm_s]
        cases hb : (stn t).testBit k
        · simp (disch := omega) only [fX10_mostWorthFrom_12, h2, hw, q_bit, hb, b2_0, Bool.false_and, l_0, l_1, l_2, l_3, l_4, l_5, l_6, l_7, l_8, l_9, l_10, l_11, l_12, l_13, l_14, l_15, l_16, l_17, l_18, l_19, l_20, l_21, l_22, l_23, l_24, l_25, l_30, l_31, l_32, l_40, l_48, l_54, l_57, l_59, l_60, l_61, l_62, l_63, l_65, l_66, l_72, l_82, l_92, l_93, l_94, l_97, l_99, l_100, l_101, l_102, l_103, l_104, l_105, l_107, l_108, l_109, l_110, l_111, l_112, l_114, l_115, l_116, l_117, l_119, l_121, l_122, l_136, l_200, l_255, l_300, l_364, l_900, l_1000, l_1456, l_1458, l_1459, l_1460, l_1462, l_1471, l_1504, l_1510, l_1522, l_1550, l_2971, l_9999, l_10000, l_10979, l_65536, l_m1, nI_add, pk_mul, q_sub, q_ltT, q_ltF, q_leT, q_leF, q_eqT, q_eqF, q_inT, q_inF, nI_clamp, q_mlt, q_mle, q_mne, q_mne2, q_mnlt, q_mnle, Option.bind_some, if_true, if_false, reduceIte, ite_not, not_true_eq_false, not_false_eq_true, q_z1, Nat.reduceEqDiff, Bool.false_eq_true]
        · cases hn : nrb (t (24 + k) + 1) a
          · rw [hn] at en
            simp (disch := omega) only [fX10_mostWorthFrom_12, h2, hw, q_bit, hb, en, bi, b2_0, b2_1, Bool.and_false, l_0, l_1, l_2, l_3, l_4, l_5, l_6, l_7, l_8, l_9, l_10, l_11, l_12, l_13, l_14, l_15, l_16, l_17, l_18, l_19, l_20, l_21, l_22, l_23, l_24, l_25, l_30, l_31, l_32, l_40, l_48, l_54, l_57, l_59, l_60, l_61, l_62, l_63, l_65, l_66, l_72, l_82, l_92, l_93, l_94, l_97, l_99, l_100, l_101, l_102, l_103, l_104, l_105, l_107, l_108, l_109, l_110, l_111, l_112, l_114, l_115, l_116, l_117, l_119, l_121, l_122, l_136, l_200, l_255, l_300, l_364, l_900, l_1000, l_1456, l_1458, l_1459, l_1460, l_1462, l_1471, l_1504, l_1510, l_1522, l_1550, l_2971, l_9999, l_10000, l_10979, l_65536, l_m1, nI_add, pk_mul, q_sub, q_ltT, q_ltF, q_leT, q_leF, q_eqT, q_eqF, q_inT, q_inF, nI_clamp, q_mlt, q_mle, q_mne, q_mne2, q_mnlt, q_mnle, Option.bind_some, if_true, if_false, reduceIte, ite_not, not_true_eq_false, not_false_eq_true, q_z1, Nat.reduceEqDiff, Bool.false_eq_true]
          · rw [hn] at en
            simp (disch := omega) only [fX10_mostWorthFrom_12, h2, hw, q_bit, hb, en, eh, bi, b2_1, Bool.and_self, Nat.add_sub_cancel, ei, q_maxi, l_0, l_1, l_2, l_3, l_4, l_5, l_6, l_7, l_8, l_9, l_10, l_11, l_12, l_13, l_14, l_15, l_16, l_17, l_18, l_19, l_20, l_21, l_22, l_23, l_24, l_25, l_30, l_31, l_32, l_40, l_48, l_54, l_57, l_59, l_60, l_61, l_62, l_63, l_65, l_66, l_72, l_82, l_92, l_93, l_94, l_97, l_99, l_100, l_101, l_102, l_103, l_104, l_105, l_107, l_108, l_109, l_110, l_111, l_112, l_114, l_115, l_116, l_117, l_119, l_121, l_122, l_136, l_200, l_255, l_300, l_364, l_900, l_1000, l_1456, l_1458, l_1459, l_1460, l_1462, l_1471, l_1504, l_1510, l_1522, l_1550, l_2971, l_9999, l_10000, l_10979, l_65536, l_m1, nI_add, pk_mul, q_sub, q_ltT, q_ltF, q_leT, q_leF, q_eqT, q_eqF, q_inT, q_inF, nI_clamp, q_mlt, q_mle, q_mne, q_mne2, q_mnlt, q_mnle, Option.bind_some, if_true, if_false, reduceIte, ite_not, not_true_eq_false, not_false_eq_true, q_z1, Nat.reduceEqDiff]) 0 (nI (wrt t a)) FU (by omega) rfl (by unfold FU; omega)
    rw [hx] at e; exact e
theorem says_0 (w : tb_W t) {p : Nat} (hp : p < t 2) : says t p = 0 ↔ ∀ k, k < t 1 → sayb t p k = false := by
  constructor
  · intro h k hk
    have := bs_bit (fun _ k => sayb t p k) (t 1) k
    have e : bs (fun _ k => sayb t p k) (t 1) = 0 := h
    rw [e] at this
    simpa [hk] using this.symm
  · intro h
    unfold says
    have e := bs_eq (p := fun _ k => sayb t p k) (q := fun _ _ => false) (n := t 1) (fun k hk => h k hk)
    rw [e]
    have : ∀ m, bs (fun _ _ => false) m = 0 := by
      intro m
      induction m with
      | zero => rfl
      | succ m ih => rw [bs_s]; simpa using ih
    exact this _
theorem W_mostWorth (w : tb_W t) (h : tb_C T t) (hw : gi W 1 = nI (stn t)) {p r : Nat} (hp : p < t 2) (hr : r ≤ 3) : fX10_mostWorth W T (nI p) (nI r) = some (nI (gA t p r), W, T) := by
  obtain ⟨w0, w1, w2, w3, w4, w5, w6, w7, w8, w9⟩ := id w
  have b7 := w7 p hp
  have h13 := h.2.2.2.2.2.2.2.2.2.2.2.2.2.1 p hp
  have es := T_sayable w h hp
  have sb := bs_31 (fun _ k => sayb t p k) (n := t 1) (by omega)
  have sb' : says t p < 2147483648 := sb
  have em := W_mw w h hw r 4 (t (54 + p)) (by omega) (by omega) (by omega)
  have ew := T_worthAt w h (a := t (54 + p)) (by omega)
  have s0 := says_0 w hp
  unfold gA
  by_cases c : says t p = 0
  · have hv : (if t (60 + p) = 1 ∨ t (54 + p) = 0 then wrt t (t (54 + p)) else mw t r (t (54 + p))) = wrt t (t (54 + p)) := by
      by_cases d : t (60 + p) = 1 ∨ t (54 + p) = 0
      · rw [if_pos d]
      · rw [if_neg d]
        cases r with
        | zero => rfl
        | succ r =>
          rw [mw_s]
          refine Nat.le_antisymm (fm_le (Nat.le_refl _) _ (fun k hk hpk => ?_)) (fm_b _ _ _ _)
          have := s0.mp c k hk
          unfold sayb at this
          simp at this hpk
          have := this (by omega) (by omega)
          rw [this] at hpk
          exact absurd hpk.2 (by simp)
    rw [hv]
    simp (disch := omega) only [fX10_mostWorth, fX10_mostWorth_26, es, c, h13, ew, l_0, l_1, l_2, l_3, l_4, l_5, l_6, l_7, l_8, l_9, l_10, l_11, l_12, l_13, l_14, l_15, l_16, l_17, l_18, l_19, l_20, l_21, l_22, l_23, l_24, l_25, l_30, l_31, l_32, l_40, l_48, l_54, l_57, l_59, l_60, l_61, l_62, l_63, l_65, l_66, l_72, l_82, l_92, l_93, l_94, l_97, l_99, l_100, l_101, l_102, l_103, l_104, l_105, l_107, l_108, l_109, l_110, l_111, l_112, l_114, l_115, l_116, l_117, l_119, l_121, l_122, l_136, l_200, l_255, l_300, l_364, l_900, l_1000, l_1456, l_1458, l_1459, l_1460, l_1462, l_1471, l_1504, l_1510, l_1522, l_1550, l_2971, l_9999, l_10000, l_10979, l_65536, l_m1, nI_add, pk_mul, q_sub, q_ltT, q_ltF, q_leT, q_leF, q_eqT, q_eqF, q_inT, q_inF, nI_clamp, q_mlt, q_mle, q_mne, q_mne2, q_mnlt, q_mnle, q_gi, q_gil, q_gir, q_giR, q_gl, q_gli, q_glr, q_glR, q_ra, q_rai, q_ral, q_raR, q_rl, q_rli, q_rll, q_rlr, sa, sA, ia, la, q_srsr, q_sRsR, Option.bind_some, if_true, if_false, reduceIte, ite_not, not_true_eq_false, not_false_eq_true, q_z1, Nat.reduceEqDiff]
  · have d : ¬ (t (60 + p) = 1 ∨ t (54 + p) = 0) := by
      intro d
      refine c (s0.mpr (fun k hk => ?_))
      unfold sayb
      rcases d with d | d <;> simp [d]
    rw [if_neg d]
    simp (disch := omega) only [fX10_mostWorth, fX10_mostWorth_26, es, c, h13, em, l_0, l_1, l_2, l_3, l_4, l_5, l_6, l_7, l_8, l_9, l_10, l_11, l_12, l_13, l_14, l_15, l_16, l_17, l_18, l_19, l_20, l_21, l_22, l_23, l_24, l_25, l_30, l_31, l_32, l_40, l_48, l_54, l_57, l_59, l_60, l_61, l_62, l_63, l_65, l_66, l_72, l_82, l_92, l_93, l_94, l_97, l_99, l_100, l_101, l_102, l_103, l_104, l_105, l_107, l_108, l_109, l_110, l_111, l_112, l_114, l_115, l_116, l_117, l_119, l_121, l_122, l_136, l_200, l_255, l_300, l_364, l_900, l_1000, l_1456, l_1458, l_1459, l_1460, l_1462, l_1471, l_1504, l_1510, l_1522, l_1550, l_2971, l_9999, l_10000, l_10979, l_65536, l_m1, nI_add, pk_mul, q_sub, q_ltT, q_ltF, q_leT, q_leF, q_eqT, q_eqF, q_inT, q_inF, nI_clamp, q_mlt, q_mle, q_mne, q_mne2, q_mnlt, q_mnle, q_gi, q_gil, q_gir, q_giR, q_gl, q_gli, q_glr, q_glR, q_ra, q_rai, q_ral, q_raR, q_rl, q_rli, q_rll, q_rlr, sa, sA, ia, la, q_srsr, q_sRsR, Option.bind_some, if_true, if_false, reduceIte, ite_not, not_true_eq_false, not_false_eq_true, q_z1, Nat.reduceEqDiff]
end Q49
