/-! the reference's game: all is tried -/
/-- the first of the best, of those that may be -/
def am (g : Nat → Nat) (p : Nat → Bool) : Nat → Option Nat
  | 0 => none
  | n + 1 => if p n then (match am g p n with
      | none => some n
      | some i => if g i < g n then some n else some i) else am g p n
theorem am_s (g : Nat → Nat) (p : Nat → Bool) (n : Nat) : am g p (n + 1) = if p n then (match am g p n with
      | none => some n
      | some i => if g i < g n then some n else some i) else am g p n := rfl
theorem am_none {g : Nat → Nat} {p : Nat → Bool} : ∀ n, am g p n = none → ∀ k, k < n → p k = false
  | 0, _, k, h => absurd h (by omega)
  | n + 1, e, k, h => by
    rw [am_s] at e
    cases hp : p n
    · rw [hp] at e
      by_cases c : k = n
      · subst c; exact hp
      · exact am_none n (by simpa using e) k (by omega)
    · rw [hp] at e
      cases ha : am g p n <;> rw [ha] at e <;> simp at e
      split at e <;> cases e
theorem am_some {g : Nat → Nat} {p : Nat → Bool} : ∀ n i, am g p n = some i → i < n ∧ p i = true ∧ (∀ k, k < n → p k = true → g k ≤ g i) ∧ (∀ k, k < i → p k = true → g k < g i)
  | 0, i, e => by cases e
  | n + 1, i, e => by
    rw [am_s] at e
    cases hp : p n
    · rw [hp] at e
      obtain ⟨h1, h2, h3, h4⟩ := am_some n i (by simpa using e)
      refine ⟨by omega, h2, fun k hk hpk => ?_, h4⟩
      by_cases c : k = n
      · subst c; rw [hp] at hpk; cases hpk
      · exact h3 k (by omega) hpk
    · rw [hp] at e
      cases ha : am g p n with
      | none =>
        rw [ha] at e
        have e : n = i := by simpa using e
        subst e
        have hn := am_none n ha
        refine ⟨by omega, hp, fun k hk hpk => ?_, fun k hk hpk => ?_⟩
        · by_cases c : k = n
          · subst c; exact Nat.le_refl _
          · rw [hn k (by omega)] at hpk; cases hpk
        · rw [hn k hk] at hpk; cases hpk
      | some j =>
        rw [ha] at e
        obtain ⟨h1, h2, h3, h4⟩ := am_some n j ha
        by_cases c : g j < g n
        · have e : n = i := by simpa [c] using e
          subst e
          refine ⟨by omega, hp, fun k hk hpk => ?_, fun k hk hpk => ?_⟩
          · by_cases d : k = n
            · subst d; exact Nat.le_refl _
            · have := h3 k (by omega) hpk; omega
          · have := h3 k (by omega) hpk; omega
        · have e : j = i := by simpa [c] using e
          subst e
          refine ⟨by omega, h2, fun k hk hpk => ?_, h4⟩
          by_cases d : k = n
          · subst d; omega
          · exact h3 k (by omega) hpk
theorem dif_lt {x y b : Nat} (hx : x ≤ 1000) (hy : y ≤ 1000) (hb : b ≤ 1000) : ((nI x - nI b) < (nI y - nI b)) ↔ x < y := by
  rw [Int32.lt_iff_toInt_lt, q_dif (by omega) (by omega), q_dif (by omega) (by omega)]; omega
theorem dif_lt2 {x y b : Nat} (hx : x ≤ 1000) (hy : y ≤ 1000) (hb : b ≤ 1000) : ((nI b - nI x) < (nI b - nI y)) ↔ y < x := by
  rw [Int32.lt_iff_toInt_lt, q_dif (by omega) (by omega), q_dif (by omega) (by omega)]; omega
theorem q_rest (S : ms_T) (k : Nat) (v x : Int32) (hx : x = ra S 5 k) : sr S 5 (upd (upd (ra S 5) k v) k x) = S := by
  have e : upd (upd (ra S 5) k v) k x = ra S 5 := by
    funext j
    by_cases c : j = k
    · rw [up_e _ _ _ c, hx, c]
    · rw [up_n _ _ _ c, up_n _ _ _ c]
  rw [e]
  unfold sr
  refine Prod.ext rfl (Prod.ext rfl (Prod.ext ?_ rfl))
  funext b
  show (if b = 5 then ra S 5 else S.2.2.1 b) = S.2.2.1 b
  split
  · rename_i c; subst c; rfl
  · rfl
theorem q_rest0 (S : ms_T) (k : Nat) (x : Int32) (hx : x = ra S 5 k) : sr S 5 (upd (ra S 5) k x) = S := by
  have e : upd (ra S 5) k x = ra S 5 := by
    funext j
    by_cases c : j = k
    · rw [up_e _ _ _ c, hx, c]
    · rw [up_n _ _ _ c]
  rw [e]
  unfold sr
  refine Prod.ext rfl (Prod.ext rfl (Prod.ext ?_ rfl))
  funext b
  show (if b = 5 then ra S 5 else S.2.2.1 b) = S.2.2.1 b
  split
  · rename_i c; subst c; rfl
  · rfl
/-- one's claims, and none behind them: what each comes to -/
def gp (t : Nat → Nat) (o : Nat) : Nat → Bool := fun k => decide (k = t 1) || ((stn t).testBit k && sayb t o k)
def gg (t : Nat → Nat) (o r : Nat) : Nat → Nat := fun k => if k = t 1 then gA t o r else gA (tu t (54 + o) (t (24 + k) + 1)) o r
-- STEP
theorem gA_tu {t : Nat → Nat} (w : tb_W t) {o r v : Nat} (ho : o < t 2) (hv : v ≤ t 0) (hv0 : v ≠ 0) (hf : t (60 + o) ≠ 1) : gA (tu t (54 + o) v) o r = mw t r v := by
  have w0 := w.1
  have w2 := w.2.2.1
  unfold gA
  rw [tu_n _ _ _ (show 60 + o ≠ 54 + o by omega), tu_e _ _ _ rfl, if_neg (by omega)]
  exact mw_keep w (fun j hj => tu_n _ _ _ (by omega)) r v (by omega)
theorem gA_ot {t : Nat → Nat} (w : tb_W t) {o x r v : Nat} (ho : o < t 2) (hx : x < t 2) (hox : o ≠ x) : gA (tu t (54 + o) v) x r = gA t x r := by
  have w0 := w.1
  have w2 := w.2.2.1
  have b7 := (w.2.2.2.2.2.2.2.1 x hx).2.1
  unfold gA
  rw [tu_n _ _ _ (show 60 + x ≠ 54 + o by omega), tu_n _ _ _ (show 54 + x ≠ 54 + o by omega), mw_keep w (fun j hj => tu_n _ _ _ (by omega)) r _ (by omega), wrt_keep (fun j hj => tu_n _ _ _ (by omega)) (by omega)]
theorem gg_max {t : Nat → Nat} (w : tb_W t) {o r i : Nat} (ho : o < t 2) (h : am (gg t o r) (gp t o) (t 1 + 1) = some i) : gg t o r i = gA t o (r + 1) := by
  obtain ⟨h1, h2, h3, h4⟩ := am_some _ _ h
  have b7 := w.2.2.2.2.2.2.2.1 o ho
  have w6 := w.2.2.2.2.2.2.1
  have e0 : gg t o r (t 1) = gA t o r := by unfold gg; rw [if_pos rfl]
  have hn : gg t o r (t 1) ≤ gg t o r i := h3 (t 1) (by omega) (by unfold gp; simp)
  by_cases d : t (60 + o) = 1 ∨ t (54 + o) = 0
  · have hi : i = t 1 := by
      unfold gp at h2
      by_cases c : i = t 1
      · exact c
      · exfalso
        unfold sayb at h2
        rcases d with d | d <;> simp [c, d] at h2
    rw [hi, e0]
    unfold gA
    rw [if_pos d, if_pos d]
  · have eA : gA t o (r + 1) = mw t (r + 1) (t (54 + o)) := by unfold gA; rw [if_neg d]
    have eA0 : gA t o r = mw t r (t (54 + o)) := by unfold gA; rw [if_neg d]
    have d1 : t (60 + o) ≠ 1 := fun e => d (Or.inl e)
    have d2 : t (54 + o) ≠ 0 := fun e => d (Or.inr e)
    have d3 : t (60 + o) = 0 := by omega
    have ek : ∀ k, k < t 1 → gg t o r k = mw t r (t (24 + k) + 1) := fun k hk => by
      unfold gg
      rw [if_neg (by omega)]
      exact gA_tu w ho (by have := (w6 k hk).1; omega) (by omega) d1
    rw [eA]
    refine Nat.le_antisymm ?_ ?_
    · by_cases c : i = t 1
      · rw [c, e0, eA0]; exact mw_mono t r _
      · have hi : i < t 1 := by omega
        rw [ek i hi, mw_s]
        refine fm_ge (fun k => mw t r (t (24 + k) + 1)) _ _ (t 1) i hi ?_
        unfold gp sayb at h2
        simp [c] at h2
        simp [h2.1, h2.2.2.2]
    · rw [mw_s]
      refine fm_le (Nat.le_trans (mw_w t r _) (by rw [← eA0, ← e0]; exact hn)) (t 1) (fun k hk hp => ?_)
      show mw t r (t (24 + k) + 1) ≤ _
      rw [← ek k hk]
      refine h3 k (by omega) ?_
      simp at hp
      unfold gp sayb
      simp [d2, d3, hp]
theorem gg_le {t : Nat → Nat} (w : tb_W t) {o r k : Nat} (ho : o < t 2) (hk : k ≤ t 1) : gg t o r k ≤ 20 := by
  have w0 := w.1
  have w2 := w.2.2.1
  unfold gg
  by_cases c : k = t 1
  · rw [if_pos c]; exact gA_le w ho
  · rw [if_neg c]
    have b6 := (w.2.2.2.2.2.2.1 k (by omega)).1
    unfold gA
    rw [tu_e _ _ _ rfl]
    have e1 : wrt (tu t (54 + o) (t (24 + k) + 1)) (t (24 + k) + 1) = wrt t (t (24 + k) + 1) := wrt_keep (fun j hj => tu_n _ _ _ (by omega)) (by omega)
    have e2 : mw (tu t (54 + o) (t (24 + k) + 1)) r (t (24 + k) + 1) = mw t r (t (24 + k) + 1) := mw_keep w (fun j hj => tu_n _ _ _ (by omega)) r _ (by omega)
    rw [e1, e2]
    split
    · exact wrt_le w (by omega)
    · exact mw_le w r _ (by omega)
theorem plays_max {S : ms_T} {t : Nat → Nat} (w : tb_W t) (h : tb_N S t) {p q τ tn r r2 d : Nat} (hp : p < t 2) (hq : q < t 2) (hpq : p ≠ q) (hτ : τ % 2 = 0) (hτn : τ < tn) (htn : tn ≤ 4)
    (hrec : ∀ t1 S1, (t1 = t ∨ ∃ v, v ≤ t 0 ∧ t1 = tu t (54 + p) v) → tb_N S1 t1 → fX12_plays d S1 (nI p) (nI q) (nI (τ + 1)) (nI tn) = some (nI (gA t1 p r) - nI (gA t1 q r2), S1)) :
    ∃ i, am (gg t p r) (gp t p) (t 1 + 1) = some i ∧ fX12_plays (d + 1) S (nI p) (nI q) (nI τ) (nI tn) = some (nI (gA t p (r + 1)) - nI (gA t q r2), if τ = 0 then si S 38 (nI i) else S) := by
  obtain ⟨w0, w1, w2, w3, w4, w5, w6, w7, w8, w9⟩ := id w
  have hu : ∀ i, i < 92 → ra S 5 i = nI (t i) := h
  have b7 := w7 p (by omega)
  have bst := stn_lt w
  have sb := bs_31 (fun _ k => sayb t p k) (n := t 1) (by omega)
  have sb' : says t p < 2147483648 := sb
  have hcan : says t p &&& stn t < 2147483648 := Nat.lt_of_le_of_lt Nat.and_le_left sb'
  have hB : gA t q r2 ≤ 20 := gA_le w (by omega)
  have ex : ∃ i, am (gg t p r) (gp t p) (t 1 + 1) = some i := by
    cases e : am (gg t p r) (gp t p) (t 1 + 1) with
    | none =>
      have := am_none _ e (t 1) (by omega)
      unfold gp at this
      simp at this
    | some i => exact ⟨i, rfl⟩
  obtain ⟨i, hi⟩ := ex
  refine ⟨i, hi, ?_⟩
  have hI : ∀ k, k ≤ t 1 + 1 → ∀ j, am (gg t p r) (gp t p) k = some j → j < k ∧ gg t p r j ≤ 20 := fun k hk j e => by
    have := am_some _ _ e
    exact ⟨this.1, gg_le w (by omega) (by omega)⟩
  obtain ⟨x, e, hx⟩ := lp_up (fun f k (s : Int32 × Int32) => fX12_plays_95 (fX12_plays d) f S (nI p) (nI q) (nI τ) (nI tn) (nI 1) (nI p) (nI (t (54 + p))) (nI (says t p &&& stn t)) s.1 s.2 k) (t 1 + 1)
    (fun k s => s = match am (gg t p r) (gp t p) k with | none => (nI 0, nM) | some j => (nI (gg t p r j) - nI (gA t q r2), nI j))
    (fun x => x = (nI (gA t p (r + 1)) - nI (gA t q r2), if τ = 0 then si S 38 (nI i) else S))
    (fun f s hs => by
      rw [hi] at hs
      have em := gg_max w (by omega) hi
      have hs : s = (nI (gg t p r i) - nI (gA t q r2), nI i) := hs
      rw [em] at hs
      subst hs
      by_cases c : τ = 0
      · subst c
        exact ⟨_, by simp (disch := omega) only [fX12_plays_95, hu, l_0, l_1, l_2, l_3, l_4, l_5, l_6, l_7, l_8, l_9, l_10, l_11, l_12, l_13, l_14, l_15, l_16, l_17, l_18, l_19, l_20, l_21, l_22, l_23, l_24, l_25, l_30, l_31, l_32, l_40, l_48, l_54, l_57, l_59, l_60, l_61, l_62, l_63, l_65, l_66, l_72, l_82, l_92, l_93, l_94, l_97, l_99, l_100, l_101, l_102, l_103, l_104, l_105, l_107, l_108, l_109, l_110, l_111, l_112, l_114, l_115, l_116, l_117, l_119, l_121, l_122, l_136, l_200, l_255, l_300, l_364, l_900, l_1000, l_1456, l_1458, l_1459, l_1460, l_1462, l_1471, l_1504, l_1510, l_1522, l_1550, l_2971, l_9999, l_10000, l_10979, l_65536, l_m1, nI_add, pk_mul, q_sub, q_ltT, q_ltF, q_leT, q_leF, q_eqT, q_eqF, q_inT, q_inF, nI_clamp, q_mlt, q_mle, q_mne, q_mne2, q_mnlt, q_mnle, q_gi, q_gil, q_gir, q_giR, q_gl, q_gli, q_glr, q_glR, q_ra, q_rai, q_ral, q_raR, q_rl, q_rli, q_rll, q_rlr, sa, sA, ia, la, q_srsr, q_sRsR, Option.bind_some, if_true, if_false, reduceIte, ite_not, not_true_eq_false, not_false_eq_true, q_z1, Nat.reduceEqDiff], rfl⟩
      · exact ⟨(nI (gA t p (r + 1)) - nI (gA t q r2), S), by simp (disch := omega) only [fX12_plays_95, hu, c, l_0, l_1, l_2, l_3, l_4, l_5, l_6, l_7, l_8, l_9, l_10, l_11, l_12, l_13, l_14, l_15, l_16, l_17, l_18, l_19, l_20, l_21, l_22, l_23, l_24, l_25, l_30, l_31, l_32, l_40, l_48, l_54, l_57, l_59, l_60, l_61, l_62, l_63, l_65, l_66, l_72, l_82, l_92, l_93, l_94, l_97, l_99, l_100, l_101, l_102, l_103, l_104, l_105, l_107, l_108, l_109, l_110, l_111, l_112, l_114, l_115, l_116, l_117, l_119, l_121, l_122, l_136, l_200, l_255, l_300, l_364, l_900, l_1000, l_1456, l_1458, l_1459, l_1460, l_1462, l_1471, l_1504, l_1510, l_1522, l_1550, l_2971, l_9999, l_10000, l_10979, l_65536, l_m1, nI_add, pk_mul, q_sub, q_ltT, q_ltF, q_leT, q_leF, q_eqT, q_eqF, q_inT, q_inF, nI_clamp, q_mlt, q_mle, q_mne, q_mne2, q_mnlt, q_mnle, q_gi, q_gil, q_gir, q_giR, q_gl, q_gli, q_glr, q_glR, q_ra, q_rai, q_ral, q_raR, q_rl, q_rli, q_rll, q_rlr, sa, sA, ia, la, q_srsr, q_sRsR, Option.bind_some, if_true, if_false, reduceIte, ite_not, not_true_eq_false, not_false_eq_true, q_z1, Nat.reduceEqDiff], by rw [if_neg c]⟩)
    (fun f k s hk hs => by
      left
      subst hs
      refine ⟨_, rfl, ?_⟩
      rw [am_s]
      have gl := gg_le w (o := p) (r := r) (k := k) (by omega) (by omega)
      have eh := N_has (x := says t p &&& stn t) (k := k) hcan (by omega)
      have eb : k < t 1 → (says t p &&& stn t).testBit k = gp t p k := fun hk1 => by
        rw [Nat.testBit_and]
        have : (says t p).testBit k = sayb t p k := by unfold says; rw [bs_bit]; simp [hk1]
        rw [this]
        unfold gp
        have : k ≠ t 1 := by omega
        simp [this, Bool.and_comm]
      have fin : ∀ S1, sr S1 5 (upd (ra S1 5) (54 + p) (nI (t (54 + p)))) = S → fX12_plays d S1 (nI p) (nI q) (nI (τ + 1)) (nI tn) = some (nI (gg t p r k) - nI (gA t q r2), S1) → gp t p k = true →
          fX12_plays_169 (fX12_plays d) (fX12_plays_95 (fX12_plays d) f) S1 (nI p) (nI q) (nI τ) (nI tn) (nI 1) (nI p) (nI (t (54 + p))) (nI (says t p &&& stn t)) (match am (gg t p r) (gp t p) k with | none => (nI 0, nM) | some j => (nI (gg t p r j) - nI (gA t q r2), nI j)).1 (match am (gg t p r) (gp t p) k with | none => (nI 0, nM) | some j => (nI (gg t p r j) - nI (gA t q r2), nI j)).2 (nI k) = fX12_plays_95 (fX12_plays d) f S (nI p) (nI q) (nI τ) (nI tn) (nI 1) (nI p) (nI (t (54 + p))) (nI (says t p &&& stn t)) (match (match am (gg t p r) (gp t p) k with | none => some k | some j => if gg t p r j < gg t p r k then some k else some j) with | none => (nI 0, nM) | some j => (nI (gg t p r j) - nI (gA t q r2), nI j)).1 (match (match am (gg t p r) (gp t p) k with | none => some k | some j => if gg t p r j < gg t p r k then some k else some j) with | none => (nI 0, nM) | some j => (nI (gg t p r j) - nI (gA t q r2), nI j)).2 (nI (k + 1)) := by
        intro S1 hS1 hr hgp
        cases ha : am (gg t p r) (gp t p) k with
        | none =>
          simp (disch := omega) only [fX12_plays_169, hr, hS1, l_0, l_1, l_2, l_3, l_4, l_5, l_6, l_7, l_8, l_9, l_10, l_11, l_12, l_13, l_14, l_15, l_16, l_17, l_18, l_19, l_20, l_21, l_22, l_23, l_24, l_25, l_30, l_31, l_32, l_40, l_48, l_54, l_57, l_59, l_60, l_61, l_62, l_63, l_65, l_66, l_72, l_82, l_92, l_93, l_94, l_97, l_99, l_100, l_101, l_102, l_103, l_104, l_105, l_107, l_108, l_109, l_110, l_111, l_112, l_114, l_115, l_116, l_117, l_119, l_121, l_122, l_136, l_200, l_255, l_300, l_364, l_900, l_1000, l_1456, l_1458, l_1459, l_1460, l_1462, l_1471, l_1504, l_1510, l_1522, l_1550, l_2971, l_9999, l_10000, l_10979, l_65536, l_m1, nI_add, pk_mul, q_sub, q_ltT, q_ltF, q_leT, q_leF, q_eqT, q_eqF, q_inT, q_inF, nI_clamp, q_mlt, q_mle, q_mne, q_mne2, q_mnlt, q_mnle, q_gi, q_gil, q_gir, q_giR, q_gl, q_gli, q_glr, q_glR, q_ra, q_rai, q_ral, q_raR, q_rl, q_rli, q_rll, q_rlr, sa, sA, ia, la, q_srsr, q_sRsR, Option.bind_some, if_true, if_false, reduceIte, ite_not, not_true_eq_false, not_false_eq_true, q_z1, Nat.reduceEqDiff]
        | some j =>
          obtain ⟨hj1, hj2⟩ := hI k (by omega) j ha
          have dl := dif_lt (x := gg t p r j) (y := gg t p r k) (b := gA t q r2) (by omega) (by omega) (by omega)
          by_cases c : gg t p r j < gg t p r k
          · have dl' := eq_true (dl.mpr c)
            simp (disch := omega) only [fX12_plays_169, hr, hS1, dl', c, l_0, l_1, l_2, l_3, l_4, l_5, l_6, l_7, l_8, l_9, l_10, l_11, l_12, l_13, l_14, l_15, l_16, l_17, l_18, l_19, l_20, l_21, l_22, l_23, l_24, l_25, l_30, l_31, l_32, l_40, l_48, l_54, l_57, l_59, l_60, l_61, l_62, l_63, l_65, l_66, l_72, l_82, l_92, l_93, l_94, l_97, l_99, l_100, l_101, l_102, l_103, l_104, l_105, l_107, l_108, l_109, l_110, l_111, l_112, l_114, l_115, l_116, l_117, l_119, l_121, l_122, l_136, l_200, l_255, l_300, l_364, l_900, l_1000, l_1456, l_1458, l_1459, l_1460, l_1462, l_1471, l_1504, l_1510, l_1522, l_1550, l_2971, l_9999, l_10000, l_10979, l_65536, l_m1, nI_add, pk_mul, q_sub, q_ltT, q_ltF, q_leT, q_leF, q_eqT, q_eqF, q_inT, q_inF, nI_clamp, q_mlt, q_mle, q_mne, q_mne2, q_mnlt, q_mnle, q_gi, q_gil, q_gir, q_giR, q_gl, q_gli, q_glr, q_glR, q_ra, q_rai, q_ral, q_raR, q_rl, q_rli, q_rll, q_rlr, sa, sA, ia, la, q_srsr, q_sRsR, Option.bind_some, if_true, if_false, reduceIte, ite_not, not_true_eq_false, not_false_eq_true, q_z1, Nat.reduceEqDiff]
          · have dl' := eq_false (fun g => c (dl.mp g))
            simp (disch := omega) only [fX12_plays_169, hr, hS1, dl', c, l_0, l_1, l_2, l_3, l_4, l_5, l_6, l_7, l_8, l_9, l_10, l_11, l_12, l_13, l_14, l_15, l_16, l_17, l_18, l_19, l_20, l_21, l_22, l_23, l_24, l_25, l_30, l_31, l_32, l_40, l_48, l_54, l_57, l_59, l_60, l_61, l_62, l_63, l_65, l_66, l_72, l_82, l_92, l_93, l_94, l_97, l_99, l_100, l_101, l_102, l_103, l_104, l_105, l_107, l_108, l_109, l_110, l_111, l_112, l_114, l_115, l_116, l_117, l_119, l_121, l_122, l_136, l_200, l_255, l_300, l_364, l_900, l_1000, l_1456, l_1458, l_1459, l_1460, l_1462, l_1471, l_1504, l_1510, l_1522, l_1550, l_2971, l_9999, l_10000, l_10979, l_65536, l_m1, nI_add, pk_mul, q_sub, q_ltT, q_ltF, q_leT, q_leF, q_eqT, q_eqF, q_inT, q_inF, nI_clamp, q_mlt, q_mle, q_mne, q_mne2, q_mnlt, q_mnle, q_gi, q_gil, q_gir, q_giR, q_gl, q_gli, q_glr, q_glR, q_ra, q_rai, q_ral, q_raR, q_rl, q_rli, q_rll, q_rlr, sa, sA, ia, la, q_srsr, q_sRsR, Option.bind_some, if_true, if_false, reduceIte, ite_not, not_true_eq_false, not_false_eq_true, q_z1, Nat.reduceEqDiff]
      by_cases ck : k = t 1
      · have hgp : gp t p k = true := by unfold gp; simp [ck]
        have hr := hrec t S (Or.inl rfl) h
        have egk : gg t p r k = gA t p r := by unfold gg; rw [if_pos ck]
        rw [if_pos hgp, ← fin S (q_rest0 S _ _ (hu (54 + p) (by omega)).symm) (by rw [egk]; exact hr) hgp]
        simp (disch := omega) only [fX12_plays_95, fX12_plays_122, fX12_plays_142, hu, ck, l_0, l_1, l_2, l_3, l_4, l_5, l_6, l_7, l_8, l_9, l_10, l_11, l_12, l_13, l_14, l_15, l_16, l_17, l_18, l_19, l_20, l_21, l_22, l_23, l_24, l_25, l_30, l_31, l_32, l_40, l_48, l_54, l_57, l_59, l_60, l_61, l_62, l_63, l_65, l_66, l_72, l_82, l_92, l_93, l_94, l_97, l_99, l_100, l_101, l_102, l_103, l_104, l_105, l_107, l_108, l_109, l_110, l_111, l_112, l_114, l_115, l_116, l_117, l_119, l_121, l_122, l_136, l_200, l_255, l_300, l_364, l_900, l_1000, l_1456, l_1458, l_1459, l_1460, l_1462, l_1471, l_1504, l_1510, l_1522, l_1550, l_2971, l_9999, l_10000, l_10979, l_65536, l_m1, nI_add, pk_mul, q_sub, q_ltT, q_ltF, q_leT, q_leF, q_eqT, q_eqF, q_inT, q_inF, nI_clamp, q_mlt, q_mle, q_mne, q_mne2, q_mnlt, q_mnle, q_gi, q_gil, q_gir, q_giR, q_gl, q_gli, q_glr, q_glR, q_ra, q_rai, q_ral, q_raR, q_rl, q_rli, q_rll, q_rlr, sa, sA, ia, la, q_srsr, q_sRsR, Option.bind_some, if_true, if_false, reduceIte, ite_not, not_true_eq_false, not_false_eq_true, q_z1, Nat.reduceEqDiff]
      · have hk1 : k < t 1 := by omega
        have b6 := w6 k hk1
        rw [eb hk1] at eh
        cases hgp : gp t p k
        · rw [hgp] at eh
          simp (disch := omega) only [fX12_plays_95, fX12_plays_122, hu, eh, bi, b2_0, l_0, l_1, l_2, l_3, l_4, l_5, l_6, l_7, l_8, l_9, l_10, l_11, l_12, l_13, l_14, l_15, l_16, l_17, l_18, l_19, l_20, l_21, l_22, l_23, l_24, l_25, l_30, l_31, l_32, l_40, l_48, l_54, l_57, l_59, l_60, l_61, l_62, l_63, l_65, l_66, l_72, l_82, l_92, l_93, l_94, l_97, l_99, l_100, l_101, l_102, l_103, l_104, l_105, l_107, l_108, l_109, l_110, l_111, l_112, l_114, l_115, l_116, l_117, l_119, l_121, l_122, l_136, l_200, l_255, l_300, l_364, l_900, l_1000, l_1456, l_1458, l_1459, l_1460, l_1462, l_1471, l_1504, l_1510, l_1522, l_1550, l_2971, l_9999, l_10000, l_10979, l_65536, l_m1, nI_add, pk_mul, q_sub, q_ltT, q_ltF, q_leT, q_leF, q_eqT, q_eqF, q_inT, q_inF, nI_clamp, q_mlt, q_mle, q_mne, q_mne2, q_mnlt, q_mnle, q_gi, q_gil, q_gir, q_giR, q_gl, q_gli, q_glr, q_glR, q_ra, q_rai, q_ral, q_raR, q_rl, q_rli, q_rll, q_rlr, sa, sA, ia, la, q_srsr, q_sRsR, Option.bind_some, if_true, if_false, reduceIte, ite_not, not_true_eq_false, not_false_eq_true, q_z1, Nat.reduceEqDiff, Bool.false_eq_true]
        · rw [hgp] at eh
          have hN1 : tb_N (sr S 5 (upd (ra S 5) (54 + p) (nI (t (24 + k) + 1)))) (tu t (54 + p) (t (24 + k) + 1)) := N_upd h rfl
          have hr := hrec _ _ (Or.inr ⟨t (24 + k) + 1, by omega, rfl⟩) hN1
          have egk : gg t p r k = gA (tu t (54 + p) (t (24 + k) + 1)) p r := by unfold gg; rw [if_neg ck]
          have ego : gA (tu t (54 + p) (t (24 + k) + 1)) q r2 = gA t q r2 := gA_ot w (by omega) (by omega) (by omega)
          rw [ego] at hr
          have hrs : sr (sr S 5 (upd (ra S 5) (54 + p) (nI (t (24 + k) + 1)))) 5 (upd (ra (sr S 5 (upd (ra S 5) (54 + p) (nI (t (24 + k) + 1)))) 5) (54 + p) (nI (t (54 + p)))) = S := by
            rw [q_srsr]
            exact q_rest S _ _ _ (hu (54 + p) (by omega)).symm
          rw [if_pos rfl, ← fin _ hrs (by rw [egk]; exact hr) hgp]
          simp (disch := omega) only [fX12_plays_95, fX12_plays_122, fX12_plays_142, hu, eh, bi, b2_1, l_0, l_1, l_2, l_3, l_4, l_5, l_6, l_7, l_8, l_9, l_10, l_11, l_12, l_13, l_14, l_15, l_16, l_17, l_18, l_19, l_20, l_21, l_22, l_23, l_24, l_25, l_30, l_31, l_32, l_40, l_48, l_54, l_57, l_59, l_60, l_61, l_62, l_63, l_65, l_66, l_72, l_82, l_92, l_93, l_94, l_97, l_99, l_100, l_101, l_102, l_103, l_104, l_105, l_107, l_108, l_109, l_110, l_111, l_112, l_114, l_115, l_116, l_117, l_119, l_121, l_122, l_136, l_200, l_255, l_300, l_364, l_900, l_1000, l_1456, l_1458, l_1459, l_1460, l_1462, l_1471, l_1504, l_1510, l_1522, l_1550, l_2971, l_9999, l_10000, l_10979, l_65536, l_m1, nI_add, pk_mul, q_sub, q_ltT, q_ltF, q_leT, q_leF, q_eqT, q_eqF, q_inT, q_inF, nI_clamp, q_mlt, q_mle, q_mne, q_mne2, q_mnlt, q_mnle, q_gi, q_gil, q_gir, q_giR, q_gl, q_gli, q_glr, q_glR, q_ra, q_rai, q_ral, q_raR, q_rl, q_rli, q_rll, q_rlr, sa, sA, ia, la, q_srsr, q_sRsR, Option.bind_some, if_true, if_false, reduceIte, ite_not, not_true_eq_false, not_false_eq_true, q_z1, Nat.reduceEqDiff]) 0 (nI 0, nM) FU (by omega) rfl (by unfold FU; omega)
  have e2 : fX12_sayable S (nI p) = some (nI (says t p)) := N_sayable w h (by omega)
  have e3 := N_stand0' w h
  have em : (nI τ - nI τ / nI 2 * nI 2) = nI (τ % 2) := pk_rem (by omega) (by omega) (by omega)
  show fX12_plays_0 (fX12_plays d) S (nI p) (nI q) (nI τ) (nI tn) = _
  rw [hx] at e
  unfold fX12_plays_0 fX12_plays_57
  simp (disch := omega) only [e2, e3, em, hτ, hu, q_and, l_0, l_1, l_2, l_3, l_4, l_5, l_6, l_7, l_8, l_9, l_10, l_11, l_12, l_13, l_14, l_15, l_16, l_17, l_18, l_19, l_20, l_21, l_22, l_23, l_24, l_25, l_30, l_31, l_32, l_40, l_48, l_54, l_57, l_59, l_60, l_61, l_62, l_63, l_65, l_66, l_72, l_82, l_92, l_93, l_94, l_97, l_99, l_100, l_101, l_102, l_103, l_104, l_105, l_107, l_108, l_109, l_110, l_111, l_112, l_114, l_115, l_116, l_117, l_119, l_121, l_122, l_136, l_200, l_255, l_300, l_364, l_900, l_1000, l_1456, l_1458, l_1459, l_1460, l_1462, l_1471, l_1504, l_1510, l_1522, l_1550, l_2971, l_9999, l_10000, l_10979, l_65536, l_m1, nI_add, q_eqT, q_eqF, q_inT, nI_clamp, q_gi, q_gil, q_gir, q_giR, q_gl, q_gli, q_glr, q_glR, q_ra, q_rai, q_ral, q_raR, q_rl, q_rli, q_rll, q_rlr, sa, sA, ia, la, q_srsr, q_sRsR, Option.bind_some, if_true, if_false, reduceIte, ite_not, not_true_eq_false, not_false_eq_true, q_z1, Nat.reduceEqDiff]
  exact e
theorem plays_min {S : ms_T} {t : Nat → Nat} (w : tb_W t) (h : tb_N S t) {p q τ tn r r2 d : Nat} (hp : p < t 2) (hq : q < t 2) (hpq : p ≠ q) (hτ : τ % 2 = 1) (hτn : τ < tn) (htn : tn ≤ 4)
    (hrec : ∀ t1 S1, (t1 = t ∨ ∃ v, v ≤ t 0 ∧ t1 = tu t (54 + q) v) → tb_N S1 t1 → fX12_plays d S1 (nI p) (nI q) (nI (τ + 1)) (nI tn) = some (nI (gA t1 p r2) - nI (gA t1 q r), S1)) :
    ∃ i, am (gg t q r) (gp t q) (t 1 + 1) = some i ∧ fX12_plays (d + 1) S (nI p) (nI q) (nI τ) (nI tn) = some (nI (gA t p r2) - nI (gA t q (r + 1)), if τ = 0 then si S 38 (nI i) else S) := by
  obtain ⟨w0, w1, w2, w3, w4, w5, w6, w7, w8, w9⟩ := id w
  have hu : ∀ i, i < 92 → ra S 5 i = nI (t i) := h
  have b7 := w7 q (by omega)
  have bst := stn_lt w
  have sb := bs_31 (fun _ k => sayb t q k) (n := t 1) (by omega)
  have sb' : says t q < 2147483648 := sb
  have hcan : says t q &&& stn t < 2147483648 := Nat.lt_of_le_of_lt Nat.and_le_left sb'
  have hB : gA t p r2 ≤ 20 := gA_le w (by omega)
  have ex : ∃ i, am (gg t q r) (gp t q) (t 1 + 1) = some i := by
    cases e : am (gg t q r) (gp t q) (t 1 + 1) with
    | none =>
      have := am_none _ e (t 1) (by omega)
      unfold gp at this
      simp at this
    | some i => exact ⟨i, rfl⟩
  obtain ⟨i, hi⟩ := ex
  refine ⟨i, hi, ?_⟩
  have hI : ∀ k, k ≤ t 1 + 1 → ∀ j, am (gg t q r) (gp t q) k = some j → j < k ∧ gg t q r j ≤ 20 := fun k hk j e => by
    have := am_some _ _ e
    exact ⟨this.1, gg_le w (by omega) (by omega)⟩
  obtain ⟨x, e, hx⟩ := lp_up (fun f k (s : Int32 × Int32) => fX12_plays_95 (fX12_plays d) f S (nI p) (nI q) (nI τ) (nI tn) (nI 0) (nI q) (nI (t (54 + q))) (nI (says t q &&& stn t)) s.1 s.2 k) (t 1 + 1)
    (fun k s => s = match am (gg t q r) (gp t q) k with | none => (nI 0, nM) | some j => (nI (gA t p r2) - nI (gg t q r j), nI j))
    (fun x => x = (nI (gA t p r2) - nI (gA t q (r + 1)), if τ = 0 then si S 38 (nI i) else S))
    (fun f s hs => by
      rw [hi] at hs
      have em := gg_max w (by omega) hi
      have hs : s = (nI (gA t p r2) - nI (gg t q r i), nI i) := hs
      rw [em] at hs
      subst hs
      by_cases c : τ = 0
      · subst c
        exact ⟨_, by simp (disch := omega) only [fX12_plays_95, hu, l_0, l_1, l_2, l_3, l_4, l_5, l_6, l_7, l_8, l_9, l_10, l_11, l_12, l_13, l_14, l_15, l_16, l_17, l_18, l_19, l_20, l_21, l_22, l_23, l_24, l_25, l_30, l_31, l_32, l_40, l_48, l_54, l_57, l_59, l_60, l_61, l_62, l_63, l_65, l_66, l_72, l_82, l_92, l_93, l_94, l_97, l_99, l_100, l_101, l_102, l_103, l_104, l_105, l_107, l_108, l_109, l_110, l_111, l_112, l_114, l_115, l_116, l_117, l_119, l_121, l_122, l_136, l_200, l_255, l_300, l_364, l_900, l_1000, l_1456, l_1458, l_1459, l_1460, l_1462, l_1471, l_1504, l_1510, l_1522, l_1550, l_2971, l_9999, l_10000, l_10979, l_65536, l_m1, nI_add, pk_mul, q_sub, q_ltT, q_ltF, q_leT, q_leF, q_eqT, q_eqF, q_inT, q_inF, nI_clamp, q_mlt, q_mle, q_mne, q_mne2, q_mnlt, q_mnle, q_gi, q_gil, q_gir, q_giR, q_gl, q_gli, q_glr, q_glR, q_ra, q_rai, q_ral, q_raR, q_rl, q_rli, q_rll, q_rlr, sa, sA, ia, la, q_srsr, q_sRsR, Option.bind_some, if_true, if_false, reduceIte, ite_not, not_true_eq_false, not_false_eq_true, q_z1, Nat.reduceEqDiff], rfl⟩
      · exact ⟨(nI (gA t p r2) - nI (gA t q (r + 1)), S), by simp (disch := omega) only [fX12_plays_95, hu, c, l_0, l_1, l_2, l_3, l_4, l_5, l_6, l_7, l_8, l_9, l_10, l_11, l_12, l_13, l_14, l_15, l_16, l_17, l_18, l_19, l_20, l_21, l_22, l_23, l_24, l_25, l_30, l_31, l_32, l_40, l_48, l_54, l_57, l_59, l_60, l_61, l_62, l_63, l_65, l_66, l_72, l_82, l_92, l_93, l_94, l_97, l_99, l_100, l_101, l_102, l_103, l_104, l_105, l_107, l_108, l_109, l_110, l_111, l_112, l_114, l_115, l_116, l_117, l_119, l_121, l_122, l_136, l_200, l_255, l_300, l_364, l_900, l_1000, l_1456, l_1458, l_1459, l_1460, l_1462, l_1471, l_1504, l_1510, l_1522, l_1550, l_2971, l_9999, l_10000, l_10979, l_65536, l_m1, nI_add, pk_mul, q_sub, q_ltT, q_ltF, q_leT, q_leF, q_eqT, q_eqF, q_inT, q_inF, nI_clamp, q_mlt, q_mle, q_mne, q_mne2, q_mnlt, q_mnle, q_gi, q_gil, q_gir, q_giR, q_gl, q_gli, q_glr, q_glR, q_ra, q_rai, q_ral, q_raR, q_rl, q_rli, q_rll, q_rlr, sa, sA, ia, la, q_srsr, q_sRsR, Option.bind_some, if_true, if_false, reduceIte, ite_not, not_true_eq_false, not_false_eq_true, q_z1, Nat.reduceEqDiff], by rw [if_neg c]⟩)
    (fun f k s hk hs => by
      left
      subst hs
      refine ⟨_, rfl, ?_⟩
      rw [am_s]
      have gl := gg_le w (o := q) (r := r) (k := k) (by omega) (by omega)
      have eh := N_has (x := says t q &&& stn t) (k := k) hcan (by omega)
      have eb : k < t 1 → (says t q &&& stn t).testBit k = gp t q k := fun hk1 => by
        rw [Nat.testBit_and]
        have : (says t q).testBit k = sayb t q k := by unfold says; rw [bs_bit]; simp [hk1]
        rw [this]
        unfold gp
        have : k ≠ t 1 := by omega
        simp [this, Bool.and_comm]
      have fin : ∀ S1, sr S1 5 (upd (ra S1 5) (54 + q) (nI (t (54 + q)))) = S → fX12_plays d S1 (nI p) (nI q) (nI (τ + 1)) (nI tn) = some (nI (gA t p r2) - nI (gg t q r k), S1) → gp t q k = true →
          fX12_plays_169 (fX12_plays d) (fX12_plays_95 (fX12_plays d) f) S1 (nI p) (nI q) (nI τ) (nI tn) (nI 0) (nI q) (nI (t (54 + q))) (nI (says t q &&& stn t)) (match am (gg t q r) (gp t q) k with | none => (nI 0, nM) | some j => (nI (gA t p r2) - nI (gg t q r j), nI j)).1 (match am (gg t q r) (gp t q) k with | none => (nI 0, nM) | some j => (nI (gA t p r2) - nI (gg t q r j), nI j)).2 (nI k) = fX12_plays_95 (fX12_plays d) f S (nI p) (nI q) (nI τ) (nI tn) (nI 0) (nI q) (nI (t (54 + q))) (nI (says t q &&& stn t)) (match (match am (gg t q r) (gp t q) k with | none => some k | some j => if gg t q r j < gg t q r k then some k else some j) with | none => (nI 0, nM) | some j => (nI (gA t p r2) - nI (gg t q r j), nI j)).1 (match (match am (gg t q r) (gp t q) k with | none => some k | some j => if gg t q r j < gg t q r k then some k else some j) with | none => (nI 0, nM) | some j => (nI (gA t p r2) - nI (gg t q r j), nI j)).2 (nI (k + 1)) := by
        intro S1 hS1 hr hgp
        cases ha : am (gg t q r) (gp t q) k with
        | none =>
          simp (disch := omega) only [fX12_plays_169, hr, hS1, l_0, l_1, l_2, l_3, l_4, l_5, l_6, l_7, l_8, l_9, l_10, l_11, l_12, l_13, l_14, l_15, l_16, l_17, l_18, l_19, l_20, l_21, l_22, l_23, l_24, l_25, l_30, l_31, l_32, l_40, l_48, l_54, l_57, l_59, l_60, l_61, l_62, l_63, l_65, l_66, l_72, l_82, l_92, l_93, l_94, l_97, l_99, l_100, l_101, l_102, l_103, l_104, l_105, l_107, l_108, l_109, l_110, l_111, l_112, l_114, l_115, l_116, l_117, l_119, l_121, l_122, l_136, l_200, l_255, l_300, l_364, l_900, l_1000, l_1456, l_1458, l_1459, l_1460, l_1462, l_1471, l_1504, l_1510, l_1522, l_1550, l_2971, l_9999, l_10000, l_10979, l_65536, l_m1, nI_add, pk_mul, q_sub, q_ltT, q_ltF, q_leT, q_leF, q_eqT, q_eqF, q_inT, q_inF, nI_clamp, q_mlt, q_mle, q_mne, q_mne2, q_mnlt, q_mnle, q_gi, q_gil, q_gir, q_giR, q_gl, q_gli, q_glr, q_glR, q_ra, q_rai, q_ral, q_raR, q_rl, q_rli, q_rll, q_rlr, sa, sA, ia, la, q_srsr, q_sRsR, Option.bind_some, if_true, if_false, reduceIte, ite_not, not_true_eq_false, not_false_eq_true, q_z1, Nat.reduceEqDiff]
        | some j =>
          obtain ⟨hj1, hj2⟩ := hI k (by omega) j ha
          have dl := dif_lt2 (x := gg t q r k) (y := gg t q r j) (b := gA t p r2) (by omega) (by omega) (by omega)
          by_cases c : gg t q r j < gg t q r k
          · have dl' := eq_true (dl.mpr c)
            simp (disch := omega) only [fX12_plays_169, hr, hS1, dl', c, l_0, l_1, l_2, l_3, l_4, l_5, l_6, l_7, l_8, l_9, l_10, l_11, l_12, l_13, l_14, l_15, l_16, l_17, l_18, l_19, l_20, l_21, l_22, l_23, l_24, l_25, l_30, l_31, l_32, l_40, l_48, l_54, l_57, l_59, l_60, l_61, l_62, l_63, l_65, l_66, l_72, l_82, l_92, l_93, l_94, l_97, l_99, l_100, l_101, l_102, l_103, l_104, l_105, l_107, l_108, l_109, l_110, l_111, l_112, l_114, l_115, l_116, l_117, l_119, l_121, l_122, l_136, l_200, l_255, l_300, l_364, l_900, l_1000, l_1456, l_1458, l_1459, l_1460, l_1462, l_1471, l_1504, l_1510, l_1522, l_1550, l_2971, l_9999, l_10000, l_10979, l_65536, l_m1, nI_add, pk_mul, q_sub, q_ltT, q_ltF, q_leT, q_leF, q_eqT, q_eqF, q_inT, q_inF, nI_clamp, q_mlt, q_mle, q_mne, q_mne2, q_mnlt, q_mnle, q_gi, q_gil, q_gir, q_giR, q_gl, q_gli, q_glr, q_glR, q_ra, q_rai, q_ral, q_raR, q_rl, q_rli, q_rll, q_rlr, sa, sA, ia, la, q_srsr, q_sRsR, Option.bind_some, if_true, if_false, reduceIte, ite_not, not_true_eq_false, not_false_eq_true, q_z1, Nat.reduceEqDiff]
          · have dl' := eq_false (fun g => c (dl.mp g))
            simp (disch := omega) only [fX12_plays_169, hr, hS1, dl', c, l_0, l_1, l_2, l_3, l_4, l_5, l_6, l_7, l_8, l_9, l_10, l_11, l_12, l_13, l_14, l_15, l_16, l_17, l_18, l_19, l_20, l_21, l_22, l_23, l_24, l_25, l_30, l_31, l_32, l_40, l_48, l_54, l_57, l_59, l_60, l_61, l_62, l_63, l_65, l_66, l_72, l_82, l_92, l_93, l_94, l_97, l_99, l_100, l_101, l_102, l_103, l_104, l_105, l_107, l_108, l_109, l_110, l_111, l_112, l_114, l_115, l_116, l_117, l_119, l_121, l_122, l_136, l_200, l_255, l_300, l_364, l_900, l_1000, l_1456, l_1458, l_1459, l_1460, l_1462, l_1471, l_1504, l_1510, l_1522, l_1550, l_2971, l_9999, l_10000, l_10979, l_65536, l_m1, nI_add, pk_mul, q_sub, q_ltT, q_ltF, q_leT, q_leF, q_eqT, q_eqF, q_inT, q_inF, nI_clamp, q_mlt, q_mle, q_mne, q_mne2, q_mnlt, q_mnle, q_gi, q_gil, q_gir, q_giR, q_gl, q_gli, q_glr, q_glR, q_ra, q_rai, q_ral, q_raR, q_rl, q_rli, q_rll, q_rlr, sa, sA, ia, la, q_srsr, q_sRsR, Option.bind_some, if_true, if_false, reduceIte, ite_not, not_true_eq_false, not_false_eq_true, q_z1, Nat.reduceEqDiff]
      by_cases ck : k = t 1
      · have hgp : gp t q k = true := by unfold gp; simp [ck]
        have hr := hrec t S (Or.inl rfl) h
        have egk : gg t q r k = gA t q r := by unfold gg; rw [if_pos ck]
        rw [if_pos hgp, ← fin S (q_rest0 S _ _ (hu (54 + q) (by omega)).symm) (by rw [egk]; exact hr) hgp]
        simp (disch := omega) only [fX12_plays_95, fX12_plays_122, fX12_plays_142, hu, ck, l_0, l_1, l_2, l_3, l_4, l_5, l_6, l_7, l_8, l_9, l_10, l_11, l_12, l_13, l_14, l_15, l_16, l_17, l_18, l_19, l_20, l_21, l_22, l_23, l_24, l_25, l_30, l_31, l_32, l_40, l_48, l_54, l_57, l_59, l_60, l_61, l_62, l_63, l_65, l_66, l_72, l_82, l_92, l_93, l_94, l_97, l_99, l_100, l_101, l_102, l_103, l_104, l_105, l_107, l_108, l_109, l_110, l_111, l_112, l_114, l_115, l_116, l_117, l_119, l_121, l_122, l_136, l_200, l_255, l_300, l_364, l_900, l_1000, l_1456, l_1458, l_1459, l_1460, l_1462, l_1471, l_1504, l_1510, l_1522, l_1550, l_2971, l_9999, l_10000, l_10979, l_65536, l_m1, nI_add, pk_mul, q_sub, q_ltT, q_ltF, q_leT, q_leF, q_eqT, q_eqF, q_inT, q_inF, nI_clamp, q_mlt, q_mle, q_mne, q_mne2, q_mnlt, q_mnle, q_gi, q_gil, q_gir, q_giR, q_gl, q_gli, q_glr, q_glR, q_ra, q_rai, q_ral, q_raR, q_rl, q_rli, q_rll, q_rlr, sa, sA, ia, la, q_srsr, q_sRsR, Option.bind_some, if_true, if_false, reduceIte, ite_not, not_true_eq_false, not_false_eq_true, q_z1, Nat.reduceEqDiff]
      · have hk1 : k < t 1 := by omega
        have b6 := w6 k hk1
        rw [eb hk1] at eh
        cases hgp : gp t q k
        · rw [hgp] at eh
          simp (disch := omega) only [fX12_plays_95, fX12_plays_122, hu, eh, bi, b2_0, l_0, l_1, l_2, l_3, l_4, l_5, l_6, l_7, l_8, l_9, l_10, l_11, l_12, l_13, l_14, l_15, l_16, l_17, l_18, l_19, l_20, l_21, l_22, l_23, l_24, l_25, l_30, l_31, l_32, l_40, l_48, l_54, l_57, l_59, l_60, l_61, l_62, l_63, l_65, l_66, l_72, l_82, l_92, l_93, l_94, l_97, l_99, l_100, l_101, l_102, l_103, l_104, l_105, l_107, l_108, l_109, l_110, l_111, l_112, l_114, l_115, l_116, l_117, l_119, l_121, l_122, l_136, l_200, l_255, l_300, l_364, l_900, l_1000, l_1456, l_1458, l_1459, l_1460, l_1462, l_1471, l_1504, l_1510, l_1522, l_1550, l_2971, l_9999, l_10000, l_10979, l_65536, l_m1, nI_add, pk_mul, q_sub, q_ltT, q_ltF, q_leT, q_leF, q_eqT, q_eqF, q_inT, q_inF, nI_clamp, q_mlt, q_mle, q_mne, q_mne2, q_mnlt, q_mnle, q_gi, q_gil, q_gir, q_giR, q_gl, q_gli, q_glr, q_glR, q_ra, q_rai, q_ral, q_raR, q_rl, q_rli, q_rll, q_rlr, sa, sA, ia, la, q_srsr, q_sRsR, Option.bind_some, if_true, if_false, reduceIte, ite_not, not_true_eq_false, not_false_eq_true, q_z1, Nat.reduceEqDiff, Bool.false_eq_true]
        · rw [hgp] at eh
          have hN1 : tb_N (sr S 5 (upd (ra S 5) (54 + q) (nI (t (24 + k) + 1)))) (tu t (54 + q) (t (24 + k) + 1)) := N_upd h rfl
          have hr := hrec _ _ (Or.inr ⟨t (24 + k) + 1, by omega, rfl⟩) hN1
          have egk : gg t q r k = gA (tu t (54 + q) (t (24 + k) + 1)) q r := by unfold gg; rw [if_neg ck]
          have ego : gA (tu t (54 + q) (t (24 + k) + 1)) p r2 = gA t p r2 := gA_ot w (by omega) (by omega) (by omega)
          rw [ego] at hr
          have hrs : sr (sr S 5 (upd (ra S 5) (54 + q) (nI (t (24 + k) + 1)))) 5 (upd (ra (sr S 5 (upd (ra S 5) (54 + q) (nI (t (24 + k) + 1)))) 5) (54 + q) (nI (t (54 + q)))) = S := by
            rw [q_srsr]
            exact q_rest S _ _ _ (hu (54 + q) (by omega)).symm
          rw [if_pos rfl, ← fin _ hrs (by rw [egk]; exact hr) hgp]
          simp (disch := omega) only [fX12_plays_95, fX12_plays_122, fX12_plays_142, hu, eh, bi, b2_1, l_0, l_1, l_2, l_3, l_4, l_5, l_6, l_7, l_8, l_9, l_10, l_11, l_12, l_13, l_14, l_15, l_16, l_17, l_18, l_19, l_20, l_21, l_22, l_23, l_24, l_25, l_30, l_31, l_32, l_40, l_48, l_54, l_57, l_59, l_60, l_61, l_62, l_63, l_65, l_66, l_72, l_82, l_92, l_93, l_94, l_97, l_99, l_100, l_101, l_102, l_103, l_104, l_105, l_107, l_108, l_109, l_110, l_111, l_112, l_114, l_115, l_116, l_117, l_119, l_121, l_122, l_136, l_200, l_255, l_300, l_364, l_900, l_1000, l_1456, l_1458, l_1459, l_1460, l_1462, l_1471, l_1504, l_1510, l_1522, l_1550, l_2971, l_9999, l_10000, l_10979, l_65536, l_m1, nI_add, pk_mul, q_sub, q_ltT, q_ltF, q_leT, q_leF, q_eqT, q_eqF, q_inT, q_inF, nI_clamp, q_mlt, q_mle, q_mne, q_mne2, q_mnlt, q_mnle, q_gi, q_gil, q_gir, q_giR, q_gl, q_gli, q_glr, q_glR, q_ra, q_rai, q_ral, q_raR, q_rl, q_rli, q_rll, q_rlr, sa, sA, ia, la, q_srsr, q_sRsR, Option.bind_some, if_true, if_false, reduceIte, ite_not, not_true_eq_false, not_false_eq_true, q_z1, Nat.reduceEqDiff]) 0 (nI 0, nM) FU (by omega) rfl (by unfold FU; omega)
  have e2 : fX12_sayable S (nI q) = some (nI (says t q)) := N_sayable w h (by omega)
  have e3 := N_stand0' w h
  have em : (nI τ - nI τ / nI 2 * nI 2) = nI (τ % 2) := pk_rem (by omega) (by omega) (by omega)
  show fX12_plays_0 (fX12_plays d) S (nI p) (nI q) (nI τ) (nI tn) = _
  rw [hx] at e
  unfold fX12_plays_0 fX12_plays_57
  simp (disch := omega) only [e2, e3, em, hτ, hu, q_and, l_0, l_1, l_2, l_3, l_4, l_5, l_6, l_7, l_8, l_9, l_10, l_11, l_12, l_13, l_14, l_15, l_16, l_17, l_18, l_19, l_20, l_21, l_22, l_23, l_24, l_25, l_30, l_31, l_32, l_40, l_48, l_54, l_57, l_59, l_60, l_61, l_62, l_63, l_65, l_66, l_72, l_82, l_92, l_93, l_94, l_97, l_99, l_100, l_101, l_102, l_103, l_104, l_105, l_107, l_108, l_109, l_110, l_111, l_112, l_114, l_115, l_116, l_117, l_119, l_121, l_122, l_136, l_200, l_255, l_300, l_364, l_900, l_1000, l_1456, l_1458, l_1459, l_1460, l_1462, l_1471, l_1504, l_1510, l_1522, l_1550, l_2971, l_9999, l_10000, l_10979, l_65536, l_m1, nI_add, q_eqT, q_eqF, q_inT, nI_clamp, q_gi, q_gil, q_gir, q_giR, q_gl, q_gli, q_glr, q_glR, q_ra, q_rai, q_ral, q_raR, q_rl, q_rli, q_rll, q_rlr, sa, sA, ia, la, q_srsr, q_sRsR, Option.bind_some, if_true, if_false, reduceIte, ite_not, not_true_eq_false, not_false_eq_true, q_z1, Nat.reduceEqDiff]
  exact e
