theorem q_min {a b : Nat} (ha : a < 2147483648) (hb : b < 2147483648) : jmin (nI a) (nI b) = nI (min a b) := by
  unfold jmin
  by_cases c : b < a
  · rw [if_pos (nI_lt c ha), Nat.min_eq_right (by omega)]
  · rw [if_neg (nI_nlt (by omega) hb), Nat.min_eq_left (by omega)]
section Q55
variable {T M W : ms_T} {t : Nat → Nat} {g : Nat}
/-- the class's value of a height after K rounds -/
def hk (t : Nat → Nat) (g K h : Nat) (v : Int32) : Prop := ∃ c, v = nI c ∧ c ≤ 1000 ∧ (c < 1000 → rc t g c h) ∧ ∀ m, m ≤ K → rc t g m h → c ≤ m
theorem hk_0 {K : Nat} {v : Int32} (h : hk t g K 0 v) : hk t g (K + 1) 0 v := by
  obtain ⟨c, h1, h2, h3, h4⟩ := h
  refine ⟨c, h1, h2, h3, fun m hm hr => ?_⟩
  by_cases d : m = K + 1
  · subst d
    have := h4 K (Nat.le_refl _) (rc_0.mp hr)
    omega
  · exact h4 m (by omega) hr
theorem wy_i (hw : wy W t) {i : Nat} (hi : i < t 1 * 4) : ra W 1 i = evv t (i / 4) (i % 4) := by
  have := hw.2 (i / 4) (i % 4) (by omega) (by omega)
  rw [← this]
  exact congrArg (ra W 1) (by omega)
theorem wy_sr {f : Nat → Int32} (hw : wy W t) : wy (sr W 2 f) t := hw
theorem W_shortest (w : tb_W t) (h : tb_C T t) (hw : wy W t) {f : Nat → Int32} (hf : ∀ q, q ≤ t 0 → ∃ c, f q = nI c ∧ c ≤ 1000) {a : Nat} (ha : a ≤ t 0) :
    ∃ z, fX10_shortestBy (sr W 2 f) T (nI a) = some (nI z) ∧ z ≤ 1000 ∧ (z < 1000 → ∃ q c, q ≤ t 0 ∧ eg t a q ∧ f q = nI c ∧ c ≤ 1000 ∧ z = c + 1) ∧ ∀ q c, q ≤ t 0 → eg t a q → f q = nI c → c ≤ 1000 → z ≤ c + 1 := by
  have w0 := w.1
  have w1 := w.2.1
  have h2 := h.2.2.1
  obtain ⟨r, e, z, rfl, z1, z2, z3⟩ := lp_up (fun x i s => fX10_shortestBy_6 (sr W 2 f) T x (nI a) s i) (t 1 * 4)
    (fun i s => ∃ z, s = nI z ∧ z ≤ 1000 ∧ (z < 1000 → ∃ q c, q ≤ t 0 ∧ eg t a q ∧ f q = nI c ∧ c ≤ 1000 ∧ z = c + 1) ∧ ∀ j q c, j < i → q ≤ t 0 → nrb (t (24 + j / 4) + 1) a = true → evv t (j / 4) (j % 4) = nI q → f q = nI c → c ≤ 1000 → z ≤ c + 1)
    (fun r => ∃ z, r = nI z ∧ z ≤ 1000 ∧ (z < 1000 → ∃ q c, q ≤ t 0 ∧ eg t a q ∧ f q = nI c ∧ c ≤ 1000 ∧ z = c + 1) ∧ ∀ j q c, j < t 1 * 4 → q ≤ t 0 → nrb (t (24 + j / 4) + 1) a = true → evv t (j / 4) (j % 4) = nI q → f q = nI c → c ≤ 1000 → z ≤ c + 1)
    (fun x s hs => ⟨s, by simp (disch := omega) only [fX10_shortestBy_6, h2, l_0, l_1, l_2, l_3, l_4, l_5, l_6, l_7, l_8, l_9, l_10, l_11, l_12, l_13, l_14, l_15, l_16, l_17, l_18, l_19, l_20, l_21, l_22, l_23, l_24, l_25, l_30, l_31, l_32, l_40, l_48, l_54, l_57, l_59, l_60, l_61, l_62, l_63, l_65, l_66, l_72, l_82, l_92, l_93, l_94, l_97, l_99, l_100, l_101, l_102, l_103, l_104, l_105, l_107, l_108, l_109, l_110, l_111, l_112, l_114, l_115, l_116, l_117, l_119, l_121, l_122, l_136, l_200, l_255, l_300, l_364, l_900, l_1000, l_1456, l_1458, l_1459, l_1460, l_1462, l_1471, l_1504, l_1510, l_1522, l_1550, l_2971, l_9999, l_10000, l_10979, l_65536, l_m1, nI_add, pk_mul, q_sub, q_ltT, q_ltF, q_leT, q_leF, q_eqT, q_eqF, q_inT, q_inF, nI_clamp, q_mlt, q_mle, q_mne, q_mne2, q_mnlt, q_mnle, Option.bind_some, if_true, if_false, reduceIte, ite_not, not_true_eq_false, not_false_eq_true, q_z1, Nat.reduceEqDiff], hs⟩)
    (fun x i s hi hs => by
      left
      obtain ⟨z, rfl, z1, z2, z3⟩ := hs
      have ei := wy_i hw hi
      have en := T_isNear w h (k := i / 4) (a := a) (by omega) (by omega)
      have ed : nI i / nI 4 = nI (i / 4) := pk_div (by omega) (by omega) (by omega)
      rcases evv_n w (k := i / 4) (b := i % 4) (by omega) with d | ⟨q, hq, d⟩
      · refine ⟨nI z, ⟨z, rfl, z1, z2, fun j q c hj hq hn he => ?_⟩, ?_⟩
        · by_cases cj : j = i
          · subst cj
            rw [d, q_mne (by omega)] at he; cases he
          · exact z3 j q c (by omega) hq hn he
        · rw [d] at ei
          simp (disch := omega) only [fX10_shortestBy_6, h2, ei, l_0, l_1, l_2, l_3, l_4, l_5, l_6, l_7, l_8, l_9, l_10, l_11, l_12, l_13, l_14, l_15, l_16, l_17, l_18, l_19, l_20, l_21, l_22, l_23, l_24, l_25, l_30, l_31, l_32, l_40, l_48, l_54, l_57, l_59, l_60, l_61, l_62, l_63, l_65, l_66, l_72, l_82, l_92, l_93, l_94, l_97, l_99, l_100, l_101, l_102, l_103, l_104, l_105, l_107, l_108, l_109, l_110, l_111, l_112, l_114, l_115, l_116, l_117, l_119, l_121, l_122, l_136, l_200, l_255, l_300, l_364, l_900, l_1000, l_1456, l_1458, l_1459, l_1460, l_1462, l_1471, l_1504, l_1510, l_1522, l_1550, l_2971, l_9999, l_10000, l_10979, l_65536, l_m1, nI_add, pk_mul, q_sub, q_ltT, q_ltF, q_leT, q_leF, q_eqT, q_eqF, q_inT, q_inF, nI_clamp, q_mlt, q_mle, q_mne, q_mne2, q_mnlt, q_mnle, q_gi, q_gil, q_gir, q_giR, q_gl, q_gli, q_glr, q_glR, q_ra, q_rai, q_ral, q_raR, q_rl, q_rli, q_rll, q_rlr, sa, sA, ia, la, q_srsr, q_sRsR, Option.bind_some, if_true, if_false, reduceIte, ite_not, not_true_eq_false, not_false_eq_true, q_z1, Nat.reduceEqDiff]
      · have ei' := ei
        rw [d] at ei'
        cases hn : nrb (t (24 + i / 4) + 1) a
        · rw [hn] at en
          refine ⟨nI z, ⟨z, rfl, z1, z2, fun j q c hj hq hn2 he => ?_⟩, ?_⟩
          · by_cases cj : j = i
            · subst cj
              rw [hn] at hn2; cases hn2
            · exact z3 j q c (by omega) hq hn2 he
          · simp (disch := omega) only [fX10_shortestBy_6, h2, ei', ed, en, bi, b2_0, l_0, l_1, l_2, l_3, l_4, l_5, l_6, l_7, l_8, l_9, l_10, l_11, l_12, l_13, l_14, l_15, l_16, l_17, l_18, l_19, l_20, l_21, l_22, l_23, l_24, l_25, l_30, l_31, l_32, l_40, l_48, l_54, l_57, l_59, l_60, l_61, l_62, l_63, l_65, l_66, l_72, l_82, l_92, l_93, l_94, l_97, l_99, l_100, l_101, l_102, l_103, l_104, l_105, l_107, l_108, l_109, l_110, l_111, l_112, l_114, l_115, l_116, l_117, l_119, l_121, l_122, l_136, l_200, l_255, l_300, l_364, l_900, l_1000, l_1456, l_1458, l_1459, l_1460, l_1462, l_1471, l_1504, l_1510, l_1522, l_1550, l_2971, l_9999, l_10000, l_10979, l_65536, l_m1, nI_add, pk_mul, q_sub, q_ltT, q_ltF, q_leT, q_leF, q_eqT, q_eqF, q_inT, q_inF, nI_clamp, q_mlt, q_mle, q_mne, q_mne2, q_mnlt, q_mnle, q_gi, q_gil, q_gir, q_giR, q_gl, q_gli, q_glr, q_glR, q_ra, q_rai, q_ral, q_raR, q_rl, q_rli, q_rll, q_rlr, sa, sA, ia, la, q_srsr, q_sRsR, Option.bind_some, if_true, if_false, reduceIte, ite_not, not_true_eq_false, not_false_eq_true, q_z1, Nat.reduceEqDiff]
        · rw [hn] at en
          obtain ⟨c, fc, c1⟩ := hf q hq
          refine ⟨nI (min z (c + 1)), ⟨min z (c + 1), rfl, by omega, fun hz => ?_, fun j q' c' hj hq' hn2 he fc' c1' => ?_⟩, ?_⟩
          · by_cases cz : z < c + 1
            · rw [Nat.min_eq_left (by omega)] at hz ⊢; exact z2 hz
            · rw [Nat.min_eq_right (by omega)]
              exact ⟨q, c, hq, ⟨i / 4, i % 4, by omega, by omega, hn, d⟩, fc, c1, rfl⟩
          · by_cases cj : j = i
            · subst cj
              rw [d, nI_eq (by omega) (by omega)] at he
              subst he
              rw [fc, nI_eq (by omega) (by omega)] at fc'
              omega
            · have := z3 j q' c' (by omega) hq' hn2 he fc' c1'
              omega
          · simp (disch := omega) only [fX10_shortestBy_6, h2, ei', ed, en, fc, bi, b2_1, q_min, l_0, l_1, l_2, l_3, l_4, l_5, l_6, l_7, l_8, l_9, l_10, l_11, l_12, l_13, l_14, l_15, l_16, l_17, l_18, l_19, l_20, l_21, l_22, l_23, l_24, l_25, l_30, l_31, l_32, l_40, l_48, l_54, l_57, l_59, l_60, l_61, l_62, l_63, l_65, l_66, l_72, l_82, l_92, l_93, l_94, l_97, l_99, l_100, l_101, l_102, l_103, l_104, l_105, l_107, l_108, l_109, l_110, l_111, l_112, l_114, l_115, l_116, l_117, l_119, l_121, l_122, l_136, l_200, l_255, l_300, l_364, l_900, l_1000, l_1456, l_1458, l_1459, l_1460, l_1462, l_1471, l_1504, l_1510, l_1522, l_1550, l_2971, l_9999, l_10000, l_10979, l_65536, l_m1, nI_add, pk_mul, q_sub, q_ltT, q_ltF, q_leT, q_leF, q_eqT, q_eqF, q_inT, q_inF, nI_clamp, q_mlt, q_mle, q_mne, q_mne2, q_mnlt, q_mnle, q_gi, q_gil, q_gir, q_giR, q_gl, q_gli, q_glr, q_glR, q_ra, q_rai, q_ral, q_raR, q_rl, q_rli, q_rll, q_rlr, sa, sA, ia, la, q_srsr, q_sRsR, Option.bind_some, if_true, if_false, reduceIte, ite_not, not_true_eq_false, not_false_eq_true, q_z1, Nat.reduceEqDiff])
    0 (nI 1000) FU (by omega) ⟨1000, rfl, Nat.le_refl _, fun hz => by omega, fun j q c hj => by omega⟩ (by unfold FU; omega)
  refine ⟨z, e, z1, z2, fun q c hq ⟨k, b, k1, k2, k3, k4⟩ fc c1 => z3 (k * 4 + b) q c (by omega) hq ?_ ?_ fc c1⟩
  · rw [show (k * 4 + b) / 4 = k by omega]; exact k3
  · rw [show (k * 4 + b) / 4 = k by omega, show (k * 4 + b) % 4 = b by omega]; exact k4
theorem hk_step {K h : Nat} {f : Nat → Int32} {z : Nat} (h1 : 1 ≤ h) (hh : h ≤ t 0) (hf : ∀ q, q ≤ t 0 → hk t g K q (f q)) (z1 : z ≤ 1000)
    (z2 : z < 1000 → ∃ q c, q ≤ t 0 ∧ eg t h q ∧ f q = nI c ∧ c ≤ 1000 ∧ z = c + 1) (z3 : ∀ q c, q ≤ t 0 → eg t h q → f q = nI c → c ≤ 1000 → z ≤ c + 1) : hk t g (K + 1) h (jmin (f h) (nI z)) := by
  obtain ⟨c, e, c1, c2, c3⟩ := hf h hh
  rw [e, q_min (by omega) (by omega)]
  refine ⟨min c z, rfl, by omega, fun hz => ?_, fun m hm hr => ?_⟩
  · by_cases d : c ≤ z
    · rw [Nat.min_eq_left d] at hz ⊢; exact c2 hz
    · rw [Nat.min_eq_right (by omega)] at hz ⊢
      obtain ⟨q, c', q1, q2, q3, q4, rfl⟩ := z2 hz
      obtain ⟨c'', e2, d1, d2, d3⟩ := hf q q1
      rw [q3, nI_eq (by omega) (by omega)] at e2
      subst e2
      exact Or.inr ⟨h1, hh, q, q1, q2, d2 (by omega)⟩
  · by_cases d : m ≤ K
    · have := c3 m d hr; omega
    · obtain rfl : m = K + 1 := by omega
      rcases hr with hr | ⟨_, _, q, q1, q2, q3⟩
      · have := c3 K (Nat.le_refl _) hr; omega
      · obtain ⟨c'', e2, d1, d2, d3⟩ := hf q q1
        have a1 := d3 K (Nat.le_refl _) q3
        have a2 := z3 q c'' q1 q2 e2 d1
        omega
theorem hk_dn {K h : Nat} {v : Int32} (hv : hk t g (K + 1) h v) : hk t g K h v := by
  obtain ⟨c, e, c1, c2, c3⟩ := hv
  exact ⟨c, e, c1, c2, fun m hm => c3 m (by omega)⟩
theorem W_say64 (w : tb_W t) (h : tb_C T t) (hw : wy W t) {f : Nat → Int32} {K : Nat} (hK : K < t 0) (hv : ∀ q, q ≤ t 0 → hk t g K q (f q)) (k49) {a : Int32} :
    ∃ f', (∀ q, q ≤ t 0 → hk t g (K + 1) q (f' q)) ∧ fX10_sayingsTo_64 T k49 FU (sr W 2 f) a (nI K) (nI 1) = k49 (sr W 2 f') a (nI (K + 1)) := by
  have w0 := w.1
  have h1 := h.2.1
  obtain ⟨f', g1, g2⟩ := lp_eq (fun x i f => fX10_sayingsTo_64 T k49 x (sr W 2 f) a (nI K) (nI 1 + i)) (fun f => k49 (sr W 2 f) a (nI (K + 1))) (t 0)
    (fun k f => ∀ q, q ≤ t 0 → hk t g (if q ≤ k then K + 1 else K) q (f q))
    (fun x f hf => by simp (disch := omega) only [fX10_sayingsTo_64, h1, l_0, l_1, l_2, l_3, l_4, l_5, l_6, l_7, l_8, l_9, l_10, l_11, l_12, l_13, l_14, l_15, l_16, l_17, l_18, l_19, l_20, l_21, l_22, l_23, l_24, l_25, l_30, l_31, l_32, l_40, l_48, l_54, l_57, l_59, l_60, l_61, l_62, l_63, l_65, l_66, l_72, l_82, l_92, l_93, l_94, l_97, l_99, l_100, l_101, l_102, l_103, l_104, l_105, l_107, l_108, l_109, l_110, l_111, l_112, l_114, l_115, l_116, l_117, l_119, l_121, l_122, l_136, l_200, l_255, l_300, l_364, l_900, l_1000, l_1456, l_1458, l_1459, l_1460, l_1462, l_1471, l_1504, l_1510, l_1522, l_1550, l_2971, l_9999, l_10000, l_10979, l_65536, l_m1, nI_add, pk_mul, q_sub, q_ltT, q_ltF, q_leT, q_leF, q_eqT, q_eqF, q_inT, q_inF, nI_clamp, q_mlt, q_mle, q_mne, q_mne2, q_mnlt, q_mnle, Option.bind_some, if_true, if_false, reduceIte, ite_not, not_true_eq_false, not_false_eq_true, q_z1, Nat.reduceEqDiff])
    (fun x k f hk0 hf => by
      have hf0 : ∀ q, q ≤ t 0 → hk t g K q (f q) := fun q hq => by
        have := hf q hq
        split at this
        · exact hk_dn this
        · exact this
      obtain ⟨z, e, z1, z2, z3⟩ := W_shortest w h hw (f := f) (fun q hq => by obtain ⟨c, e, c1, _⟩ := hf0 q hq; exact ⟨c, e, c1⟩) (a := k + 1) (by omega)
      refine ⟨upd f (k + 1) (jmin (f (k + 1)) (nI z)), fun q hq => ?_, ?_⟩
      · by_cases c : q = k + 1
        · rw [up_e _ _ _ c, if_pos (by omega), c]
          exact hk_step (by omega) (by omega) hf0 z1 z2 z3
        · rw [up_n _ _ _ c]
          have := hf q hq
          by_cases d : q ≤ k
          · rw [if_pos (by omega)]; rw [if_pos d] at this; exact this
          · rw [if_neg (by omega)]; rw [if_neg d] at this; exact this
      · rw [nI_add, nI_add, Nat.add_comm 1 k, Nat.add_comm 1 (k + 1)]
        simp (disch := omega) only [fX10_sayingsTo_64, h1, e, l_0, l_1, l_2, l_3, l_4, l_5, l_6, l_7, l_8, l_9, l_10, l_11, l_12, l_13, l_14, l_15, l_16, l_17, l_18, l_19, l_20, l_21, l_22, l_23, l_24, l_25, l_30, l_31, l_32, l_40, l_48, l_54, l_57, l_59, l_60, l_61, l_62, l_63, l_65, l_66, l_72, l_82, l_92, l_93, l_94, l_97, l_99, l_100, l_101, l_102, l_103, l_104, l_105, l_107, l_108, l_109, l_110, l_111, l_112, l_114, l_115, l_116, l_117, l_119, l_121, l_122, l_136, l_200, l_255, l_300, l_364, l_900, l_1000, l_1456, l_1458, l_1459, l_1460, l_1462, l_1471, l_1504, l_1510, l_1522, l_1550, l_2971, l_9999, l_10000, l_10979, l_65536, l_m1, nI_add, pk_mul, q_sub, q_ltT, q_ltF, q_leT, q_leF, q_eqT, q_eqF, q_inT, q_inF, nI_clamp, q_mlt, q_mle, q_mne, q_mne2, q_mnlt, q_mnle, q_gi, q_gil, q_gir, q_giR, q_gl, q_gli, q_glr, q_glR, q_ra, q_rai, q_ral, q_raR, q_rl, q_rli, q_rll, q_rlr, sa, sA, ia, la, q_srsr, q_sRsR, Option.bind_some, if_true, if_false, reduceIte, ite_not, not_true_eq_false, not_false_eq_true, q_z1, Nat.reduceEqDiff])
    f FU (fun q hq => by
      by_cases c : q ≤ 0
      · rw [if_pos c]
        obtain rfl : q = 0 := by omega
        exact hk_0 (hv 0 hq)
      · rw [if_neg c]; exact hv q hq) (by unfold FU; omega)
  refine ⟨f', fun q hq => ?_, g2⟩
  have := g1 q hq
  rw [if_pos hq] at this; exact this
/-- the class's value at the end -/
def hz (t : Nat → Nat) (g h : Nat) (v : Int32) : Prop := (∃ m, m ≤ t 0 ∧ rx t g m h ∧ v = nI m) ∨ ((∀ m, ¬ rc t g m h) ∧ v = nI 1000)
theorem hz_of (w : tb_W t) {h : Nat} {v : Int32} (hh : h ≤ t 0) (hv : hk t g (t 0) h v) : hz t g h v := by
  have w0 := w.1
  obtain ⟨c, e, c1, c2, c3⟩ := hv
  by_cases d : c < 1000
  · obtain ⟨m, m1, m2⟩ := rx_of (c2 d)
    have m3 := rx_le hh m2
    have m4 := c3 m m3 m2.1
    obtain rfl : m = c := by omega
    exact Or.inl ⟨m, m3, m2, e⟩
  · refine Or.inr ⟨fun m hr => ?_, by rw [e]; exact congrArg nI (by omega)⟩
    obtain ⟨m', m1, m2⟩ := rx_of hr
    have m3 := rx_le hh m2
    have m4 := c3 m' m3 m2.1
    omega
theorem W_sayingsTo (w : tb_W t) (h : tb_C T t) {a : Nat} (ha : a ≤ t 0) (hg : g ≤ t 0) : ∃ W' f v, fX10_sayingsTo W T (nI a) (nI g) = some (v, sr W' 2 f) ∧ wy W' t ∧ (∀ q, q ≤ t 0 → hz t g q (f q)) ∧ ((∃ m, m ≤ t 0 ∧ rx t g m a ∧ v = nI m) ∨ ((∀ m, ¬ rc t g m a) ∧ v = nM)) := by
  have w0 := w.1
  have h1 := h.2.1
  obtain ⟨W', g1, g2, -⟩ := W_findEnds (W := W) w h
  unfold fX10_sayingsTo
  rw [g1, Option.bind_some]
  have e0 : W' = sr W' 2 (ra W' 2) := by
    unfold sr
    refine Prod.ext rfl (Prod.ext rfl (Prod.ext ?_ rfl))
    funext b
    show W'.2.2.1 b = if b = 2 then W'.2.2.1 2 else W'.2.2.1 b
    split
    · next c => rw [c]
    · rfl
  have fin : ∀ f, (∀ q, q ≤ t 0 → hk t g 0 q (f q)) → ∃ r, fX10_sayingsTo_49 T FU (sr W' 2 f) (nI a) (nI 0) = some r ∧ ∃ f v, r = (v, sr W' 2 f) ∧ (∀ q, q ≤ t 0 → hz t g q (f q)) ∧ ((∃ m, m ≤ t 0 ∧ rx t g m a ∧ v = nI m) ∨ ((∀ m, ¬ rc t g m a) ∧ v = nM)) := by
    intro f hf
    exact lp_up (fun x i f => fX10_sayingsTo_49 T x (sr W' 2 f) (nI a) i) (t 0) (fun k f => ∀ q, q ≤ t 0 → hk t g k q (f q)) (fun r => ∃ f v, r = (v, sr W' 2 f) ∧ (∀ q, q ≤ t 0 → hz t g q (f q)) ∧ ((∃ m, m ≤ t 0 ∧ rx t g m a ∧ v = nI m) ∨ ((∀ m, ¬ rc t g m a) ∧ v = nM)))
      (fun x f hf => by
        have hz' : ∀ q, q ≤ t 0 → hz t g q (f q) := fun q hq => hz_of w hq (hf q hq)
        rcases hz' a ha with ⟨m, m1, m2, m3⟩ | ⟨m1, m2⟩
        · exact ⟨(nI m, sr W' 2 f), by simp (disch := omega) only [fX10_sayingsTo_49, h1, m3, l_0, l_1, l_2, l_3, l_4, l_5, l_6, l_7, l_8, l_9, l_10, l_11, l_12, l_13, l_14, l_15, l_16, l_17, l_18, l_19, l_20, l_21, l_22, l_23, l_24, l_25, l_30, l_31, l_32, l_40, l_48, l_54, l_57, l_59, l_60, l_61, l_62, l_63, l_65, l_66, l_72, l_82, l_92, l_93, l_94, l_97, l_99, l_100, l_101, l_102, l_103, l_104, l_105, l_107, l_108, l_109, l_110, l_111, l_112, l_114, l_115, l_116, l_117, l_119, l_121, l_122, l_136, l_200, l_255, l_300, l_364, l_900, l_1000, l_1456, l_1458, l_1459, l_1460, l_1462, l_1471, l_1504, l_1510, l_1522, l_1550, l_2971, l_9999, l_10000, l_10979, l_65536, l_m1, nI_add, pk_mul, q_sub, q_ltT, q_ltF, q_leT, q_leF, q_eqT, q_eqF, q_inT, q_inF, nI_clamp, q_mlt, q_mle, q_mne, q_mne2, q_mnlt, q_mnle, q_gi, q_gil, q_gir, q_giR, q_gl, q_gli, q_glr, q_glR, q_ra, q_rai, q_ral, q_raR, q_rl, q_rli, q_rll, q_rlr, sa, sA, ia, la, q_srsr, q_sRsR, Option.bind_some, if_true, if_false, reduceIte, ite_not, not_true_eq_false, not_false_eq_true, q_z1, Nat.reduceEqDiff], f, nI m, rfl, hz', Or.inl ⟨m, m1, m2, rfl⟩⟩
        · exact ⟨(nM, sr W' 2 f), by simp (disch := omega) only [fX10_sayingsTo_49, h1, m2, l_0, l_1, l_2, l_3, l_4, l_5, l_6, l_7, l_8, l_9, l_10, l_11, l_12, l_13, l_14, l_15, l_16, l_17, l_18, l_19, l_20, l_21, l_22, l_23, l_24, l_25, l_30, l_31, l_32, l_40, l_48, l_54, l_57, l_59, l_60, l_61, l_62, l_63, l_65, l_66, l_72, l_82, l_92, l_93, l_94, l_97, l_99, l_100, l_101, l_102, l_103, l_104, l_105, l_107, l_108, l_109, l_110, l_111, l_112, l_114, l_115, l_116, l_117, l_119, l_121, l_122, l_136, l_200, l_255, l_300, l_364, l_900, l_1000, l_1456, l_1458, l_1459, l_1460, l_1462, l_1471, l_1504, l_1510, l_1522, l_1550, l_2971, l_9999, l_10000, l_10979, l_65536, l_m1, nI_add, pk_mul, q_sub, q_ltT, q_ltF, q_leT, q_leF, q_eqT, q_eqF, q_inT, q_inF, nI_clamp, q_mlt, q_mle, q_mne, q_mne2, q_mnlt, q_mnle, q_gi, q_gil, q_gir, q_giR, q_gl, q_gli, q_glr, q_glR, q_ra, q_rai, q_ral, q_raR, q_rl, q_rli, q_rll, q_rlr, sa, sA, ia, la, q_srsr, q_sRsR, Option.bind_some, if_true, if_false, reduceIte, ite_not, not_true_eq_false, not_false_eq_true, q_z1, Nat.reduceEqDiff], f, nM, rfl, hz', Or.inr ⟨m1, rfl⟩⟩)
      (fun x k f hk0 hf => by
        left
        obtain ⟨f', g3, g4⟩ := W_say64 w h g2 hk0 hf (fX10_sayingsTo_49 T x) (a := nI a)
        refine ⟨f', g3, ?_⟩
        rw [← g4]
        simp (disch := omega) only [fX10_sayingsTo_49, h1, l_0, l_1, l_2, l_3, l_4, l_5, l_6, l_7, l_8, l_9, l_10, l_11, l_12, l_13, l_14, l_15, l_16, l_17, l_18, l_19, l_20, l_21, l_22, l_23, l_24, l_25, l_30, l_31, l_32, l_40, l_48, l_54, l_57, l_59, l_60, l_61, l_62, l_63, l_65, l_66, l_72, l_82, l_92, l_93, l_94, l_97, l_99, l_100, l_101, l_102, l_103, l_104, l_105, l_107, l_108, l_109, l_110, l_111, l_112, l_114, l_115, l_116, l_117, l_119, l_121, l_122, l_136, l_200, l_255, l_300, l_364, l_900, l_1000, l_1456, l_1458, l_1459, l_1460, l_1462, l_1471, l_1504, l_1510, l_1522, l_1550, l_2971, l_9999, l_10000, l_10979, l_65536, l_m1, nI_add, pk_mul, q_sub, q_ltT, q_ltF, q_leT, q_leF, q_eqT, q_eqF, q_inT, q_inF, nI_clamp, q_mlt, q_mle, q_mne, q_mne2, q_mnlt, q_mnle, Option.bind_some, if_true, if_false, reduceIte, ite_not, not_true_eq_false, not_false_eq_true, q_z1, Nat.reduceEqDiff]) 0 f FU (by omega) hf (by unfold FU; omega)
  obtain ⟨r, h3, f, v, rfl, h4, h5⟩ := lp_up (fun x i f => fX10_sayingsTo_8 T x (sr W' 2 f) (nI a) (nI g) i) (t 0 + 1) (fun k f => ∀ q, q < k → hk t g 0 q (f q)) (fun r => ∃ f v, r = (v, sr W' 2 f) ∧ (∀ q, q ≤ t 0 → hz t g q (f q)) ∧ ((∃ m, m ≤ t 0 ∧ rx t g m a ∧ v = nI m) ∨ ((∀ m, ¬ rc t g m a) ∧ v = nM)))
    (fun x f hf => by
      obtain ⟨r, e, hr⟩ := fin f (fun q hq => hf q (by omega))
      exact ⟨r, by rw [← e]; simp (disch := omega) only [fX10_sayingsTo_8, h1, l_0, l_1, l_2, l_3, l_4, l_5, l_6, l_7, l_8, l_9, l_10, l_11, l_12, l_13, l_14, l_15, l_16, l_17, l_18, l_19, l_20, l_21, l_22, l_23, l_24, l_25, l_30, l_31, l_32, l_40, l_48, l_54, l_57, l_59, l_60, l_61, l_62, l_63, l_65, l_66, l_72, l_82, l_92, l_93, l_94, l_97, l_99, l_100, l_101, l_102, l_103, l_104, l_105, l_107, l_108, l_109, l_110, l_111, l_112, l_114, l_115, l_116, l_117, l_119, l_121, l_122, l_136, l_200, l_255, l_300, l_364, l_900, l_1000, l_1456, l_1458, l_1459, l_1460, l_1462, l_1471, l_1504, l_1510, l_1522, l_1550, l_2971, l_9999, l_10000, l_10979, l_65536, l_m1, nI_add, pk_mul, q_sub, q_ltT, q_ltF, q_leT, q_leF, q_eqT, q_eqF, q_inT, q_inF, nI_clamp, q_mlt, q_mle, q_mne, q_mne2, q_mnlt, q_mnle, Option.bind_some, if_true, if_false, reduceIte, ite_not, not_true_eq_false, not_false_eq_true, q_z1, Nat.reduceEqDiff], hr⟩)
    (fun x k f hk0 hf => by
      left
      by_cases c : k = g
      · refine ⟨upd f k (nI 0), fun q hq => ?_, by subst c; simp (disch := omega) only [fX10_sayingsTo_8, h1, l_0, l_1, l_2, l_3, l_4, l_5, l_6, l_7, l_8, l_9, l_10, l_11, l_12, l_13, l_14, l_15, l_16, l_17, l_18, l_19, l_20, l_21, l_22, l_23, l_24, l_25, l_30, l_31, l_32, l_40, l_48, l_54, l_57, l_59, l_60, l_61, l_62, l_63, l_65, l_66, l_72, l_82, l_92, l_93, l_94, l_97, l_99, l_100, l_101, l_102, l_103, l_104, l_105, l_107, l_108, l_109, l_110, l_111, l_112, l_114, l_115, l_116, l_117, l_119, l_121, l_122, l_136, l_200, l_255, l_300, l_364, l_900, l_1000, l_1456, l_1458, l_1459, l_1460, l_1462, l_1471, l_1504, l_1510, l_1522, l_1550, l_2971, l_9999, l_10000, l_10979, l_65536, l_m1, nI_add, pk_mul, q_sub, q_ltT, q_ltF, q_leT, q_leF, q_eqT, q_eqF, q_inT, q_inF, nI_clamp, q_mlt, q_mle, q_mne, q_mne2, q_mnlt, q_mnle, q_gi, q_gil, q_gir, q_giR, q_gl, q_gli, q_glr, q_glR, q_ra, q_rai, q_ral, q_raR, q_rl, q_rli, q_rll, q_rlr, sa, sA, ia, la, q_srsr, q_sRsR, Option.bind_some, if_true, if_false, reduceIte, ite_not, not_true_eq_false, not_false_eq_true, q_z1, Nat.reduceEqDiff]⟩
        by_cases d : q = k
        · rw [up_e _ _ _ d]
          exact ⟨0, rfl, by omega, fun _ => by rw [d]; exact c, fun m _ _ => by omega⟩
        · rw [up_n _ _ _ d]; exact hf q (by omega)
      · refine ⟨upd f k (nI 1000), fun q hq => ?_, by simp (disch := omega) only [fX10_sayingsTo_8, h1, l_0, l_1, l_2, l_3, l_4, l_5, l_6, l_7, l_8, l_9, l_10, l_11, l_12, l_13, l_14, l_15, l_16, l_17, l_18, l_19, l_20, l_21, l_22, l_23, l_24, l_25, l_30, l_31, l_32, l_40, l_48, l_54, l_57, l_59, l_60, l_61, l_62, l_63, l_65, l_66, l_72, l_82, l_92, l_93, l_94, l_97, l_99, l_100, l_101, l_102, l_103, l_104, l_105, l_107, l_108, l_109, l_110, l_111, l_112, l_114, l_115, l_116, l_117, l_119, l_121, l_122, l_136, l_200, l_255, l_300, l_364, l_900, l_1000, l_1456, l_1458, l_1459, l_1460, l_1462, l_1471, l_1504, l_1510, l_1522, l_1550, l_2971, l_9999, l_10000, l_10979, l_65536, l_m1, nI_add, pk_mul, q_sub, q_ltT, q_ltF, q_leT, q_leF, q_eqT, q_eqF, q_inT, q_inF, nI_clamp, q_mlt, q_mle, q_mne, q_mne2, q_mnlt, q_mnle, q_gi, q_gil, q_gir, q_giR, q_gl, q_gli, q_glr, q_glR, q_ra, q_rai, q_ral, q_raR, q_rl, q_rli, q_rll, q_rlr, sa, sA, ia, la, q_srsr, q_sRsR, Option.bind_some, if_true, if_false, reduceIte, ite_not, not_true_eq_false, not_false_eq_true, q_z1, Nat.reduceEqDiff]⟩
        by_cases d : q = k
        · rw [up_e _ _ _ d]
          refine ⟨1000, rfl, by omega, fun c => by omega, fun m hm hr => ?_⟩
          obtain rfl : m = 0 := by omega
          exact absurd (show q = g from hr) (by omega)
        · rw [up_n _ _ _ d]; exact hf q (by omega)) 0 (ra W' 2) FU (by omega) (fun q hq => by omega) (by unfold FU; omega)
  refine ⟨W', f, v, ?_, g2, h4, h5⟩
  rw [← h3]
  exact congrArg (fun m => fX10_sayingsTo_8 T FU m (nI a) (nI g) 0) e0
end Q55
