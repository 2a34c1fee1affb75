/-! when to pull -/
def pu (t : Nat → Nat) (p h : Nat) : Nat := (16 - t (66 + p)) * wrt t (lnd t h) * 16 ^ (h - 1)
def mo (t : Nat → Nat) (p : Nat) : Nat → Nat
  | 0 => 0
  | h + 1 => max (pu t p (h + 1)) ((16 - t 4) * mo t p h)
def pl (t : Nat → Nat) (p : Nat) : Nat → Nat
  | 0 => 1
  | h + 1 => if (16 - t 4) * mo t p h ≤ pu t p (h + 1) then h + 1 else pl t p h
theorem pl_1 (t : Nat → Nat) (p : Nat) : pl t p 1 = 1 := by
  show (if (16 - t 4) * 0 ≤ pu t p 1 then 1 else pl t p 0) = 1
  rw [if_pos (by omega)]
theorem wrt_le {t : Nat → Nat} (w : tb_W t) {a : Nat} (ha : a ≤ t 0) : wrt t a ≤ 20 := by
  unfold wrt
  by_cases c : a = 0
  · rw [if_pos c]; omega
  · rw [if_neg c]; exact (w.2.2.2.2.2.1 (a - 1) (by omega)).1
theorem pw16 {h : Nat} (hh : h ≤ 9) : 16 ^ h ≤ 68719476736 := by
  have := Nat.pow_le_pow_right (n := 16) (by decide) hh
  exact Nat.le_trans this (by decide)
theorem pu_le {t : Nat → Nat} (w : tb_W t) {p h : Nat} (h1 : 1 ≤ h) (hh : h ≤ t 0) : pu t p h ≤ 20 * 16 ^ h := by
  unfold pu
  have a1 : 16 - t (66 + p) ≤ 16 := by omega
  have a2 : wrt t (lnd t h) ≤ 20 := wrt_le w (Nat.le_trans (lnd_le t h) hh)
  have a3 := Nat.mul_le_mul a1 a2
  have a4 := Nat.mul_le_mul_right (16 ^ (h - 1)) a3
  have e : 16 ^ h = 16 * 16 ^ (h - 1) := by
    obtain ⟨m, rfl⟩ : ∃ m, h = m + 1 := ⟨h - 1, by omega⟩
    rw [Nat.pow_succ, Nat.add_sub_cancel, Nat.mul_comm]
  omega
theorem mo_le {t : Nat → Nat} (w : tb_W t) {p : Nat} : ∀ h, h ≤ t 0 → mo t p h ≤ 20 * 16 ^ h
  | 0, _ => by simp [mo]
  | h + 1, hh => by
    have h1 := pu_le w (p := p) (h := h + 1) (by omega) hh
    have h2 := mo_le w (p := p) h (by omega)
    have h3 : (16 - t 4) * mo t p h ≤ 16 * (20 * 16 ^ h) := Nat.mul_le_mul (by omega) h2
    have e : 16 ^ (h + 1) = 16 * 16 ^ h := by rw [Nat.pow_succ, Nat.mul_comm]
    show max _ _ ≤ _
    omega
theorem q_shl16 : ∀ h, h < 10 → (1 : Int64) <<< ((nI (4 * h)).toInt64 &&& 63) = lN (16 ^ h) := by decide +kernel
theorem q_maxl {a b : Nat} (ha : a < 2 ^ 63) (hb : b < 2 ^ 63) : jmaxl (lN a) (lN b) = lN (max a b) := by
  unfold jmaxl
  by_cases c : b < a
  · rw [if_pos ((pk_lLT hb ha).mpr c), Nat.max_eq_left (by omega)]
  · rw [if_neg (fun h => c ((pk_lLT hb ha).mp h)), Nat.max_eq_right (by omega)]
theorem q_cmplt {a b : Nat} (ha : a < 2 ^ 63) (hb : b < 2 ^ 63) : (lg_cmp (lN a) (lN b) < 0) ↔ a < b := by
  unfold lg_cmp
  by_cases c : b < a
  · rw [if_pos (show lN a > lN b from (pk_lLT hb ha).mpr c)]
    constructor
    · intro h; exact absurd h (by decide)
    · intro h; omega
  · rw [if_neg (fun h => c ((pk_lLT hb ha).mp h))]
    by_cases d : a = b
    · rw [if_pos (by rw [d])]
      constructor
      · intro h; exact absurd h (by decide)
      · intro h; omega
    · rw [if_neg (fun h => d ((pk_lEQ ha hb).mp h))]
      constructor
      · intro _; omega
      · intro _; decide
section Q39
variable {T M K : ms_T} {t : Nat → Nat}
theorem K_weigh (w : tb_W t) (h : tb_C T t) {p : Nat} (hp : p < t 2) : ∃ K', fX5_weigh K T (nI p) = some K' ∧ (∀ i, i ≤ t 0 → rl K' 3 i = lN (mo t p i)) ∧ (∀ i, 1 ≤ i → i ≤ t 0 → rl K' 1 i = lN (pu t p i) ∧ rl K' 2 i = lN ((16 - t 4) * mo t p (i - 1))) := by
  obtain ⟨w0, w1, w2, w3, w4, w5, w6, w7, w8, w9⟩ := id w
  obtain ⟨h0, h1, h2, h3, h4, h5, h6, h7, h8, h9, h10, h11, h12, h13, h14, h15, h16⟩ := id h
  have b7 := w7 p hp
  unfold fX5_weigh
  obtain ⟨r, e, hr⟩ := lp_up (fun f i (s : ms_T × Int64) => fX5_weigh_12 T f s.1 (nI p) s.2 i) (t 0 + 1) (fun k s => 1 ≤ k ∧ s.2 = lN (16 ^ (k - 1)) ∧ (∀ i, i < k → rl s.1 3 i = lN (mo t p i)) ∧ (∀ i, 1 ≤ i → i < k → rl s.1 1 i = lN (pu t p i) ∧ rl s.1 2 i = lN ((16 - t 4) * mo t p (i - 1)))) (fun K' => (∀ i, i ≤ t 0 → rl K' 3 i = lN (mo t p i)) ∧ (∀ i, 1 ≤ i → i ≤ t 0 → rl K' 1 i = lN (pu t p i) ∧ rl K' 2 i = lN ((16 - t 4) * mo t p (i - 1))))
    (fun f s hI => ⟨s.1, by simp (disch := omega) only [fX5_weigh_12, h1, l_0, l_1, l_2, l_3, l_4, l_5, l_6, l_7, l_8, l_9, l_10, l_11, l_12, l_13, l_14, l_15, l_16, l_17, l_18, l_19, l_20, l_21, l_22, l_23, l_24, l_25, l_30, l_31, l_32, l_40, l_48, l_54, l_57, l_59, l_60, l_61, l_62, l_63, l_65, l_66, l_72, l_82, l_92, l_93, l_94, l_97, l_99, l_100, l_101, l_102, l_103, l_104, l_105, l_107, l_108, l_109, l_110, l_111, l_112, l_114, l_115, l_116, l_117, l_119, l_121, l_122, l_136, l_200, l_255, l_300, l_364, l_900, l_1000, l_1456, l_1458, l_1459, l_1460, l_1462, l_1471, l_1504, l_1510, l_1522, l_1550, l_2971, l_9999, l_10000, l_10979, l_65536, l_m1, nI_add, pk_mul, q_sub, q_ltT, q_ltF, q_leT, q_leF, q_eqT, q_eqF, q_inT, q_inF, nI_clamp, q_mlt, q_mle, q_mne, q_mne2, q_mnlt, q_mnle, Option.bind_some, if_true, if_false, reduceIte, ite_not, not_true_eq_false, not_false_eq_true, q_z1, Nat.reduceEqDiff], fun i hi => hI.2.2.1 i (by omega), fun i hi hi2 => hI.2.2.2 i hi (by omega)⟩)
    (fun f k s hk hI => by
      left
      obtain ⟨k1, i1, i2, i3⟩ := hI
      have el := T_landing w h (a := k) (by omega)
      have hl := lnd_le t k
      have ew := T_worthAt w h (a := lnd t k) (by omega)
      have wl := wrt_le w (a := lnd t k) (by omega)
      have m1 : (16 - t (66 + p)) * wrt t (lnd t k) ≤ 16 * 20 := Nat.mul_le_mul (by omega) wl
      have m2 := mo_le w (p := p) (k - 1) (by omega)
      have m3 := pu_le w (p := p) k1 (by omega)
      have q1 := pw16 (h := k - 1) (by omega)
      have q2 := pw16 (h := k) (by omega)
      have m4 : (16 - t 4) * mo t p (k - 1) ≤ 16 * (20 * 16 ^ (k - 1)) := Nat.mul_le_mul (by omega) m2
      have e3 := i2 (k - 1) (by omega)
      have eP : (nI ((16 - t (66 + p)) * wrt t (lnd t k))).toInt64 * lN (16 ^ (k - 1)) = lN (pu t p k) := by
        rw [nI_l (by omega), lN_mul]; rfl
      have eW : (nI (16 - t 4)).toInt64 * lN (mo t p (k - 1)) = lN ((16 - t 4) * mo t p (k - 1)) := by
        rw [nI_l (by omega), lN_mul]
      have eM : jmaxl (lN (pu t p k)) (lN ((16 - t 4) * mo t p (k - 1))) = lN (mo t p k) := by
        rw [q_maxl (by omega) (by omega)]
        obtain ⟨j, rfl⟩ : ∃ j, k = j + 1 := ⟨k - 1, by omega⟩
        rfl
      have eS : lN (16 ^ (k - 1)) * (16 : Int64) = lN (16 ^ k) := by
        rw [show (16 : Int64) = lN 16 from rfl, lN_mul]
        obtain ⟨j, rfl⟩ : ∃ j, k = j + 1 := ⟨k - 1, by omega⟩
        rw [Nat.pow_succ]; rfl
      refine ⟨(sR (sR (sR s.1 1 (vp_updL (rl s.1 1) k (lN (pu t p k)))) 2 (vp_updL (rl s.1 2) k (lN ((16 - t 4) * mo t p (k - 1))))) 3 (vp_updL (rl s.1 3) k (lN (mo t p k))), lN (16 ^ k)), ⟨by omega, rfl, fun i hi => ?_, fun i hi hi2 => ⟨?_, ?_⟩⟩, ?_⟩
      · show vp_updL (rl s.1 3) k _ i = _
        by_cases c : i = k
        · subst c; rw [uL_e _ _ _ rfl]
        · rw [uL_n _ _ _ c]; exact i2 i (by omega)
      · show vp_updL (rl s.1 1) k _ i = _
        by_cases c : i = k
        · subst c; rw [uL_e _ _ _ rfl]
        · rw [uL_n _ _ _ c]; exact (i3 i hi (by omega)).1
      · show vp_updL (rl s.1 2) k _ i = _
        by_cases c : i = k
        · subst c; rw [uL_e _ _ _ rfl]
        · rw [uL_n _ _ _ c]; exact (i3 i hi (by omega)).2
      · simp (disch := omega) only [fX5_weigh_12, h1, el, ew, h14, h0, i1, e3, eP, eW, eM, eS, uL_e, l_0, l_1, l_2, l_3, l_4, l_5, l_6, l_7, l_8, l_9, l_10, l_11, l_12, l_13, l_14, l_15, l_16, l_17, l_18, l_19, l_20, l_21, l_22, l_23, l_24, l_25, l_30, l_31, l_32, l_40, l_48, l_54, l_57, l_59, l_60, l_61, l_62, l_63, l_65, l_66, l_72, l_82, l_92, l_93, l_94, l_97, l_99, l_100, l_101, l_102, l_103, l_104, l_105, l_107, l_108, l_109, l_110, l_111, l_112, l_114, l_115, l_116, l_117, l_119, l_121, l_122, l_136, l_200, l_255, l_300, l_364, l_900, l_1000, l_1456, l_1458, l_1459, l_1460, l_1462, l_1471, l_1504, l_1510, l_1522, l_1550, l_2971, l_9999, l_10000, l_10979, l_65536, l_m1, nI_add, pk_mul, q_sub, q_ltT, q_ltF, q_leT, q_leF, q_eqT, q_eqF, q_inT, q_inF, nI_clamp, q_mlt, q_mle, q_mne, q_mne2, q_mnlt, q_mnle, q_gi, q_gil, q_gir, q_giR, q_gl, q_gli, q_glr, q_glR, q_ra, q_rai, q_ral, q_raR, q_rl, q_rli, q_rll, q_rlr, sa, sA, ia, la, q_srsr, q_sRsR, Option.bind_some, if_true, if_false, reduceIte, ite_not, not_true_eq_false, not_false_eq_true, q_z1, Nat.reduceEqDiff]) 1 (sR K 3 (vp_updL (rl K 3) 0 0), 1) FU (by omega) ⟨Nat.le_refl _, rfl, fun i hi => by
        have : i = 0 := by omega
        subst this
        show vp_updL (rl K 3) 0 0 0 = _
        rw [uL_e _ _ _ rfl]; rfl, fun i hi hi2 => by omega⟩ (by unfold FU; omega)
  exact ⟨r, e, hr⟩
theorem K_first (w : tb_W t) {p : Nat} (hk : ∀ i, 1 ≤ i → i ≤ t 0 → rl K 1 i = lN (pu t p i) ∧ rl K 2 i = lN ((16 - t 4) * mo t p (i - 1))) : ∀ h fuel, 1 ≤ h → h ≤ t 0 → h < fuel → fX5_firstPull_2 K fuel (nI h) = some (nI (pl t p h)) := by
  have w0 := w.1
  have w4 := w.2.2.2.2.1
  intro h
  induction h with
  | zero => intro fuel h1; omega
  | succ h ih =>
    intro fuel h1 h2 hf
    obtain ⟨n, rfl⟩ : ∃ n, fuel = n + 1 := ⟨fuel - 1, by omega⟩
    by_cases c : h = 0
    · subst c
      rw [pl_1]
      simp (disch := omega) only [fX5_firstPull_2, l_0, l_1, l_2, l_3, l_4, l_5, l_6, l_7, l_8, l_9, l_10, l_11, l_12, l_13, l_14, l_15, l_16, l_17, l_18, l_19, l_20, l_21, l_22, l_23, l_24, l_25, l_30, l_31, l_32, l_40, l_48, l_54, l_57, l_59, l_60, l_61, l_62, l_63, l_65, l_66, l_72, l_82, l_92, l_93, l_94, l_97, l_99, l_100, l_101, l_102, l_103, l_104, l_105, l_107, l_108, l_109, l_110, l_111, l_112, l_114, l_115, l_116, l_117, l_119, l_121, l_122, l_136, l_200, l_255, l_300, l_364, l_900, l_1000, l_1456, l_1458, l_1459, l_1460, l_1462, l_1471, l_1504, l_1510, l_1522, l_1550, l_2971, l_9999, l_10000, l_10979, l_65536, l_m1, nI_add, pk_mul, q_sub, q_ltT, q_ltF, q_leT, q_leF, q_eqT, q_eqF, q_inT, q_inF, nI_clamp, q_mlt, q_mle, q_mne, q_mne2, q_mnlt, q_mnle, Option.bind_some, if_true, if_false, reduceIte, ite_not, not_true_eq_false, not_false_eq_true, q_z1, Nat.reduceEqDiff]
    · obtain ⟨k1, k2⟩ := hk (h + 1) (by omega) h2
      rw [Nat.add_sub_cancel] at k2
      have m1 := pu_le w (p := p) (h := h + 1) (by omega) h2
      have m2 := mo_le w (p := p) h (by omega)
      have m3 : (16 - t 4) * mo t p h ≤ 16 * (20 * 16 ^ h) := Nat.mul_le_mul (by omega) m2
      have q1 := pw16 (h := h) (by omega)
      have q2 := pw16 (h := h + 1) (by omega)
      have qc := q_cmplt (a := pu t p (h + 1)) (b := (16 - t 4) * mo t p h) (by omega) (by omega)
      have e1 : inb (nI (h + 1)) 10 = true := q_inT (by omega) (by omega)
      have e2 : nI (h + 1) + (-1 : Int32) = nI h := pk_m1 h
      show (if _ then _ else _) = _
      rw [if_neg (show ¬ nI (h + 1) ≤ (1 : Int32) from nI_ge (a := 1) (by omega) (by omega)), if_pos e1, if_pos e1]
      show (if lg_cmp (rl K 1 (nI (h + 1)).toNatClampNeg) (rl K 2 (nI (h + 1)).toNatClampNeg) < 0 then _ else _) = _
      rw [nI_clamp (by omega), k1, k2, e2]
      show _ = some (nI (if (16 - t 4) * mo t p h ≤ pu t p (h + 1) then h + 1 else pl t p h))
      by_cases d : pu t p (h + 1) < (16 - t 4) * mo t p h
      · rw [if_pos (qc.mpr d), if_neg (by omega)]
        exact ih n (by omega) (by omega) (by omega)
      · rw [if_neg (fun g => d (qc.mp g)), if_pos (by omega)]
theorem M_laysBest (w : tb_W t) (h : tb_N M t) {p a : Nat} (hp : p < t 2) (ha1 : 1 ≤ a) (ha : a ≤ t 0) : ∃ M', fX12_laysBest M (nI p) (nI a) = some M' ∧ gl M' 29 = lN (mo t p a) ∧ gl M' 30 = lN (16 ^ a) ∧ gi M' 31 = nI (pl t p a) ∧ (∀ k, k ≠ 31 → gi M' k = gi M k) ∧ (∀ k, k ≠ 29 → k ≠ 30 → gl M' k = gl M k) ∧ M'.2.2 = M.2.2 := by
  obtain ⟨w0, w1, w2, w3, w4, w5, w6, w7, w8, w9⟩ := id w
  have b7 := w7 p hp
  unfold fX12_laysBest
  obtain ⟨r, e, hr⟩ := lp_up (fun f i S => fX12_laysBest_12 f S (nI p) (nI a) i) (a + 1) (fun k S => 1 ≤ k ∧ gl S 29 = lN (mo t p (k - 1)) ∧ gl S 30 = lN (16 ^ (k - 1)) ∧ (2 ≤ k → gi S 31 = nI (pl t p (k - 1))) ∧ (∀ k, k ≠ 31 → gi S k = gi M k) ∧ (∀ k, k ≠ 29 → k ≠ 30 → gl S k = gl M k) ∧ S.2.2 = M.2.2)
    (fun M' => gl M' 29 = lN (mo t p a) ∧ gl M' 30 = lN (16 ^ a) ∧ gi M' 31 = nI (pl t p a) ∧ (∀ k, k ≠ 31 → gi M' k = gi M k) ∧ (∀ k, k ≠ 29 → k ≠ 30 → gl M' k = gl M k) ∧ M'.2.2 = M.2.2)
    (fun f S hI => ⟨S, by simp (disch := omega) only [fX12_laysBest_12, l_0, l_1, l_2, l_3, l_4, l_5, l_6, l_7, l_8, l_9, l_10, l_11, l_12, l_13, l_14, l_15, l_16, l_17, l_18, l_19, l_20, l_21, l_22, l_23, l_24, l_25, l_30, l_31, l_32, l_40, l_48, l_54, l_57, l_59, l_60, l_61, l_62, l_63, l_65, l_66, l_72, l_82, l_92, l_93, l_94, l_97, l_99, l_100, l_101, l_102, l_103, l_104, l_105, l_107, l_108, l_109, l_110, l_111, l_112, l_114, l_115, l_116, l_117, l_119, l_121, l_122, l_136, l_200, l_255, l_300, l_364, l_900, l_1000, l_1456, l_1458, l_1459, l_1460, l_1462, l_1471, l_1504, l_1510, l_1522, l_1550, l_2971, l_9999, l_10000, l_10979, l_65536, l_m1, nI_add, pk_mul, q_sub, q_ltT, q_ltF, q_leT, q_leF, q_eqT, q_eqF, q_inT, q_inF, nI_clamp, q_mlt, q_mle, q_mne, q_mne2, q_mnlt, q_mnle, Option.bind_some, if_true, if_false, reduceIte, ite_not, not_true_eq_false, not_false_eq_true, q_z1, Nat.reduceEqDiff], hI.2.1, hI.2.2.1, hI.2.2.2.1 (by omega), hI.2.2.2.2⟩)
    (fun f k S hk hI => by
      left
      obtain ⟨k1, i1, i2, i3, i4, i5, i6⟩ := hI
      have hNS : tb_N S t := fun i hi => by
        show S.2.2.1 5 i = _
        rw [i6]; exact h i hi
      have hu : ∀ i, i < 92 → ra S 5 i = nI (t i) := hNS
      have el := N_landing w hNS (a := k) (by omega)
      have hl := lnd_le t k
      have ew := N_worthAt w hNS (a := lnd t k) (by omega)
      have wl := wrt_le w (a := lnd t k) (by omega)
      have m1 : (16 - t (66 + p)) * wrt t (lnd t k) ≤ 16 * 20 := Nat.mul_le_mul (by omega) wl
      have m2 := mo_le w (p := p) (k - 1) (by omega)
      have m3 := pu_le w (p := p) k1 (by omega)
      have q1 := pw16 (h := k - 1) (by omega)
      have q2 := pw16 (h := k) (by omega)
      have m4 : (16 - t 4) * mo t p (k - 1) ≤ 16 * (20 * 16 ^ (k - 1)) := Nat.mul_le_mul (by omega) m2
      have eP : (nI ((16 - t (66 + p)) * wrt t (lnd t k))).toInt64 * lN (16 ^ (k - 1)) = lN (pu t p k) := by
        rw [nI_l (by omega), lN_mul]; rfl
      have eW : (nI (16 - t 4)).toInt64 * lN (mo t p (k - 1)) = lN ((16 - t 4) * mo t p (k - 1)) := by
        rw [nI_l (by omega), lN_mul]
      have eM : jmaxl (lN (pu t p k)) (lN ((16 - t 4) * mo t p (k - 1))) = lN (mo t p k) := by
        rw [q_maxl (by omega) (by omega)]
        obtain ⟨j, rfl⟩ : ∃ j, k = j + 1 := ⟨k - 1, by omega⟩
        rfl
      have eS : lN (16 ^ (k - 1)) * (16 : Int64) = lN (16 ^ k) := by
        rw [show (16 : Int64) = lN 16 from rfl, lN_mul]
        obtain ⟨j, rfl⟩ : ∃ j, k = j + 1 := ⟨k - 1, by omega⟩
        rw [Nat.pow_succ]; rfl
      have qc := q_cmplt (a := pu t p k) (b := (16 - t 4) * mo t p (k - 1)) (by omega) (by omega)
      have ep : pl t p k = if (16 - t 4) * mo t p (k - 1) ≤ pu t p k then k else pl t p (k - 1) := by
        obtain ⟨j, rfl⟩ : ∃ j, k = j + 1 := ⟨k - 1, by omega⟩
        rfl
      have keepl : ∀ j, j ≠ 29 → j ≠ 30 → gl (sl (sl S 30 (lN (16 ^ k))) 29 (lN (mo t p k))) j = gl M j := fun j h1 h2 => by
        rw [q_gl, if_neg h1, q_gl, if_neg h2]; exact i5 j h1 h2
      by_cases d : pu t p k < (16 - t 4) * mo t p (k - 1)
      · have d' : (lg_cmp (lN (pu t p k)) (lN ((16 - t 4) * mo t p (k - 1))) < nI 0) = True := eq_true (qc.mpr d)
        refine ⟨sl (sl S 30 (lN (16 ^ k))) 29 (lN (mo t p k)), ⟨by omega, rfl, rfl, fun h2 => ?_, i4, keepl, i6⟩, ?_⟩
        · have : 2 ≤ k := by
            by_cases c : k = 1
            · subst c
              have : mo t p (1 - 1) = 0 := rfl
              rw [this] at d; omega
            · omega
          show gi S 31 = _
          rw [i3 this, Nat.add_sub_cancel, ep, if_neg (by omega)]
        · simp (disch := omega) only [fX12_laysBest_12, hu, el, ew, i1, i2, eP, eW, eM, eS, d', l_0, l_1, l_2, l_3, l_4, l_5, l_6, l_7, l_8, l_9, l_10, l_11, l_12, l_13, l_14, l_15, l_16, l_17, l_18, l_19, l_20, l_21, l_22, l_23, l_24, l_25, l_30, l_31, l_32, l_40, l_48, l_54, l_57, l_59, l_60, l_61, l_62, l_63, l_65, l_66, l_72, l_82, l_92, l_93, l_94, l_97, l_99, l_100, l_101, l_102, l_103, l_104, l_105, l_107, l_108, l_109, l_110, l_111, l_112, l_114, l_115, l_116, l_117, l_119, l_121, l_122, l_136, l_200, l_255, l_300, l_364, l_900, l_1000, l_1456, l_1458, l_1459, l_1460, l_1462, l_1471, l_1504, l_1510, l_1522, l_1550, l_2971, l_9999, l_10000, l_10979, l_65536, l_m1, nI_add, pk_mul, q_sub, q_ltT, q_ltF, q_leT, q_leF, q_eqT, q_eqF, q_inT, q_inF, nI_clamp, q_mlt, q_mle, q_mne, q_mne2, q_mnlt, q_mnle, q_gi, q_gil, q_gir, q_giR, q_gl, q_gli, q_glr, q_glR, q_ra, q_rai, q_ral, q_raR, q_rl, q_rli, q_rll, q_rlr, sa, sA, ia, la, q_srsr, q_sRsR, Option.bind_some, if_true, if_false, reduceIte, ite_not, not_true_eq_false, not_false_eq_true, q_z1, Nat.reduceEqDiff]
      · have d' : (lg_cmp (lN (pu t p k)) (lN ((16 - t 4) * mo t p (k - 1))) < nI 0) = False := eq_false (fun g => d (qc.mp g))
        refine ⟨si (sl (sl S 30 (lN (16 ^ k))) 29 (lN (mo t p k))) 31 (nI k), ⟨by omega, rfl, rfl, fun h2 => ?_, fun j hj => by rw [q_gi, if_neg hj]; exact i4 j hj, keepl, i6⟩, ?_⟩
        · show nI k = _
          rw [Nat.add_sub_cancel, ep, if_pos (by omega)]
        · simp (disch := omega) only [fX12_laysBest_12, hu, el, ew, i1, i2, eP, eW, eM, eS, d', l_0, l_1, l_2, l_3, l_4, l_5, l_6, l_7, l_8, l_9, l_10, l_11, l_12, l_13, l_14, l_15, l_16, l_17, l_18, l_19, l_20, l_21, l_22, l_23, l_24, l_25, l_30, l_31, l_32, l_40, l_48, l_54, l_57, l_59, l_60, l_61, l_62, l_63, l_65, l_66, l_72, l_82, l_92, l_93, l_94, l_97, l_99, l_100, l_101, l_102, l_103, l_104, l_105, l_107, l_108, l_109, l_110, l_111, l_112, l_114, l_115, l_116, l_117, l_119, l_121, l_122, l_136, l_200, l_255, l_300, l_364, l_900, l_1000, l_1456, l_1458, l_1459, l_1460, l_1462, l_1471, l_1504, l_1510, l_1522, l_1550, l_2971, l_9999, l_10000, l_10979, l_65536, l_m1, nI_add, pk_mul, q_sub, q_ltT, q_ltF, q_leT, q_leF, q_eqT, q_eqF, q_inT, q_inF, nI_clamp, q_mlt, q_mle, q_mne, q_mne2, q_mnlt, q_mnle, q_gi, q_gil, q_gir, q_giR, q_gl, q_gli, q_glr, q_glR, q_ra, q_rai, q_ral, q_raR, q_rl, q_rli, q_rll, q_rlr, sa, sA, ia, la, q_srsr, q_sRsR, Option.bind_some, if_true, if_false, reduceIte, ite_not, not_true_eq_false, not_false_eq_true, q_z1, Nat.reduceEqDiff]) 1 (sl (sl M 29 (0 : Int64)) 30 (1 : Int64)) FU (by omega) ⟨Nat.le_refl _, rfl, rfl, fun h2 => by omega, fun k _ => rfl, fun k h1 h2 => by rw [q_gl, if_neg h2, q_gl, if_neg h1], rfl⟩ (by unfold FU; omega)
  exact ⟨r, e, hr⟩
end Q39
