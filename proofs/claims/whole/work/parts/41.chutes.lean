/-! odds of chutes -/
theorem lp_dn {σ β : Type} (L : Nat → Int32 → σ → Option β) (fin : σ → Option β) (I : Nat → σ → Prop)
    (hx : ∀ n s, I 0 s → L (n + 1) (nI 0) s = fin s)
    (hs : ∀ n k s, I (k + 1) s → ∃ s', I k s' ∧ L (n + 1) (nI (k + 1)) s = L n (nI k) s') :
    ∀ k s fuel, I k s → k < fuel → ∃ s', I 0 s' ∧ L fuel (nI k) s = fin s' := by
  intro k
  induction k with
  | zero =>
    intro s fuel hI hf
    obtain ⟨n, rfl⟩ : ∃ n, fuel = n + 1 := ⟨fuel - 1, by omega⟩
    exact ⟨s, hI, hx n s hI⟩
  | succ k ih =>
    intro s fuel hI hf
    obtain ⟨n, rfl⟩ : ∃ n, fuel = n + 1 := ⟨fuel - 1, by omega⟩
    obtain ⟨s', h1, e⟩ := hs n k s hI
    obtain ⟨s2, h2, e2⟩ := ih s' n h1 (by omega)
    exact ⟨s2, h2, by rw [e, e2]⟩
theorem sm_add (f g : Nat → Nat) : ∀ n, sm (fun k => f k + g k) n = sm f n + sm g n
  | 0 => rfl
  | n + 1 => by rw [sm_s, sm_s, sm_s, sm_add f g n]; omega
theorem sm_mul (c : Nat) (f : Nat → Nat) : ∀ n, sm (fun k => c * f k) n = c * sm f n
  | 0 => rfl
  | n + 1 => by rw [sm_s, sm_s, sm_mul c f n, Nat.mul_add]
theorem sm_split (f : Nat → Nat) (m : Nat) : ∀ n, sm f (m + n) = sm f m + sm (fun k => f (m + k)) n
  | 0 => rfl
  | n + 1 => by rw [← Nat.add_assoc, sm_s, sm_s, sm_split f m n]; omega
theorem sm_shift (f : Nat → Nat) (n : Nat) : sm f (n + 1) = f 0 + sm (fun k => f (k + 1)) n := by
  have h := sm_split f 1 n
  rw [Nat.add_comm 1 n] at h
  rw [h, show sm f 1 = f 0 from by show 0 + f 0 = f 0; omega]
  congr 1
  exact sm_cong (fun k _ => by rw [Nat.add_comm])
theorem sm_zero (n : Nat) : sm (fun _ => 0) n = 0 := by
  induction n with
  | zero => rfl
  | succ n ih => rw [sm_s, ih]
theorem M_sizeOf {x : Nat} (hx : x < 2147483648) : fX12_sizeOf (nI x) = some (nI (sm (fun i => b2 (x.testBit i)) 10)) := by
  unfold fX12_sizeOf
  obtain ⟨r, e, hr⟩ := lp_up (fun f i s => fX12_sizeOf_4 f (nI x) s i) 10 (fun m s => s = nI (sm (fun i => b2 (x.testBit i)) m)) (fun r => r = nI (sm (fun i => b2 (x.testBit i)) 10))
    (fun f s hs => ⟨s, by simp (disch := omega) only [fX12_sizeOf_4, l_0, l_1, l_2, l_3, l_4, l_5, l_6, l_7, l_8, l_9, l_10, l_11, l_12, l_13, l_14, l_15, l_16, l_17, l_18, l_19, l_20, l_21, l_22, l_23, l_24, l_25, l_30, l_31, l_32, l_40, l_48, l_54, l_57, l_59, l_60, l_61, l_62, l_63, l_65, l_66, l_72, l_82, l_92, l_93, l_94, l_97, l_99, l_100, l_101, l_102, l_103, l_104, l_105, l_107, l_108, l_109, l_110, l_111, l_112, l_114, l_115, l_116, l_117, l_119, l_121, l_122, l_136, l_200, l_255, l_300, l_364, l_900, l_1000, l_1456, l_1458, l_1459, l_1460, l_1462, l_1471, l_1504, l_1510, l_1522, l_1550, l_2971, l_9999, l_10000, l_10979, l_65536, l_m1, nI_add, pk_mul, q_sub, q_ltT, q_ltF, q_leT, q_leF, q_eqT, q_eqF, q_inT, q_inF, nI_clamp, q_mlt, q_mle, q_mne, q_mne2, q_mnlt, q_mnle, Option.bind_some, if_true, if_false, reduceIte, ite_not, not_true_eq_false, not_false_eq_true, q_z1, Nat.reduceEqDiff], hs⟩)
    (fun f m s hm hs => by
      left
      subst hs
      refine ⟨_, rfl, ?_⟩
      have e1 := N_has (x := x) (k := m) hx (by omega)
      rw [sm_s]
      cases hc : x.testBit m
      · rw [hc] at e1
        simp (disch := omega) only [fX12_sizeOf_4, e1, bi, b2_0, Nat.add_zero, l_0, l_1, l_2, l_3, l_4, l_5, l_6, l_7, l_8, l_9, l_10, l_11, l_12, l_13, l_14, l_15, l_16, l_17, l_18, l_19, l_20, l_21, l_22, l_23, l_24, l_25, l_30, l_31, l_32, l_40, l_48, l_54, l_57, l_59, l_60, l_61, l_62, l_63, l_65, l_66, l_72, l_82, l_92, l_93, l_94, l_97, l_99, l_100, l_101, l_102, l_103, l_104, l_105, l_107, l_108, l_109, l_110, l_111, l_112, l_114, l_115, l_116, l_117, l_119, l_121, l_122, l_136, l_200, l_255, l_300, l_364, l_900, l_1000, l_1456, l_1458, l_1459, l_1460, l_1462, l_1471, l_1504, l_1510, l_1522, l_1550, l_2971, l_9999, l_10000, l_10979, l_65536, l_m1, nI_add, pk_mul, q_sub, q_ltT, q_ltF, q_leT, q_leF, q_eqT, q_eqF, q_inT, q_inF, nI_clamp, q_mlt, q_mle, q_mne, q_mne2, q_mnlt, q_mnle, Option.bind_some, if_true, if_false, reduceIte, ite_not, not_true_eq_false, not_false_eq_true, q_z1, Nat.reduceEqDiff]
      · rw [hc] at e1
        simp (disch := omega) only [fX12_sizeOf_4, e1, bi, b2_1, l_0, l_1, l_2, l_3, l_4, l_5, l_6, l_7, l_8, l_9, l_10, l_11, l_12, l_13, l_14, l_15, l_16, l_17, l_18, l_19, l_20, l_21, l_22, l_23, l_24, l_25, l_30, l_31, l_32, l_40, l_48, l_54, l_57, l_59, l_60, l_61, l_62, l_63, l_65, l_66, l_72, l_82, l_92, l_93, l_94, l_97, l_99, l_100, l_101, l_102, l_103, l_104, l_105, l_107, l_108, l_109, l_110, l_111, l_112, l_114, l_115, l_116, l_117, l_119, l_121, l_122, l_136, l_200, l_255, l_300, l_364, l_900, l_1000, l_1456, l_1458, l_1459, l_1460, l_1462, l_1471, l_1504, l_1510, l_1522, l_1550, l_2971, l_9999, l_10000, l_10979, l_65536, l_m1, nI_add, pk_mul, q_sub, q_ltT, q_ltF, q_leT, q_leF, q_eqT, q_eqF, q_inT, q_inF, nI_clamp, q_mlt, q_mle, q_mne, q_mne2, q_mnlt, q_mnle, Option.bind_some, if_true, if_false, reduceIte, ite_not, not_true_eq_false, not_false_eq_true, q_z1, Nat.reduceEqDiff]) 0 (nI 0) FU (by omega) rfl (by unfold FU; omega)
  rw [← hr]; exact e
def siz (s n : Nat) : Nat := sm (fun i => b2 (s.testBit i)) n
theorem siz_10 {s n : Nat} (hs : s < 2 ^ n) (hn : n ≤ 10) : siz s 10 = siz s n := by
  unfold siz
  obtain ⟨d, hd⟩ : ∃ d, 10 = n + d := ⟨10 - n, by omega⟩
  rw [hd, sm_split]
  have : sm (fun k => b2 (s.testBit (n + k))) d = sm (fun _ => 0) d := sm_cong (fun k _ => by
    rw [Nat.testBit_lt_two_pow (Nat.lt_of_lt_of_le hs (Nat.pow_le_pow_right (by decide) (by omega)))]; rfl)
  rw [this, sm_zero]; rfl
/-- the weight of a set of chutes that hold, of the first n -/
def prt (t : Nat → Nat) (s : Nat) : Nat → Nat
  | 0 => 1
  | m + 1 => prt t s m * (if s.testBit m then 16 - t (66 + m) else t (66 + m))
/-- the weight of just j that hold, of the first m -/
def hd (t : Nat → Nat) : Nat → Nat → Nat
  | 0, j => if j = 0 then 1 else 0
  | m + 1, j => hd t m j * t (66 + m) + (if j = 0 then 0 else hd t m (j - 1) * (16 - t (66 + m)))
theorem hd_0 (t : Nat → Nat) : ∀ m j, m < j → hd t m j = 0
  | 0, j, h => by show (if j = 0 then 1 else 0) = 0; rw [if_neg (by omega)]
  | m + 1, j, h => by
    show hd t m j * t (66 + m) + (if j = 0 then 0 else hd t m (j - 1) * (16 - t (66 + m))) = 0
    rw [hd_0 t m j (by omega), if_neg (by omega), hd_0 t m (j - 1) (by omega)]; omega
theorem prt_low (t : Nat → Nat) {n s : Nat} : ∀ m, m ≤ n → prt t (2 ^ n + s) m = prt t s m
  | 0, _ => rfl
  | m + 1, h => by
    show prt t (2 ^ n + s) m * _ = prt t s m * _
    rw [prt_low t m (by omega), Nat.testBit_two_pow_add_gt (by omega)]
theorem siz_low {n s : Nat} : ∀ m, m ≤ n → siz (2 ^ n + s) m = siz s m := fun m hm => sm_cong (fun i hi => by rw [Nat.testBit_two_pow_add_gt (by omega)])
theorem sets_w (t : Nat → Nat) : ∀ n (φ : Nat → Nat), sm (fun s => prt t s n * φ (siz s n)) (2 ^ n) = sm (fun j => hd t n j * φ j) (n + 1)
  | 0, φ => by
    show 0 + 1 * φ 0 = 0 + 1 * φ 0
    rfl
  | n + 1, φ => by
    have e : 2 ^ (n + 1) = 2 ^ n + 2 ^ n := by rw [Nat.pow_succ]; omega
    rw [e, sm_split]
    have a1 : sm (fun s => prt t s (n + 1) * φ (siz s (n + 1))) (2 ^ n) = t (66 + n) * sm (fun s => prt t s n * φ (siz s n)) (2 ^ n) := by
      rw [← sm_mul]
      refine sm_cong (fun s hs => ?_)
      show prt t s n * (if s.testBit n then 16 - t (66 + n) else t (66 + n)) * φ (siz s n + b2 (s.testBit n)) = _
      rw [Nat.testBit_lt_two_pow hs]
      show prt t s n * t (66 + n) * φ (siz s n + 0) = _
      rw [Nat.add_zero, Nat.mul_comm (prt t s n), Nat.mul_assoc]
    have a2 : sm (fun s => prt t (2 ^ n + s) (n + 1) * φ (siz (2 ^ n + s) (n + 1))) (2 ^ n) = (16 - t (66 + n)) * sm (fun s => prt t s n * φ (siz s n + 1)) (2 ^ n) := by
      rw [← sm_mul]
      refine sm_cong (fun s hs => ?_)
      show prt t (2 ^ n + s) n * (if (2 ^ n + s).testBit n then 16 - t (66 + n) else t (66 + n)) * φ (siz (2 ^ n + s) n + b2 ((2 ^ n + s).testBit n)) = _
      rw [Nat.testBit_two_pow_add_eq, Nat.testBit_lt_two_pow hs, prt_low t n (Nat.le_refl _), siz_low n (Nat.le_refl _)]
      show prt t s n * (16 - t (66 + n)) * φ (siz s n + 1) = _
      rw [Nat.mul_comm (prt t s n), Nat.mul_assoc]
    rw [a1, a2, sets_w t n φ, sets_w t n (fun j => φ (j + 1)), ← sm_mul, ← sm_mul]
    have b1 : sm (fun j => hd t (n + 1) j * φ j) (n + 1 + 1) = sm (fun j => t (66 + n) * (hd t n j * φ j)) (n + 1 + 1) + sm (fun j => (if j = 0 then 0 else hd t n (j - 1) * (16 - t (66 + n))) * φ j) (n + 1 + 1) := by
      rw [← sm_add]
      refine sm_cong (fun j _ => ?_)
      show (hd t n j * t (66 + n) + (if j = 0 then 0 else hd t n (j - 1) * (16 - t (66 + n)))) * φ j = _
      rw [Nat.add_mul, Nat.mul_comm (hd t n j), Nat.mul_assoc]
    rw [b1, sm_s (fun j => t (66 + n) * (hd t n j * φ j)) (n + 1), hd_0 t n (n + 1) (by omega), sm_shift (fun j => (if j = 0 then 0 else hd t n (j - 1) * (16 - t (66 + n))) * φ j)]
    have b2 : sm (fun k => (if k + 1 = 0 then 0 else hd t n (k + 1 - 1) * (16 - t (66 + n))) * φ (k + 1)) (n + 1) = sm (fun j => (16 - t (66 + n)) * (hd t n j * φ (j + 1))) (n + 1) := by
      refine sm_cong (fun j _ => ?_)
      rw [if_neg (by omega), Nat.add_sub_cancel, Nat.mul_comm (hd t n j), Nat.mul_assoc]
    rw [b2]
    simp
theorem hd_sum {t : Nat → Nat} : ∀ n, (∀ i, i < n → t (66 + i) ≤ 16) → sm (hd t n) (n + 1) = 16 ^ n
  | 0, _ => rfl
  | n + 1, h => by
    have ih := hd_sum n (fun i hi => h i (by omega))
    have hn := h n (by omega)
    have b1 : sm (hd t (n + 1)) (n + 1 + 1) = sm (fun j => t (66 + n) * hd t n j) (n + 1 + 1) + sm (fun j => (if j = 0 then 0 else hd t n (j - 1) * (16 - t (66 + n)))) (n + 1 + 1) := by
      rw [← sm_add]
      refine sm_cong (fun j _ => ?_)
      show hd t n j * t (66 + n) + _ = _
      rw [Nat.mul_comm]
    rw [b1, sm_s (fun j => t (66 + n) * hd t n j) (n + 1), hd_0 t n (n + 1) (by omega), sm_shift (fun j => (if j = 0 then 0 else hd t n (j - 1) * (16 - t (66 + n)))), sm_mul, ih]
    have b2 : sm (fun k => (if k + 1 = 0 then 0 else hd t n (k + 1 - 1) * (16 - t (66 + n)))) (n + 1) = sm (fun j => (16 - t (66 + n)) * hd t n j) (n + 1) := by
      refine sm_cong (fun j _ => ?_)
      rw [if_neg (by omega), Nat.add_sub_cancel, Nat.mul_comm]
    rw [b2, sm_mul, ih, if_pos rfl, Nat.pow_succ]
    have e : t (66 + n) * 16 ^ n + (16 - t (66 + n)) * 16 ^ n = 16 ^ n * 16 := by
      rw [← Nat.add_mul, show t (66 + n) + (16 - t (66 + n)) = 16 from by omega, Nat.mul_comm]
    omega
theorem sm_le1 {f : Nat → Nat} : ∀ {n k : Nat}, k < n → f k ≤ sm f n
  | 0, _, h => absurd h (by omega)
  | n + 1, k, h => by
    rw [sm_s]
    by_cases c : k = n
    · subst c; omega
    · have := sm_le1 (f := f) (n := n) (k := k) (by omega); omega
theorem hd_le {t : Nat → Nat} {n : Nat} (h : ∀ i, i < n → t (66 + i) ≤ 16) {j : Nat} : hd t n j ≤ 16 ^ n := by
  by_cases c : j < n + 1
  · have h1 := sm_le1 (f := hd t n) c
    rw [hd_sum n h] at h1; exact h1
  · rw [hd_0 t n j (by omega)]; exact Nat.zero_le _
section Q41
variable {T M K : ms_T} {t : Nat → Nat}
/-- k or more of the chutes hold -/
def hmo (t : Nat → Nat) (k : Nat) : Nat := sm (fun j => if k ≤ j then hd t (t 2) j else 0) (t 2 + 1)
theorem K_holding (w : tb_W t) (h : tb_C T t) {k : Nat} (hk : k ≤ 6) : ∃ K', fX5_holding K T (nI k) = some (lN (hmo t k), K') := by
  obtain ⟨w0, w1, w2, w3, w4, w5, w6, w7, w8, w9⟩ := id w
  obtain ⟨h0, h1, h2, h3, h4, h5, h6, h7, h8, h9, h10, h11, h12, h13, h14, h15, h16⟩ := id h
  unfold fX5_holding
  obtain ⟨r, e, K', hr⟩ := lp_up (fun f i S => fX5_holding_9 T f S (nI k) i) (t 2) (fun m S => ∀ j, j ≤ m → rl S 4 j = lN (hd t m j)) (fun r => ∃ K', r = (lN (hmo t k), K'))
    (fun f S hI => by
      have key : ∃ r, fX5_holding_118 T FU S (0 : Int64) (nI k) = some r ∧ ∃ K', r = (lN (hmo t k), K') := by
        by_cases c : k ≤ t 2 + 1
        · refine lp_up (fun f i s => fX5_holding_118 T f S s i) (t 2 + 1) (fun m s => k ≤ m ∧ s = lN (sm (fun j => if k ≤ j then hd t (t 2) j else 0) m)) (fun r => ∃ K', r = (lN (hmo t k), K')) ?_ ?_ k (0 : Int64) FU c ?_ (by unfold FU; omega)
          · intro f s hs
            exact ⟨(s, S), by simp (disch := omega) only [fX5_holding_118, h4, l_0, l_1, l_2, l_3, l_4, l_5, l_6, l_7, l_8, l_9, l_10, l_11, l_12, l_13, l_14, l_15, l_16, l_17, l_18, l_19, l_20, l_21, l_22, l_23, l_24, l_25, l_30, l_31, l_32, l_40, l_48, l_54, l_57, l_59, l_60, l_61, l_62, l_63, l_65, l_66, l_72, l_82, l_92, l_93, l_94, l_97, l_99, l_100, l_101, l_102, l_103, l_104, l_105, l_107, l_108, l_109, l_110, l_111, l_112, l_114, l_115, l_116, l_117, l_119, l_121, l_122, l_136, l_200, l_255, l_300, l_364, l_900, l_1000, l_1456, l_1458, l_1459, l_1460, l_1462, l_1471, l_1504, l_1510, l_1522, l_1550, l_2971, l_9999, l_10000, l_10979, l_65536, l_m1, nI_add, pk_mul, q_sub, q_ltT, q_ltF, q_leT, q_leF, q_eqT, q_eqF, q_inT, q_inF, nI_clamp, q_mlt, q_mle, q_mne, q_mne2, q_mnlt, q_mnle, Option.bind_some, if_true, if_false, reduceIte, ite_not, not_true_eq_false, not_false_eq_true, q_z1, Nat.reduceEqDiff], S, by rw [hs.2]; rfl⟩
          · intro f m s hm hs
            left
            obtain ⟨d, hs⟩ := hs
            subst hs
            refine ⟨_, ⟨by omega, rfl⟩, ?_⟩
            have e1 := hI m (by omega)
            simp (disch := omega) only [fX5_holding_118, h4, e1, sm_s, d, lN_add, l_0, l_1, l_2, l_3, l_4, l_5, l_6, l_7, l_8, l_9, l_10, l_11, l_12, l_13, l_14, l_15, l_16, l_17, l_18, l_19, l_20, l_21, l_22, l_23, l_24, l_25, l_30, l_31, l_32, l_40, l_48, l_54, l_57, l_59, l_60, l_61, l_62, l_63, l_65, l_66, l_72, l_82, l_92, l_93, l_94, l_97, l_99, l_100, l_101, l_102, l_103, l_104, l_105, l_107, l_108, l_109, l_110, l_111, l_112, l_114, l_115, l_116, l_117, l_119, l_121, l_122, l_136, l_200, l_255, l_300, l_364, l_900, l_1000, l_1456, l_1458, l_1459, l_1460, l_1462, l_1471, l_1504, l_1510, l_1522, l_1550, l_2971, l_9999, l_10000, l_10979, l_65536, l_m1, nI_add, pk_mul, q_sub, q_ltT, q_ltF, q_leT, q_leF, q_eqT, q_eqF, q_inT, q_inF, nI_clamp, q_mlt, q_mle, q_mne, q_mne2, q_mnlt, q_mnle, q_gi, q_gil, q_gir, q_giR, q_gl, q_gli, q_glr, q_glR, q_ra, q_rai, q_ral, q_raR, q_rl, q_rli, q_rll, q_rlr, sa, sA, ia, la, q_srsr, q_sRsR, Option.bind_some, if_true, if_false, reduceIte, ite_not, not_true_eq_false, not_false_eq_true, q_z1, Nat.reduceEqDiff]
          · have : sm (fun j => if k ≤ j then hd t (t 2) j else 0) k = sm (fun _ => 0) k := sm_cong (fun j hj => if_neg (by omega))
            rw [this, sm_zero]; exact ⟨Nat.le_refl _, rfl⟩
        · refine ⟨((0 : Int64), S), by show (if gi T 8 < nI k then _ else _) = _; rw [h4, if_pos (nI_lt (by omega) (by omega))], S, ?_⟩
          have : hmo t k = 0 := by
            unfold hmo
            have : sm (fun j => if k ≤ j then hd t (t 2) j else 0) (t 2 + 1) = sm (fun _ => 0) (t 2 + 1) := sm_cong (fun j hj => if_neg (by omega))
            rw [this, sm_zero]
          rw [this]; rfl
      obtain ⟨r, e, hr⟩ := key
      exact ⟨r, by simp (disch := omega) only [fX5_holding_9, h4, l_0, l_1, l_2, l_3, l_4, l_5, l_6, l_7, l_8, l_9, l_10, l_11, l_12, l_13, l_14, l_15, l_16, l_17, l_18, l_19, l_20, l_21, l_22, l_23, l_24, l_25, l_30, l_31, l_32, l_40, l_48, l_54, l_57, l_59, l_60, l_61, l_62, l_63, l_65, l_66, l_72, l_82, l_92, l_93, l_94, l_97, l_99, l_100, l_101, l_102, l_103, l_104, l_105, l_107, l_108, l_109, l_110, l_111, l_112, l_114, l_115, l_116, l_117, l_119, l_121, l_122, l_136, l_200, l_255, l_300, l_364, l_900, l_1000, l_1456, l_1458, l_1459, l_1460, l_1462, l_1471, l_1504, l_1510, l_1522, l_1550, l_2971, l_9999, l_10000, l_10979, l_65536, l_m1, nI_add, pk_mul, q_sub, q_ltT, q_ltF, q_leT, q_leF, q_eqT, q_eqF, q_inT, q_inF, nI_clamp, q_mlt, q_mle, q_mne, q_mne2, q_mnlt, q_mnle, Option.bind_some, if_true, if_false, reduceIte, ite_not, not_true_eq_false, not_false_eq_true, q_z1, Nat.reduceEqDiff]; exact e, hr⟩)
    (fun f m S hm hI => by
      left
      have b7 := w7 m hm
      have fl : ∀ i, i < m → t (66 + i) ≤ 16 := fun i hi => (w7 i (by omega)).2.2.2
      have e1 := hI m (Nat.le_refl _)
      have pw : ∀ x, (nI x).toInt64 = lN x ∨ 2147483648 ≤ x := fun x => by
        by_cases c : x < 2147483648
        · exact Or.inl (nI_l c)
        · exact Or.inr (by omega)
      have ef : (nI (t (66 + m))).toInt64 = lN (t (66 + m)) := nI_l (by omega)
      have eg : (nI (16 - t (66 + m))).toInt64 = lN (16 - t (66 + m)) := nI_l (by omega)
      obtain ⟨S', g1, g2⟩ := lp_dn (fun n i S => fX5_holding_49 T (fX5_holding_9 T f) n S (nI k) (nI m) (nI (t (66 + m))) i) (fun S => fX5_holding_9 T f (sR S 4 (vp_updL (rl S 4) 0 (rl S 4 0 * lN (t (66 + m))))) (nI k) (nI (m + 1)))
        (fun q S => q ≤ m ∧ (∀ j, j ≤ q → rl S 4 j = lN (hd t m j)) ∧ (∀ j, q < j → j ≤ m + 1 → rl S 4 j = lN (hd t (m + 1) j)))
        (fun n S hS => by
          show (if nI 0 ≤ (0 : Int32) then _ else _) = _
          rw [if_pos (show nI 0 ≤ (0 : Int32) by decide), ef, nI_1]
          rfl)
        (fun n q S hS => by
          obtain ⟨s1, s2, s3⟩ := hS
          have x1 := s2 (q + 1) (Nat.le_refl _)
          have x2 := s2 q (by omega)
          refine ⟨sR S 4 (vp_updL (rl S 4) (q + 1) (lN (hd t (m + 1) (q + 1)))), ⟨by omega, fun j hj => ?_, fun j hj hj2 => ?_⟩, ?_⟩
          · show vp_updL (rl S 4) (q + 1) _ j = _
            rw [uL_n _ _ _ (by omega)]; exact s2 j (by omega)
          · show vp_updL (rl S 4) (q + 1) _ j = _
            by_cases c : j = q + 1
            · subst c; rw [uL_e _ _ _ rfl]
            · rw [uL_n _ _ _ c]; exact s3 j (by omega) hj2
          · have e9 : hd t (m + 1) (q + 1) = hd t m (q + 1) * t (66 + m) + hd t m q * (16 - t (66 + m)) := by
              show hd t m (q + 1) * t (66 + m) + (if q + 1 = 0 then 0 else hd t m (q + 1 - 1) * (16 - t (66 + m))) = _
              rw [if_neg (by omega), Nat.add_sub_cancel]
            have e8 : nI (q + 1) + nM = nI q := pk_m1 q
            simp (disch := omega) only [fX5_holding_49, x1, x2, ef, eg, lN_mul, lN_add, e9, e8, Nat.add_sub_cancel, l_0, l_1, l_2, l_3, l_4, l_5, l_6, l_7, l_8, l_9, l_10, l_11, l_12, l_13, l_14, l_15, l_16, l_17, l_18, l_19, l_20, l_21, l_22, l_23, l_24, l_25, l_30, l_31, l_32, l_40, l_48, l_54, l_57, l_59, l_60, l_61, l_62, l_63, l_65, l_66, l_72, l_82, l_92, l_93, l_94, l_97, l_99, l_100, l_101, l_102, l_103, l_104, l_105, l_107, l_108, l_109, l_110, l_111, l_112, l_114, l_115, l_116, l_117, l_119, l_121, l_122, l_136, l_200, l_255, l_300, l_364, l_900, l_1000, l_1456, l_1458, l_1459, l_1460, l_1462, l_1471, l_1504, l_1510, l_1522, l_1550, l_2971, l_9999, l_10000, l_10979, l_65536, l_m1, nI_add, pk_mul, q_sub, q_ltT, q_ltF, q_leT, q_leF, q_eqT, q_eqF, q_inT, q_inF, nI_clamp, q_mlt, q_mle, q_mne, q_mne2, q_mnlt, q_mnle, q_gi, q_gil, q_gir, q_giR, q_gl, q_gli, q_glr, q_glR, q_ra, q_rai, q_ral, q_raR, q_rl, q_rli, q_rll, q_rlr, sa, sA, ia, la, q_srsr, q_sRsR, Option.bind_some, if_true, if_false, reduceIte, ite_not, not_true_eq_false, not_false_eq_true, q_z1, Nat.reduceEqDiff])
        m (sR S 4 (vp_updL (rl S 4) (m + 1) (lN (hd t m m * (16 - t (66 + m)))))) FU ⟨Nat.le_refl _, fun j hj => by
            show vp_updL (rl S 4) (m + 1) _ j = _
            rw [uL_n _ _ _ (by omega)]; exact hI j hj, fun j hj hj2 => by
            have : j = m + 1 := by omega
            subst this
            show vp_updL (rl S 4) (m + 1) _ (m + 1) = _
            rw [uL_e _ _ _ rfl]
            show _ = lN (hd t m (m + 1) * t (66 + m) + (if m + 1 = 0 then 0 else hd t m (m + 1 - 1) * (16 - t (66 + m))))
            rw [hd_0 t m (m + 1) (by omega), if_neg (by omega), Nat.add_sub_cancel, Nat.zero_mul, Nat.zero_add]⟩ (by unfold FU; omega)
      obtain ⟨-, z1, z2⟩ := g1
      refine ⟨sR S' 4 (vp_updL (rl S' 4) 0 (rl S' 4 0 * lN (t (66 + m)))), fun j hj => ?_, ?_⟩
      · show vp_updL (rl S' 4) 0 _ j = _
        by_cases c : j = 0
        · subst c
          rw [uL_e _ _ _ rfl, z1 0 (by omega), lN_mul]
          rfl
        · rw [uL_n _ _ _ c]; exact z2 j (by omega) (by omega)
      · rw [← g2]
        simp (disch := omega) only [fX5_holding_9, h4, h14, e1, eg, lN_mul, l_0, l_1, l_2, l_3, l_4, l_5, l_6, l_7, l_8, l_9, l_10, l_11, l_12, l_13, l_14, l_15, l_16, l_17, l_18, l_19, l_20, l_21, l_22, l_23, l_24, l_25, l_30, l_31, l_32, l_40, l_48, l_54, l_57, l_59, l_60, l_61, l_62, l_63, l_65, l_66, l_72, l_82, l_92, l_93, l_94, l_97, l_99, l_100, l_101, l_102, l_103, l_104, l_105, l_107, l_108, l_109, l_110, l_111, l_112, l_114, l_115, l_116, l_117, l_119, l_121, l_122, l_136, l_200, l_255, l_300, l_364, l_900, l_1000, l_1456, l_1458, l_1459, l_1460, l_1462, l_1471, l_1504, l_1510, l_1522, l_1550, l_2971, l_9999, l_10000, l_10979, l_65536, l_m1, nI_add, pk_mul, q_sub, q_ltT, q_ltF, q_leT, q_leF, q_eqT, q_eqF, q_inT, q_inF, nI_clamp, q_mlt, q_mle, q_mne, q_mne2, q_mnlt, q_mnle, q_gi, q_gil, q_gir, q_giR, q_gl, q_gli, q_glr, q_glR, q_ra, q_rai, q_ral, q_raR, q_rl, q_rli, q_rll, q_rlr, sa, sA, ia, la, q_srsr, q_sRsR, Option.bind_some, if_true, if_false, reduceIte, ite_not, not_true_eq_false, not_false_eq_true, q_z1, Nat.reduceEqDiff]) 0 (sR K 4 (vp_updL (rl K 4) 0 1)) FU (by omega) (fun j hj => by
        have : j = 0 := by omega
        subst this
        show vp_updL (rl K 4) 0 1 0 = _
        rw [uL_e _ _ _ rfl]; rfl) (by unfold FU; omega)
  exact ⟨K', by rw [← hr]; exact e⟩
end Q41
