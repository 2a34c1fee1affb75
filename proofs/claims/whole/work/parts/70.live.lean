/-! live: steps that are done, on both sides -/
/-- a run under way -/
def lvr (T V M : ms_T) (t : Nat → Nat) : Prop := tb_W t ∧ tb_C T t ∧ tb_N M t ∧ (∃ s, s < 65536 ∧ gi V 2 = nI s ∧ gi M 42 = nI s) ∧ (∃ d, d ≤ 300 ∧ gi V 4 = nI d ∧ gi M 43 = nI d) ∧ (∃ m, gi V 5 = nI m ∧ gi M 44 = nI m) ∧
  (∃ a q, t 5 = a + q ∧ gi V 6 = nI q ∧ gi M 45 = nI a) ∧ (∃ x, gi V 7 = nI x ∧ gi M 46 = nI x) ∧ (∃ x, gi V 8 = nI x ∧ gi M 47 = nI x) ∧ gi V 9 = gi M 48
/-- what a run leaves as it is -/
def fr (T M : ms_T) (t : Nat → Nat) (T' M' : ms_T) (t' : Nat → Nat) : Prop := rl T' 10 = rl T 10 ∧ t' 0 = t 0 ∧ t' 1 = t 1 ∧ t' 2 = t 2 ∧ (∀ k, k < 41 ∨ 48 < k → gi M' k = gi M k) ∧ (∀ k, gl M' k = gl M k) ∧ (∀ k, k ≠ 5 → ra M' k = ra M k) ∧ (∀ i, 92 ≤ i → ra M' 5 i = ra M 5 i) ∧ ∀ k, rl M' k = rl M k
theorem fr_id (T M : ms_T) (t : Nat → Nat) : fr T M t T M t := ⟨rfl, rfl, rfl, rfl, fun _ _ => rfl, fun _ => rfl, fun _ _ => rfl, fun _ _ => rfl, fun _ => rfl⟩
theorem fr_tr {T M T1 M1 T2 M2 : ms_T} {t t1 t2 : Nat → Nat} (h : fr T M t T1 M1 t1) (g : fr T1 M1 t1 T2 M2 t2) : fr T M t T2 M2 t2 := by
  obtain ⟨a1, a2, a3, a4, a5, a6, a7, a8, a9⟩ := h
  obtain ⟨b1, b3, b4, b5, b6, b7, b8, b9, b10⟩ := g
  exact ⟨b1.trans a1, b3.trans a2, b4.trans a3, b5.trans a4, fun k hk => (b6 k hk).trans (a5 k hk), fun k => (b7 k).trans (a6 k), fun k hk => (b8 k hk).trans (a7 k hk), fun k hk => (b9 k hk).trans (a8 k hk), fun k => (b10 k).trans (a9 k)⟩
theorem fr_si {T M : ms_T} {t : Nat → Nat} {k : Nat} {x : Int32} (h1 : 41 ≤ k) (h2 : k ≤ 48) : fr T M t T (si M k x) t := ⟨rfl, rfl, rfl, rfl, fun j hj => by rw [q_gi, if_neg (by omega)], fun _ => rfl, fun _ _ => rfl, fun _ _ => rfl, fun _ => rfl⟩
theorem fr_sr {T M T' : ms_T} {t t' : Nat → Nat} {f : Nat → Int32} (h : rl T' 10 = rl T 10) (h0 : t' 0 = t 0) (h1 : t' 1 = t 1) (h2 : t' 2 = t 2) (hf : ∀ i, 92 ≤ i → f i = ra M 5 i) : fr T M t T' (sr M 5 f) t' :=
  ⟨h, h0, h1, h2, fun _ _ => rfl, fun _ => rfl, fun k hk => by rw [q_ra, if_neg hk], fun i hi => by rw [q_ra, if_pos rfl]; exact hf i hi, fun _ => rfl⟩
def dn (T V M : ms_T) (t : Nat → Nat) (b : Bool) (T' V' M' : ms_T) : Prop := ∃ t', lvr T' V' (si M' 44 (gi M 44 + nI (b2 (!b)))) t' ∧ fr T M t T' M' t' ∧ ra V' 1 = ra V 1 ∧ gi M' 41 = gi M 41 ∧ gi V' 4 = gi V 4
def sd (s : Nat) : Nat := (s * 2971 + 10979) % 65536
theorem sd_lt (s : Nat) : sd s < 65536 := Nat.mod_lt _ (by omega)
section Q70
variable {T V M E : ms_T} {t : Nat → Nat}
theorem V_draw {s n : Nat} (hs : s < 65536) (hn : 0 < n) (hn2 : n < 100) (h : gi V 2 = nI s) : fX0_draw V (nI n) = some (nI (sd s / 8 % n), si V 2 (nI (sd s))) := by
  have l := sd_lt s
  have e1 : nI (s * 2971 + 10979) - nI (s * 2971 + 10979) / nI 65536 * nI 65536 = nI (sd s) := pk_rem (by omega) (by omega) (by omega)
  have e2 : nI (sd s) / nI 8 = nI (sd s / 8) := pk_div (by omega) (by omega) (by omega)
  have e3 : nI (sd s / 8) - nI (sd s / 8) / nI n * nI n = nI (sd s / 8 % n) := pk_rem (by omega) (by omega) (by omega)
  have n1 : (nI n ≤ nI 0) = False := q_leF (by omega) (by omega)
  have n2 : (nI n = nI 0) = False := q_eqF (by omega) (by omega) (by omega)
  simp only [fX0_draw, h, l_0, l_1, l_2, l_3, l_4, l_5, l_6, l_7, l_8, l_9, l_10, l_11, l_12, l_13, l_14, l_15, l_16, l_17, l_18, l_19, l_20, l_21, l_22, l_23, l_24, l_25, l_30, l_31, l_32, l_40, l_48, l_54, l_57, l_59, l_60, l_61, l_62, l_63, l_65, l_66, l_72, l_82, l_92, l_93, l_94, l_97, l_99, l_100, l_101, l_102, l_103, l_104, l_105, l_107, l_108, l_109, l_110, l_111, l_112, l_114, l_115, l_116, l_117, l_119, l_121, l_122, l_136, l_200, l_255, l_300, l_364, l_900, l_1000, l_1456, l_1458, l_1459, l_1460, l_1462, l_1471, l_1504, l_1510, l_1522, l_1550, l_2971, l_9999, l_10000, l_10979, l_65536, l_m1, pk_mul, nI_add, e1, e2, e3, n1, n2, q_gi, q_gil, q_gir, q_giR, q_gl, q_gli, q_glr, q_glR, q_ra, q_rai, q_ral, q_raR, q_rl, q_rli, q_rll, q_rlr, sa, sA, ia, la, q_srsr, q_sRsR, Option.bind_some, if_true, if_false, reduceIte, ite_not, not_true_eq_false, not_false_eq_true, q_z1, Nat.reduceEqDiff]
theorem M_draw {s n : Nat} (hs : s < 65536) (hn : 0 < n) (hn2 : n < 100) (h : gi M 42 = nI s) : fX12_draw M (nI n) = some (nI (sd s / 8 % n), si M 42 (nI (sd s))) := by
  have l := sd_lt s
  have e1 : nI (s * 2971 + 10979) - nI (s * 2971 + 10979) / nI 65536 * nI 65536 = nI (sd s) := pk_rem (by omega) (by omega) (by omega)
  have e2 : nI (sd s) / nI 8 = nI (sd s / 8) := pk_div (by omega) (by omega) (by omega)
  have e3 : nI (sd s / 8) - nI (sd s / 8) / nI n * nI n = nI (sd s / 8 % n) := pk_rem (by omega) (by omega) (by omega)
  have n2 : (nI n = nI 0) = False := q_eqF (by omega) (by omega) (by omega)
  simp only [fX12_draw, h, l_0, l_1, l_2, l_3, l_4, l_5, l_6, l_7, l_8, l_9, l_10, l_11, l_12, l_13, l_14, l_15, l_16, l_17, l_18, l_19, l_20, l_21, l_22, l_23, l_24, l_25, l_30, l_31, l_32, l_40, l_48, l_54, l_57, l_59, l_60, l_61, l_62, l_63, l_65, l_66, l_72, l_82, l_92, l_93, l_94, l_97, l_99, l_100, l_101, l_102, l_103, l_104, l_105, l_107, l_108, l_109, l_110, l_111, l_112, l_114, l_115, l_116, l_117, l_119, l_121, l_122, l_136, l_200, l_255, l_300, l_364, l_900, l_1000, l_1456, l_1458, l_1459, l_1460, l_1462, l_1471, l_1504, l_1510, l_1522, l_1550, l_2971, l_9999, l_10000, l_10979, l_65536, l_m1, pk_mul, nI_add, e1, e2, e3, n2, q_gi, q_gil, q_gir, q_giR, q_gl, q_gli, q_glr, q_glR, q_ra, q_rai, q_ral, q_raR, q_rl, q_rli, q_rll, q_rlr, sa, sA, ia, la, q_srsr, q_sRsR, Option.bind_some, if_true, if_false, reduceIte, ite_not, not_true_eq_false, not_false_eq_true, q_z1, Nat.reduceEqDiff]
/-- it couldn't be done -/
theorem dn_no (h : lvr T V M t) : dn T V M t false T (si V 5 (gi V 5 + nI 1)) M := by
  obtain ⟨w, hC, hN, h2, h4, ⟨m, m1, m2⟩, h6, h7, h8, h9⟩ := h
  refine ⟨t, ⟨w, hC, hN, h2, h4, ⟨m + 1, ?_, ?_⟩, h6, h7, h8, h9⟩, fr_id _ _ _, rfl, rfl, rfl⟩
  · rw [q_gi, if_pos rfl, m1, nI_add]
  · rw [q_gi, if_pos rfl, m2]; exact nI_add m 1
theorem do_say (h : lvr T V M t) {p k : Nat} (hp : p < t 2) (hk : k < t 1) : ∃ T' V' M' b, fX0_doSay V T (nI p) (nI k) = some (V', T') ∧ fX12_isSaid M (nI p) (nI k) = some (bi b, M') ∧ dn T V M t b T' V' M' := by
  have hh := h
  obtain ⟨w, hC, hN, h2, h4, ⟨m, m1, m2⟩, ⟨a, q, q1, q2, q3⟩, ⟨x, x1, x2⟩, h8, h9⟩ := h
  obtain ⟨w0, w1, w2, w3, w4, w5, w6, w7, w8, w9⟩ := id w
  have es := T_sayable w hC hp
  have sb := bs_31 (fun _ k => sayb t p k) (n := t 1) (by omega)
  have e7 : (says t p).testBit k = sayb t p k := by unfold says; rw [bs_bit]; simp [hk]
  have sb' : says t p < 2147483648 := sb
  cases hb : sayb t p k
  · have en := N_saysNo w hN hp hk hb
    refine ⟨T, si V 5 (gi V 5 + nI 1), si M 46 (gi M 46 + nI 0), false, ?_, ?_, ?_⟩
    · simp (disch := omega) only [fX0_doSay, es, q_bit, e7, hb, b2_0, l_0, l_1, l_2, l_3, l_4, l_5, l_6, l_7, l_8, l_9, l_10, l_11, l_12, l_13, l_14, l_15, l_16, l_17, l_18, l_19, l_20, l_21, l_22, l_23, l_24, l_25, l_30, l_31, l_32, l_40, l_48, l_54, l_57, l_59, l_60, l_61, l_62, l_63, l_65, l_66, l_72, l_82, l_92, l_93, l_94, l_97, l_99, l_100, l_101, l_102, l_103, l_104, l_105, l_107, l_108, l_109, l_110, l_111, l_112, l_114, l_115, l_116, l_117, l_119, l_121, l_122, l_136, l_200, l_255, l_300, l_364, l_900, l_1000, l_1456, l_1458, l_1459, l_1460, l_1462, l_1471, l_1504, l_1510, l_1522, l_1550, l_2971, l_9999, l_10000, l_10979, l_65536, l_m1, Option.bind_some, if_true, if_false, reduceIte, ite_not, not_true_eq_false, not_false_eq_true, q_z1, Nat.reduceEqDiff]
    · simp (disch := omega) only [fX12_isSaid, en, bi, b2_0, l_0, l_1, l_2, l_3, l_4, l_5, l_6, l_7, l_8, l_9, l_10, l_11, l_12, l_13, l_14, l_15, l_16, l_17, l_18, l_19, l_20, l_21, l_22, l_23, l_24, l_25, l_30, l_31, l_32, l_40, l_48, l_54, l_57, l_59, l_60, l_61, l_62, l_63, l_65, l_66, l_72, l_82, l_92, l_93, l_94, l_97, l_99, l_100, l_101, l_102, l_103, l_104, l_105, l_107, l_108, l_109, l_110, l_111, l_112, l_114, l_115, l_116, l_117, l_119, l_121, l_122, l_136, l_200, l_255, l_300, l_364, l_900, l_1000, l_1456, l_1458, l_1459, l_1460, l_1462, l_1471, l_1504, l_1510, l_1522, l_1550, l_2971, l_9999, l_10000, l_10979, l_65536, l_m1, Option.bind_some, if_true, if_false, reduceIte, ite_not, not_true_eq_false, not_false_eq_true, q_z1, Nat.reduceEqDiff, q_z0]
    · have e : gi M 46 + nI 0 = gi M 46 := by rw [x2, nI_add]; rfl
      obtain ⟨t', l1, l2, l3, l4, l5⟩ := dn_no hh
      refine ⟨t', ?_, ?_, l3, l4, l5⟩
      · obtain ⟨k1, k2, k3, k4, k5, k6, k7, k8, k9, k10⟩ := l1
        refine ⟨k1, k2, k3, k4, k5, k6, k7, ?_, k9, k10⟩
        obtain ⟨y, y1, y2⟩ := k8
        exact ⟨y, y1, by rw [← y2]; exact e⟩
      · exact fr_tr l2 (fr_si (by omega) (by omega))
  · have hf : t (60 + p) = 0 := by
      unfold sayb at hb; simp at hb; exact hb.1
    obtain ⟨T', g1, g2, g3⟩ := T_letSay w hC hp hk hf
    obtain ⟨f, g4, g5, g6⟩ := N_says w hN hp hk hb
    have c2 : tsay t p k 2 = t 2 := by unfold tsay; rw [tu_n _ _ _ (by omega), tm_0 (by omega) (by omega)]
    have c1 : tsay t p k 1 = t 1 := by unfold tsay; rw [tu_n _ _ _ (by omega), tm_0 (by omega) (by omega)]
    have c0 : tsay t p k 0 = t 0 := by unfold tsay; rw [tu_n _ _ _ (by omega), tm_0 (by omega) (by omega)]
    have c5 : tsay t p k 5 = t 5 + 1 := by unfold tsay; rw [tu_e _ _ _ rfl]
    have w' := W_say w hp hk
    have c6 : tsay t p k (60 + p) ≤ 1 := (w'.2.2.2.2.2.2.2.1 p (by omega)).2.2.1
    have ef := T_isFalling w' g2 (k := p) (by omega)
    have r2 : f (60 + p) = nI (tsay t p k (60 + p)) := g5 (60 + p) (by omega)
    have fin : ∀ v, v = tsay t p k (60 + p) → dn T V M t true T' (si (si V 6 (nI (q + 1))) 7 (nI (x + v))) (si (sr M 5 f) 46 (nI (x + v))) := by
      intro v hv
      refine ⟨tsay t p k, ⟨w', g2, g5, h2, h4, ⟨m, m1, ?_⟩, ⟨a, q + 1, by omega, rfl, q3⟩, ⟨x + v, rfl, rfl⟩, h8, h9⟩, fr_tr (fr_sr g3 c0 c1 c2 g6) (fr_si (by omega) (by omega)), rfl, rfl, rfl⟩
      rw [q_gi, if_pos rfl, m2]; exact nI_add m 0
    rcases (by omega : tsay t p k (60 + p) = 0 ∨ tsay t p k (60 + p) = 1) with d | d
    · rw [d] at ef r2
      refine ⟨T', _, _, true, ?_, ?_, fin 0 d.symm⟩
      · have cf : decide ((0 : Nat) = 1) = false := by decide
        rw [cf] at ef
        have e7' : si (si V 6 (nI (q + 1))) 7 (nI (x + 0)) = si V 6 (nI (q + 1)) := by
          unfold si
          refine Prod.ext ?_ rfl
          funext j
          show (if j = 7 then nI (x + 0) else if j = 6 then nI (q + 1) else V.1 j) = if j = 6 then nI (q + 1) else V.1 j
          by_cases c : j = 7
          · rw [if_pos c, if_neg (by omega), c]; exact x1.symm
          · rw [if_neg c]
        rw [e7']
        simp (disch := omega) only [fX0_doSay, es, q_bit, e7, hb, b2_1, b2_0, g1, ef, bi, cf, q2, l_0, l_1, l_2, l_3, l_4, l_5, l_6, l_7, l_8, l_9, l_10, l_11, l_12, l_13, l_14, l_15, l_16, l_17, l_18, l_19, l_20, l_21, l_22, l_23, l_24, l_25, l_30, l_31, l_32, l_40, l_48, l_54, l_57, l_59, l_60, l_61, l_62, l_63, l_65, l_66, l_72, l_82, l_92, l_93, l_94, l_97, l_99, l_100, l_101, l_102, l_103, l_104, l_105, l_107, l_108, l_109, l_110, l_111, l_112, l_114, l_115, l_116, l_117, l_119, l_121, l_122, l_136, l_200, l_255, l_300, l_364, l_900, l_1000, l_1456, l_1458, l_1459, l_1460, l_1462, l_1471, l_1504, l_1510, l_1522, l_1550, l_2971, l_9999, l_10000, l_10979, l_65536, l_m1, nI_add, pk_mul, q_sub, q_ltT, q_ltF, q_leT, q_leF, q_eqT, q_eqF, q_inT, q_inF, nI_clamp, q_mlt, q_mle, q_mne, q_mne2, q_mnlt, q_mnle, q_gi, q_gil, q_gir, q_giR, q_gl, q_gli, q_glr, q_glR, q_ra, q_rai, q_ral, q_raR, q_rl, q_rli, q_rll, q_rlr, sa, sA, ia, la, q_srsr, q_sRsR, Option.bind_some, if_true, if_false, reduceIte, ite_not, not_true_eq_false, not_false_eq_true, q_z1, Nat.reduceEqDiff]
      · simp (disch := omega) only [fX12_isSaid, g4, r2, x2, bi, b2_1, l_0, l_1, l_2, l_3, l_4, l_5, l_6, l_7, l_8, l_9, l_10, l_11, l_12, l_13, l_14, l_15, l_16, l_17, l_18, l_19, l_20, l_21, l_22, l_23, l_24, l_25, l_30, l_31, l_32, l_40, l_48, l_54, l_57, l_59, l_60, l_61, l_62, l_63, l_65, l_66, l_72, l_82, l_92, l_93, l_94, l_97, l_99, l_100, l_101, l_102, l_103, l_104, l_105, l_107, l_108, l_109, l_110, l_111, l_112, l_114, l_115, l_116, l_117, l_119, l_121, l_122, l_136, l_200, l_255, l_300, l_364, l_900, l_1000, l_1456, l_1458, l_1459, l_1460, l_1462, l_1471, l_1504, l_1510, l_1522, l_1550, l_2971, l_9999, l_10000, l_10979, l_65536, l_m1, nI_add, pk_mul, q_sub, q_ltT, q_ltF, q_leT, q_leF, q_eqT, q_eqF, q_inT, q_inF, nI_clamp, q_mlt, q_mle, q_mne, q_mne2, q_mnlt, q_mnle, q_gi, q_gil, q_gir, q_giR, q_gl, q_gli, q_glr, q_glR, q_ra, q_rai, q_ral, q_raR, q_rl, q_rli, q_rll, q_rlr, sa, sA, ia, la, q_srsr, q_sRsR, Option.bind_some, if_true, if_false, reduceIte, ite_not, not_true_eq_false, not_false_eq_true, q_z1, Nat.reduceEqDiff]
    · rw [d] at ef r2
      refine ⟨T', _, _, true, ?_, ?_, fin 1 d.symm⟩
      · have cf : decide ((1 : Nat) = 1) = true := by decide
        rw [cf] at ef
        simp (disch := omega) only [fX0_doSay, es, q_bit, e7, hb, b2_1, b2_0, g1, ef, bi, cf, q2, x1, l_0, l_1, l_2, l_3, l_4, l_5, l_6, l_7, l_8, l_9, l_10, l_11, l_12, l_13, l_14, l_15, l_16, l_17, l_18, l_19, l_20, l_21, l_22, l_23, l_24, l_25, l_30, l_31, l_32, l_40, l_48, l_54, l_57, l_59, l_60, l_61, l_62, l_63, l_65, l_66, l_72, l_82, l_92, l_93, l_94, l_97, l_99, l_100, l_101, l_102, l_103, l_104, l_105, l_107, l_108, l_109, l_110, l_111, l_112, l_114, l_115, l_116, l_117, l_119, l_121, l_122, l_136, l_200, l_255, l_300, l_364, l_900, l_1000, l_1456, l_1458, l_1459, l_1460, l_1462, l_1471, l_1504, l_1510, l_1522, l_1550, l_2971, l_9999, l_10000, l_10979, l_65536, l_m1, nI_add, pk_mul, q_sub, q_ltT, q_ltF, q_leT, q_leF, q_eqT, q_eqF, q_inT, q_inF, nI_clamp, q_mlt, q_mle, q_mne, q_mne2, q_mnlt, q_mnle, q_gi, q_gil, q_gir, q_giR, q_gl, q_gli, q_glr, q_glR, q_ra, q_rai, q_ral, q_raR, q_rl, q_rli, q_rll, q_rlr, sa, sA, ia, la, q_srsr, q_sRsR, Option.bind_some, if_true, if_false, reduceIte, ite_not, not_true_eq_false, not_false_eq_true, q_z1, Nat.reduceEqDiff]
      · simp (disch := omega) only [fX12_isSaid, g4, r2, x2, bi, b2_1, l_0, l_1, l_2, l_3, l_4, l_5, l_6, l_7, l_8, l_9, l_10, l_11, l_12, l_13, l_14, l_15, l_16, l_17, l_18, l_19, l_20, l_21, l_22, l_23, l_24, l_25, l_30, l_31, l_32, l_40, l_48, l_54, l_57, l_59, l_60, l_61, l_62, l_63, l_65, l_66, l_72, l_82, l_92, l_93, l_94, l_97, l_99, l_100, l_101, l_102, l_103, l_104, l_105, l_107, l_108, l_109, l_110, l_111, l_112, l_114, l_115, l_116, l_117, l_119, l_121, l_122, l_136, l_200, l_255, l_300, l_364, l_900, l_1000, l_1456, l_1458, l_1459, l_1460, l_1462, l_1471, l_1504, l_1510, l_1522, l_1550, l_2971, l_9999, l_10000, l_10979, l_65536, l_m1, nI_add, pk_mul, q_sub, q_ltT, q_ltF, q_leT, q_leF, q_eqT, q_eqF, q_inT, q_inF, nI_clamp, q_mlt, q_mle, q_mne, q_mne2, q_mnlt, q_mnle, q_gi, q_gil, q_gir, q_giR, q_gl, q_gli, q_glr, q_glR, q_ra, q_rai, q_ral, q_raR, q_rl, q_rli, q_rll, q_rlr, sa, sA, ia, la, q_srsr, q_sRsR, Option.bind_some, if_true, if_false, reduceIte, ite_not, not_true_eq_false, not_false_eq_true, q_z1, Nat.reduceEqDiff]
theorem do_drop (h : lvr T V M t) {p n : Nat} (hp : p < t 2) (hn : n < 10) : ∃ T' V' M' b, fX0_doDrop V T (nI p) (nI n) = some (V', T') ∧ fX12_drops M (nI p) (nI n) = some (bi b, M') ∧ dn T V M t b T' V' M' := by
  have hh := h
  obtain ⟨w, hC, hN, h2, h4, ⟨m, m1, m2⟩, ⟨a, q, q1, q2, q3⟩, h7, h8, h9⟩ := h
  obtain ⟨w0, w1, w2, w3, w4, w5, w6, w7, w8, w9⟩ := id w
  have hu : ∀ i, i < 92 → ra M 5 i = nI (t i) := hN
  have ef := T_isFalling w hC hp
  have b7 := w7 p hp
  rcases (by omega : t (60 + p) = 0 ∨ t (60 + p) = 1) with d | d
  · have cf : decide ((0 : Nat) = 1) = false := by decide
    rw [d, cf] at ef
    refine ⟨T, si V 5 (gi V 5 + nI 1), M, false, ?_, ?_, dn_no hh⟩
    · simp (disch := omega) only [fX0_doDrop, ef, bi, b2_0, l_0, l_1, l_2, l_3, l_4, l_5, l_6, l_7, l_8, l_9, l_10, l_11, l_12, l_13, l_14, l_15, l_16, l_17, l_18, l_19, l_20, l_21, l_22, l_23, l_24, l_25, l_30, l_31, l_32, l_40, l_48, l_54, l_57, l_59, l_60, l_61, l_62, l_63, l_65, l_66, l_72, l_82, l_92, l_93, l_94, l_97, l_99, l_100, l_101, l_102, l_103, l_104, l_105, l_107, l_108, l_109, l_110, l_111, l_112, l_114, l_115, l_116, l_117, l_119, l_121, l_122, l_136, l_200, l_255, l_300, l_364, l_900, l_1000, l_1456, l_1458, l_1459, l_1460, l_1462, l_1471, l_1504, l_1510, l_1522, l_1550, l_2971, l_9999, l_10000, l_10979, l_65536, l_m1, Option.bind_some, if_true, if_false, reduceIte, ite_not, not_true_eq_false, not_false_eq_true, q_z1, Nat.reduceEqDiff]
    · simp (disch := omega) only [fX12_drops, hu, d, bi, b2_0, l_0, l_1, l_2, l_3, l_4, l_5, l_6, l_7, l_8, l_9, l_10, l_11, l_12, l_13, l_14, l_15, l_16, l_17, l_18, l_19, l_20, l_21, l_22, l_23, l_24, l_25, l_30, l_31, l_32, l_40, l_48, l_54, l_57, l_59, l_60, l_61, l_62, l_63, l_65, l_66, l_72, l_82, l_92, l_93, l_94, l_97, l_99, l_100, l_101, l_102, l_103, l_104, l_105, l_107, l_108, l_109, l_110, l_111, l_112, l_114, l_115, l_116, l_117, l_119, l_121, l_122, l_136, l_200, l_255, l_300, l_364, l_900, l_1000, l_1456, l_1458, l_1459, l_1460, l_1462, l_1471, l_1504, l_1510, l_1522, l_1550, l_2971, l_9999, l_10000, l_10979, l_65536, l_m1, nI_add, pk_mul, q_sub, q_ltT, q_ltF, q_leT, q_leF, q_eqT, q_eqF, q_inT, q_inF, nI_clamp, q_mlt, q_mle, q_mne, q_mne2, q_mnlt, q_mnle, q_gi, q_gil, q_gir, q_giR, q_gl, q_gli, q_glr, q_glR, q_ra, q_rai, q_ral, q_raR, q_rl, q_rli, q_rll, q_rlr, sa, sA, ia, la, q_srsr, q_sRsR, Option.bind_some, if_true, if_false, reduceIte, ite_not, not_true_eq_false, not_false_eq_true, q_z1, Nat.reduceEqDiff]
  · have cf : decide ((1 : Nat) = 1) = true := by decide
    rw [d, cf] at ef
    obtain ⟨T', g1, g2, g3⟩ := T_letDrop w hC hp (n := n) (by omega)
    obtain ⟨f, g4, g5, g6⟩ := N_lowers w hN hp (n := n) (by omega)
    generalize hv : (if t (54 + p) - n = 0 then 0 else t (60 + p)) = v at *
    have hv1 : v ≤ 1 := by rw [← hv]; split <;> omega
    obtain ⟨c0, c1, c2, c3⟩ := tm_c t p (t (54 + p) - n) v
    have c5 : tm t p (t (54 + p) - n) v 5 = t 5 := tm_0 (by omega) (by omega)
    refine ⟨T', V, sr M 5 f, true, ?_, ?_, tm t p (t (54 + p) - n) v, ⟨W_tm w hp (by omega) hv1, g2, g5, h2, h4, ⟨m, m1, ?_⟩, ⟨a, q, by omega, q2, q3⟩, h7, h8, h9⟩, fr_sr g3 c0 c1 c2 g6, rfl, rfl, rfl⟩
    · simp (disch := omega) only [fX0_doDrop, ef, g1, bi, b2_1, l_0, l_1, l_2, l_3, l_4, l_5, l_6, l_7, l_8, l_9, l_10, l_11, l_12, l_13, l_14, l_15, l_16, l_17, l_18, l_19, l_20, l_21, l_22, l_23, l_24, l_25, l_30, l_31, l_32, l_40, l_48, l_54, l_57, l_59, l_60, l_61, l_62, l_63, l_65, l_66, l_72, l_82, l_92, l_93, l_94, l_97, l_99, l_100, l_101, l_102, l_103, l_104, l_105, l_107, l_108, l_109, l_110, l_111, l_112, l_114, l_115, l_116, l_117, l_119, l_121, l_122, l_136, l_200, l_255, l_300, l_364, l_900, l_1000, l_1456, l_1458, l_1459, l_1460, l_1462, l_1471, l_1504, l_1510, l_1522, l_1550, l_2971, l_9999, l_10000, l_10979, l_65536, l_m1, nI_add, pk_mul, q_sub, q_ltT, q_ltF, q_leT, q_leF, q_eqT, q_eqF, q_inT, q_inF, nI_clamp, q_mlt, q_mle, q_mne, q_mne2, q_mnlt, q_mnle, Option.bind_some, if_true, if_false, reduceIte, ite_not, not_true_eq_false, not_false_eq_true, q_z1, Nat.reduceEqDiff]
    · simp (disch := omega) only [fX12_drops, hu, d, g4, bi, b2_1, l_0, l_1, l_2, l_3, l_4, l_5, l_6, l_7, l_8, l_9, l_10, l_11, l_12, l_13, l_14, l_15, l_16, l_17, l_18, l_19, l_20, l_21, l_22, l_23, l_24, l_25, l_30, l_31, l_32, l_40, l_48, l_54, l_57, l_59, l_60, l_61, l_62, l_63, l_65, l_66, l_72, l_82, l_92, l_93, l_94, l_97, l_99, l_100, l_101, l_102, l_103, l_104, l_105, l_107, l_108, l_109, l_110, l_111, l_112, l_114, l_115, l_116, l_117, l_119, l_121, l_122, l_136, l_200, l_255, l_300, l_364, l_900, l_1000, l_1456, l_1458, l_1459, l_1460, l_1462, l_1471, l_1504, l_1510, l_1522, l_1550, l_2971, l_9999, l_10000, l_10979, l_65536, l_m1, nI_add, pk_mul, q_sub, q_ltT, q_ltF, q_leT, q_leF, q_eqT, q_eqF, q_inT, q_inF, nI_clamp, q_mlt, q_mle, q_mne, q_mne2, q_mnlt, q_mnle, q_gi, q_gil, q_gir, q_giR, q_gl, q_gli, q_glr, q_glR, q_ra, q_rai, q_ral, q_raR, q_rl, q_rli, q_rll, q_rlr, sa, sA, ia, la, q_srsr, q_sRsR, Option.bind_some, if_true, if_false, reduceIte, ite_not, not_true_eq_false, not_false_eq_true, q_z1, Nat.reduceEqDiff]
    · rw [q_gi, if_pos rfl, m2]; exact nI_add m 0
theorem do_pull (h : lvr T V M t) {p : Nat} (hp : p < t 2) : ∃ T' V' M' b, fX0_doPull V T (nI p) = some (V', T') ∧ fX12_isPulled M (nI p) = some (bi b, M') ∧ dn T V M t b T' V' M' := by
  have hh := h
  obtain ⟨w, hC, hN, ⟨s, s1, s2, s3⟩, h4, ⟨m, m1, m2⟩, ⟨a, q, q1, q2, q3⟩, h7, ⟨y, y1, y2⟩, h9⟩ := h
  obtain ⟨w0, w1, w2, w3, w4, w5, w6, w7, w8, w9⟩ := id w
  have hu : ∀ i, i < 92 → ra M 5 i = nI (t i) := hN
  have ef := T_isFalling w hC hp
  have b7 := w7 p hp
  rcases (by omega : t (60 + p) = 0 ∨ t (60 + p) = 1) with d | d
  · have cf : decide ((0 : Nat) = 1) = false := by decide
    rw [d, cf] at ef
    refine ⟨T, si V 5 (gi V 5 + nI 1), M, false, ?_, ?_, dn_no hh⟩
    · simp (disch := omega) only [fX0_doPull, ef, bi, b2_0, l_0, l_1, l_2, l_3, l_4, l_5, l_6, l_7, l_8, l_9, l_10, l_11, l_12, l_13, l_14, l_15, l_16, l_17, l_18, l_19, l_20, l_21, l_22, l_23, l_24, l_25, l_30, l_31, l_32, l_40, l_48, l_54, l_57, l_59, l_60, l_61, l_62, l_63, l_65, l_66, l_72, l_82, l_92, l_93, l_94, l_97, l_99, l_100, l_101, l_102, l_103, l_104, l_105, l_107, l_108, l_109, l_110, l_111, l_112, l_114, l_115, l_116, l_117, l_119, l_121, l_122, l_136, l_200, l_255, l_300, l_364, l_900, l_1000, l_1456, l_1458, l_1459, l_1460, l_1462, l_1471, l_1504, l_1510, l_1522, l_1550, l_2971, l_9999, l_10000, l_10979, l_65536, l_m1, Option.bind_some, if_true, if_false, reduceIte, ite_not, not_true_eq_false, not_false_eq_true, q_z1, Nat.reduceEqDiff]
    · simp (disch := omega) only [fX12_isPulled, hu, d, bi, b2_0, l_0, l_1, l_2, l_3, l_4, l_5, l_6, l_7, l_8, l_9, l_10, l_11, l_12, l_13, l_14, l_15, l_16, l_17, l_18, l_19, l_20, l_21, l_22, l_23, l_24, l_25, l_30, l_31, l_32, l_40, l_48, l_54, l_57, l_59, l_60, l_61, l_62, l_63, l_65, l_66, l_72, l_82, l_92, l_93, l_94, l_97, l_99, l_100, l_101, l_102, l_103, l_104, l_105, l_107, l_108, l_109, l_110, l_111, l_112, l_114, l_115, l_116, l_117, l_119, l_121, l_122, l_136, l_200, l_255, l_300, l_364, l_900, l_1000, l_1456, l_1458, l_1459, l_1460, l_1462, l_1471, l_1504, l_1510, l_1522, l_1550, l_2971, l_9999, l_10000, l_10979, l_65536, l_m1, nI_add, pk_mul, q_sub, q_ltT, q_ltF, q_leT, q_leF, q_eqT, q_eqF, q_inT, q_inF, nI_clamp, q_mlt, q_mle, q_mne, q_mne2, q_mnlt, q_mnle, q_gi, q_gil, q_gir, q_giR, q_gl, q_gli, q_glr, q_glR, q_ra, q_rai, q_ral, q_raR, q_rl, q_rli, q_rll, q_rlr, sa, sA, ia, la, q_srsr, q_sRsR, Option.bind_some, if_true, if_false, reduceIte, ite_not, not_true_eq_false, not_false_eq_true, q_z1, Nat.reduceEqDiff]
  · have cf : decide ((1 : Nat) = 1) = true := by decide
    rw [d, cf] at ef
    have ev := V_draw (V := V) s1 (n := 16) (by omega) (by omega) s2
    have em := M_draw (M := si M 47 (nI (y + 1))) s1 (n := 16) (by omega) (by omega) s3
    have h14 := hC.2.2.2.2.2.2.2.2.2.2.2.2.2.2.1 p hp
    have l1 : sd s / 8 % 16 < 16 := Nat.mod_lt _ (by omega)
    have ls := sd_lt s
    have main : ∀ (x : Int32) (b : Bool), (x = nI 0 ↔ b = false) → ∃ T' f, fX7_letPull T (nI p) x = some T' ∧ fX12_pulls (si (si M 47 (nI (y + 1))) 42 (nI (sd s))) (nI p) x = some (nI 1, sr (si (si M 47 (nI (y + 1))) 42 (nI (sd s))) 5 f) ∧ dn T V M t true T' (si (si V 2 (nI (sd s))) 8 (nI (y + 1))) (sr (si (si M 47 (nI (y + 1))) 42 (nI (sd s))) 5 f) := by
      intro x b hx
      obtain ⟨T', g1, g2, g3⟩ := T_letPull w hC hp hx
      obtain ⟨f, g4, g5, g6⟩ := N_pulls (M := si (si M 47 (nI (y + 1))) 42 (nI (sd s))) w hN hp hx d
      obtain ⟨c0, c1, c2, c3⟩ := tm_c t p (lnb t p b) 0
      have c5 : tm t p (lnb t p b) 0 5 = t 5 := tm_0 (by omega) (by omega)
      have hl := lnd_le t (t (54 + p))
      have hlb : lnb t p b ≤ t 0 := by unfold lnb; split <;> omega
      refine ⟨T', f, g1, g4, tm t p (lnb t p b) 0, ⟨W_tm w hp hlb (by omega), g2, g5, ⟨sd s, ls, rfl, rfl⟩, h4, ⟨m, m1, ?_⟩, ⟨a, q, by omega, q2, q3⟩, h7, ⟨y + 1, rfl, rfl⟩, h9⟩, ?_, rfl, rfl, rfl⟩
      · rw [q_gi, if_pos rfl, m2]; exact nI_add m 0
      · have f1 : fr T M t T (si (si M 47 (nI (y + 1))) 42 (nI (sd s))) t := fr_tr (fr_si (x := nI (y + 1)) (k := 47) (by omega) (by omega)) (fr_si (by omega) (by omega))
        exact fr_tr f1 (fr_sr g3 c0 c1 c2 g6)
    by_cases c : sd s / 8 % 16 < t (66 + p)
    · obtain ⟨T', f, i1, i2, i3⟩ := main (nI 0) false ⟨fun _ => rfl, fun _ => rfl⟩
      refine ⟨T', _, _, true, ?_, ?_, i3⟩
      · simp (disch := omega) only [fX0_doPull, fX0_doPull_39, ef, ev, h14, i1, y1, bi, b2_1, l_0, l_1, l_2, l_3, l_4, l_5, l_6, l_7, l_8, l_9, l_10, l_11, l_12, l_13, l_14, l_15, l_16, l_17, l_18, l_19, l_20, l_21, l_22, l_23, l_24, l_25, l_30, l_31, l_32, l_40, l_48, l_54, l_57, l_59, l_60, l_61, l_62, l_63, l_65, l_66, l_72, l_82, l_92, l_93, l_94, l_97, l_99, l_100, l_101, l_102, l_103, l_104, l_105, l_107, l_108, l_109, l_110, l_111, l_112, l_114, l_115, l_116, l_117, l_119, l_121, l_122, l_136, l_200, l_255, l_300, l_364, l_900, l_1000, l_1456, l_1458, l_1459, l_1460, l_1462, l_1471, l_1504, l_1510, l_1522, l_1550, l_2971, l_9999, l_10000, l_10979, l_65536, l_m1, nI_add, pk_mul, q_sub, q_ltT, q_ltF, q_leT, q_leF, q_eqT, q_eqF, q_inT, q_inF, nI_clamp, q_mlt, q_mle, q_mne, q_mne2, q_mnlt, q_mnle, q_gi, q_gil, q_gir, q_giR, q_gl, q_gli, q_glr, q_glR, q_ra, q_rai, q_ral, q_raR, q_rl, q_rli, q_rll, q_rlr, sa, sA, ia, la, q_srsr, q_sRsR, Option.bind_some, if_true, if_false, reduceIte, ite_not, not_true_eq_false, not_false_eq_true, q_z1, Nat.reduceEqDiff]
      · simp (disch := omega) only [fX12_isPulled, hu, d, y2, em, i2, bi, b2_1, l_0, l_1, l_2, l_3, l_4, l_5, l_6, l_7, l_8, l_9, l_10, l_11, l_12, l_13, l_14, l_15, l_16, l_17, l_18, l_19, l_20, l_21, l_22, l_23, l_24, l_25, l_30, l_31, l_32, l_40, l_48, l_54, l_57, l_59, l_60, l_61, l_62, l_63, l_65, l_66, l_72, l_82, l_92, l_93, l_94, l_97, l_99, l_100, l_101, l_102, l_103, l_104, l_105, l_107, l_108, l_109, l_110, l_111, l_112, l_114, l_115, l_116, l_117, l_119, l_121, l_122, l_136, l_200, l_255, l_300, l_364, l_900, l_1000, l_1456, l_1458, l_1459, l_1460, l_1462, l_1471, l_1504, l_1510, l_1522, l_1550, l_2971, l_9999, l_10000, l_10979, l_65536, l_m1, nI_add, pk_mul, q_sub, q_ltT, q_ltF, q_leT, q_leF, q_eqT, q_eqF, q_inT, q_inF, nI_clamp, q_mlt, q_mle, q_mne, q_mne2, q_mnlt, q_mnle, q_gi, q_gil, q_gir, q_giR, q_gl, q_gli, q_glr, q_glR, q_ra, q_rai, q_ral, q_raR, q_rl, q_rli, q_rll, q_rlr, sa, sA, ia, la, q_srsr, q_sRsR, Option.bind_some, if_true, if_false, reduceIte, ite_not, not_true_eq_false, not_false_eq_true, q_z1, Nat.reduceEqDiff]
    · have n10 : nI 1 = nI 0 ↔ true = false := ⟨fun e => by have := (nI_eq (by omega) (by omega)).mp e; omega, fun e => by cases e⟩
      obtain ⟨T', f, i1, i2, i3⟩ := main (nI 1) true n10
      refine ⟨T', _, _, true, ?_, ?_, i3⟩
      · simp (disch := omega) only [fX0_doPull, fX0_doPull_39, ef, ev, h14, i1, y1, bi, b2_1, l_0, l_1, l_2, l_3, l_4, l_5, l_6, l_7, l_8, l_9, l_10, l_11, l_12, l_13, l_14, l_15, l_16, l_17, l_18, l_19, l_20, l_21, l_22, l_23, l_24, l_25, l_30, l_31, l_32, l_40, l_48, l_54, l_57, l_59, l_60, l_61, l_62, l_63, l_65, l_66, l_72, l_82, l_92, l_93, l_94, l_97, l_99, l_100, l_101, l_102, l_103, l_104, l_105, l_107, l_108, l_109, l_110, l_111, l_112, l_114, l_115, l_116, l_117, l_119, l_121, l_122, l_136, l_200, l_255, l_300, l_364, l_900, l_1000, l_1456, l_1458, l_1459, l_1460, l_1462, l_1471, l_1504, l_1510, l_1522, l_1550, l_2971, l_9999, l_10000, l_10979, l_65536, l_m1, nI_add, pk_mul, q_sub, q_ltT, q_ltF, q_leT, q_leF, q_eqT, q_eqF, q_inT, q_inF, nI_clamp, q_mlt, q_mle, q_mne, q_mne2, q_mnlt, q_mnle, q_gi, q_gil, q_gir, q_giR, q_gl, q_gli, q_glr, q_glR, q_ra, q_rai, q_ral, q_raR, q_rl, q_rli, q_rll, q_rlr, sa, sA, ia, la, q_srsr, q_sRsR, Option.bind_some, if_true, if_false, reduceIte, ite_not, not_true_eq_false, not_false_eq_true, q_z1, Nat.reduceEqDiff]
      · simp (disch := omega) only [fX12_isPulled, hu, d, y2, em, i2, bi, b2_1, l_0, l_1, l_2, l_3, l_4, l_5, l_6, l_7, l_8, l_9, l_10, l_11, l_12, l_13, l_14, l_15, l_16, l_17, l_18, l_19, l_20, l_21, l_22, l_23, l_24, l_25, l_30, l_31, l_32, l_40, l_48, l_54, l_57, l_59, l_60, l_61, l_62, l_63, l_65, l_66, l_72, l_82, l_92, l_93, l_94, l_97, l_99, l_100, l_101, l_102, l_103, l_104, l_105, l_107, l_108, l_109, l_110, l_111, l_112, l_114, l_115, l_116, l_117, l_119, l_121, l_122, l_136, l_200, l_255, l_300, l_364, l_900, l_1000, l_1456, l_1458, l_1459, l_1460, l_1462, l_1471, l_1504, l_1510, l_1522, l_1550, l_2971, l_9999, l_10000, l_10979, l_65536, l_m1, nI_add, pk_mul, q_sub, q_ltT, q_ltF, q_leT, q_leF, q_eqT, q_eqF, q_inT, q_inF, nI_clamp, q_mlt, q_mle, q_mne, q_mne2, q_mnlt, q_mnle, q_gi, q_gil, q_gir, q_giR, q_gl, q_gli, q_glr, q_glR, q_ra, q_rai, q_ral, q_raR, q_rl, q_rli, q_rll, q_rlr, sa, sA, ia, la, q_srsr, q_sRsR, Option.bind_some, if_true, if_false, reduceIte, ite_not, not_true_eq_false, not_false_eq_true, q_z1, Nat.reduceEqDiff]
theorem do_prop (h : lvr T V M t) {k : Nat} (hk : k < t 1) : ∃ T' V' M' b, fX0_doProp V T (nI k) = some (V', T') ∧ fX12_becomes M (nI (40 + k)) (nI 1) = some (bi b, M') ∧ dn T V M t b T' V' M' := by
  have hh := h
  obtain ⟨w, hC, hN, h2, h4, ⟨m, m1, m2⟩, ⟨a, q, q1, q2, q3⟩, h7, h8, h9⟩ := h
  obtain ⟨w0, w1, w2, w3, w4, w5, w6, w7, w8, w9⟩ := id w
  have hu : ∀ i, i < 92 → ra M 5 i = nI (t i) := hN
  have e3 := T_isPropped w hC hk
  have hp3 := hC.2.2.2.1
  have b6 := w6 k hk
  rcases (by omega : t (40 + k) = 1 ∨ t (40 + k) = 0) with c | c
  · have cf : decide ((1 : Nat) = 1) = true := by decide
    rw [c, cf] at e3
    refine ⟨T, si V 5 (gi V 5 + nI 1), M, false, ?_, ?_, dn_no hh⟩
    · simp (disch := omega) only [fX0_doProp, e3, bi, b2_1, l_0, l_1, l_2, l_3, l_4, l_5, l_6, l_7, l_8, l_9, l_10, l_11, l_12, l_13, l_14, l_15, l_16, l_17, l_18, l_19, l_20, l_21, l_22, l_23, l_24, l_25, l_30, l_31, l_32, l_40, l_48, l_54, l_57, l_59, l_60, l_61, l_62, l_63, l_65, l_66, l_72, l_82, l_92, l_93, l_94, l_97, l_99, l_100, l_101, l_102, l_103, l_104, l_105, l_107, l_108, l_109, l_110, l_111, l_112, l_114, l_115, l_116, l_117, l_119, l_121, l_122, l_136, l_200, l_255, l_300, l_364, l_900, l_1000, l_1456, l_1458, l_1459, l_1460, l_1462, l_1471, l_1504, l_1510, l_1522, l_1550, l_2971, l_9999, l_10000, l_10979, l_65536, l_m1, nI_add, pk_mul, q_sub, q_ltT, q_ltF, q_leT, q_leF, q_eqT, q_eqF, q_inT, q_inF, nI_clamp, q_mlt, q_mle, q_mne, q_mne2, q_mnlt, q_mnle, Option.bind_some, if_true, if_false, reduceIte, ite_not, not_true_eq_false, not_false_eq_true, q_z1, Nat.reduceEqDiff]
    · simp (disch := omega) only [fX12_becomes, hu, c, bi, b2_0, l_0, l_1, l_2, l_3, l_4, l_5, l_6, l_7, l_8, l_9, l_10, l_11, l_12, l_13, l_14, l_15, l_16, l_17, l_18, l_19, l_20, l_21, l_22, l_23, l_24, l_25, l_30, l_31, l_32, l_40, l_48, l_54, l_57, l_59, l_60, l_61, l_62, l_63, l_65, l_66, l_72, l_82, l_92, l_93, l_94, l_97, l_99, l_100, l_101, l_102, l_103, l_104, l_105, l_107, l_108, l_109, l_110, l_111, l_112, l_114, l_115, l_116, l_117, l_119, l_121, l_122, l_136, l_200, l_255, l_300, l_364, l_900, l_1000, l_1456, l_1458, l_1459, l_1460, l_1462, l_1471, l_1504, l_1510, l_1522, l_1550, l_2971, l_9999, l_10000, l_10979, l_65536, l_m1, nI_add, pk_mul, q_sub, q_ltT, q_ltF, q_leT, q_leF, q_eqT, q_eqF, q_inT, q_inF, nI_clamp, q_mlt, q_mle, q_mne, q_mne2, q_mnlt, q_mnle, q_gi, q_gil, q_gir, q_giR, q_gl, q_gli, q_glr, q_glR, q_ra, q_rai, q_ral, q_raR, q_rl, q_rli, q_rll, q_rlr, sa, sA, ia, la, q_srsr, q_sRsR, Option.bind_some, if_true, if_false, reduceIte, ite_not, not_true_eq_false, not_false_eq_true, q_z1, Nat.reduceEqDiff]
  · have cf : decide ((0 : Nat) = 1) = false := by decide
    rw [c, cf] at e3
    have w' : tb_W (tu t (40 + k) 1) := W_upd w (by omega) (by omega) (by omega) (by omega) (by omega) (by omega) (by omega) (by omega) (by omega) (by omega) (by omega) (by omega)
    have hC' : tb_C (si T 7 (nI (bs (tb_pp (tu t (40 + k) 1)) (t 1)))) (tu t (40 + k) 1) := C_prop w hC hk
    have hN' : tb_N (sr M 5 (upd (ra M 5) (40 + k) (nI 1))) (tu t (40 + k) 1) := N_upd hN rfl
    refine ⟨si T 7 (nI (bs (tb_pp (tu t (40 + k) 1)) (t 1))), V, sr M 5 (upd (ra M 5) (40 + k) (nI 1)), true, ?_, ?_, tu t (40 + k) 1, ⟨w', hC', hN', h2, h4, ⟨m, m1, ?_⟩, ⟨a, q, by rw [tu_n _ _ _ (by omega)]; exact q1, q2, q3⟩, h7, h8, h9⟩, fr_sr rfl (tu_n _ _ _ (by omega)) (tu_n _ _ _ (by omega)) (tu_n _ _ _ (by omega)) (fun i hi => up_n _ _ _ (by omega)), rfl, rfl, rfl⟩
    · rw [pp_on hk]
      simp (disch := omega) only [fX0_doProp, e3, hp3, q_one, q_or, bi, b2_0, l_0, l_1, l_2, l_3, l_4, l_5, l_6, l_7, l_8, l_9, l_10, l_11, l_12, l_13, l_14, l_15, l_16, l_17, l_18, l_19, l_20, l_21, l_22, l_23, l_24, l_25, l_30, l_31, l_32, l_40, l_48, l_54, l_57, l_59, l_60, l_61, l_62, l_63, l_65, l_66, l_72, l_82, l_92, l_93, l_94, l_97, l_99, l_100, l_101, l_102, l_103, l_104, l_105, l_107, l_108, l_109, l_110, l_111, l_112, l_114, l_115, l_116, l_117, l_119, l_121, l_122, l_136, l_200, l_255, l_300, l_364, l_900, l_1000, l_1456, l_1458, l_1459, l_1460, l_1462, l_1471, l_1504, l_1510, l_1522, l_1550, l_2971, l_9999, l_10000, l_10979, l_65536, l_m1, Option.bind_some, if_true, if_false, reduceIte, ite_not, not_true_eq_false, not_false_eq_true, q_z1, Nat.reduceEqDiff]
    · simp (disch := omega) only [fX12_becomes, hu, c, bi, b2_1, l_0, l_1, l_2, l_3, l_4, l_5, l_6, l_7, l_8, l_9, l_10, l_11, l_12, l_13, l_14, l_15, l_16, l_17, l_18, l_19, l_20, l_21, l_22, l_23, l_24, l_25, l_30, l_31, l_32, l_40, l_48, l_54, l_57, l_59, l_60, l_61, l_62, l_63, l_65, l_66, l_72, l_82, l_92, l_93, l_94, l_97, l_99, l_100, l_101, l_102, l_103, l_104, l_105, l_107, l_108, l_109, l_110, l_111, l_112, l_114, l_115, l_116, l_117, l_119, l_121, l_122, l_136, l_200, l_255, l_300, l_364, l_900, l_1000, l_1456, l_1458, l_1459, l_1460, l_1462, l_1471, l_1504, l_1510, l_1522, l_1550, l_2971, l_9999, l_10000, l_10979, l_65536, l_m1, nI_add, pk_mul, q_sub, q_ltT, q_ltF, q_leT, q_leF, q_eqT, q_eqF, q_inT, q_inF, nI_clamp, q_mlt, q_mle, q_mne, q_mne2, q_mnlt, q_mnle, q_gi, q_gil, q_gir, q_giR, q_gl, q_gli, q_glr, q_glR, q_ra, q_rai, q_ral, q_raR, q_rl, q_rli, q_rll, q_rlr, sa, sA, ia, la, q_srsr, q_sRsR, Option.bind_some, if_true, if_false, reduceIte, ite_not, not_true_eq_false, not_false_eq_true, q_z1, Nat.reduceEqDiff]
    · rw [q_gi, if_pos rfl, m2]; exact nI_add m 0
theorem do_cut (h : lvr T V M t) {k : Nat} (hk : k < t 1) : ∃ T' V' M' b, fX0_doCut V T (nI k) = some (V', T') ∧ fX12_becomes M (nI (40 + k)) (nI 0) = some (bi b, M') ∧ dn T V M t b T' V' M' := by
  have hh := h
  obtain ⟨w, hC, hN, h2, h4, ⟨m, m1, m2⟩, ⟨a, q, q1, q2, q3⟩, h7, h8, h9⟩ := h
  obtain ⟨w0, w1, w2, w3, w4, w5, w6, w7, w8, w9⟩ := id w
  have hu : ∀ i, i < 92 → ra M 5 i = nI (t i) := hN
  have e3 := T_isPropped w hC hk
  have hp3 := hC.2.2.2.1
  have b6 := w6 k hk
  rcases (by omega : t (40 + k) = 0 ∨ t (40 + k) = 1) with c | c
  · have cf : decide ((0 : Nat) = 1) = false := by decide
    rw [c, cf] at e3
    refine ⟨T, si V 5 (gi V 5 + nI 1), M, false, ?_, ?_, dn_no hh⟩
    · simp (disch := omega) only [fX0_doCut, e3, bi, b2_0, l_0, l_1, l_2, l_3, l_4, l_5, l_6, l_7, l_8, l_9, l_10, l_11, l_12, l_13, l_14, l_15, l_16, l_17, l_18, l_19, l_20, l_21, l_22, l_23, l_24, l_25, l_30, l_31, l_32, l_40, l_48, l_54, l_57, l_59, l_60, l_61, l_62, l_63, l_65, l_66, l_72, l_82, l_92, l_93, l_94, l_97, l_99, l_100, l_101, l_102, l_103, l_104, l_105, l_107, l_108, l_109, l_110, l_111, l_112, l_114, l_115, l_116, l_117, l_119, l_121, l_122, l_136, l_200, l_255, l_300, l_364, l_900, l_1000, l_1456, l_1458, l_1459, l_1460, l_1462, l_1471, l_1504, l_1510, l_1522, l_1550, l_2971, l_9999, l_10000, l_10979, l_65536, l_m1, nI_add, pk_mul, q_sub, q_ltT, q_ltF, q_leT, q_leF, q_eqT, q_eqF, q_inT, q_inF, nI_clamp, q_mlt, q_mle, q_mne, q_mne2, q_mnlt, q_mnle, Option.bind_some, if_true, if_false, reduceIte, ite_not, not_true_eq_false, not_false_eq_true, q_z1, Nat.reduceEqDiff]
    · simp (disch := omega) only [fX12_becomes, hu, c, bi, b2_0, l_0, l_1, l_2, l_3, l_4, l_5, l_6, l_7, l_8, l_9, l_10, l_11, l_12, l_13, l_14, l_15, l_16, l_17, l_18, l_19, l_20, l_21, l_22, l_23, l_24, l_25, l_30, l_31, l_32, l_40, l_48, l_54, l_57, l_59, l_60, l_61, l_62, l_63, l_65, l_66, l_72, l_82, l_92, l_93, l_94, l_97, l_99, l_100, l_101, l_102, l_103, l_104, l_105, l_107, l_108, l_109, l_110, l_111, l_112, l_114, l_115, l_116, l_117, l_119, l_121, l_122, l_136, l_200, l_255, l_300, l_364, l_900, l_1000, l_1456, l_1458, l_1459, l_1460, l_1462, l_1471, l_1504, l_1510, l_1522, l_1550, l_2971, l_9999, l_10000, l_10979, l_65536, l_m1, nI_add, pk_mul, q_sub, q_ltT, q_ltF, q_leT, q_leF, q_eqT, q_eqF, q_inT, q_inF, nI_clamp, q_mlt, q_mle, q_mne, q_mne2, q_mnlt, q_mnle, q_gi, q_gil, q_gir, q_giR, q_gl, q_gli, q_glr, q_glR, q_ra, q_rai, q_ral, q_raR, q_rl, q_rli, q_rll, q_rlr, sa, sA, ia, la, q_srsr, q_sRsR, Option.bind_some, if_true, if_false, reduceIte, ite_not, not_true_eq_false, not_false_eq_true, q_z1, Nat.reduceEqDiff]
  · have cf : decide ((1 : Nat) = 1) = true := by decide
    rw [c, cf] at e3
    have w' : tb_W (tu t (40 + k) 0) := W_upd w (by omega) (by omega) (by omega) (by omega) (by omega) (by omega) (by omega) (by omega) (by omega) (by omega) (by omega) (by omega)
    have hC' : tb_C (si T 7 (nI (bs (tb_pp (tu t (40 + k) 0)) (t 1)))) (tu t (40 + k) 0) := C_prop w hC hk
    have hN' : tb_N (sr M 5 (upd (ra M 5) (40 + k) (nI 0))) (tu t (40 + k) 0) := N_upd hN rfl
    refine ⟨si T 7 (nI (bs (tb_pp (tu t (40 + k) 0)) (t 1))), V, sr M 5 (upd (ra M 5) (40 + k) (nI 0)), true, ?_, ?_, tu t (40 + k) 0, ⟨w', hC', hN', h2, h4, ⟨m, m1, ?_⟩, ⟨a, q, by rw [tu_n _ _ _ (by omega)]; exact q1, q2, q3⟩, h7, h8, h9⟩, fr_sr rfl (tu_n _ _ _ (by omega)) (tu_n _ _ _ (by omega)) (tu_n _ _ _ (by omega)) (fun i hi => up_n _ _ _ (by omega)), rfl, rfl, rfl⟩
    · rw [pp_off]
      simp (disch := omega) only [fX0_doCut, e3, hp3, q_one, q_andn, bi, b2_1, l_0, l_1, l_2, l_3, l_4, l_5, l_6, l_7, l_8, l_9, l_10, l_11, l_12, l_13, l_14, l_15, l_16, l_17, l_18, l_19, l_20, l_21, l_22, l_23, l_24, l_25, l_30, l_31, l_32, l_40, l_48, l_54, l_57, l_59, l_60, l_61, l_62, l_63, l_65, l_66, l_72, l_82, l_92, l_93, l_94, l_97, l_99, l_100, l_101, l_102, l_103, l_104, l_105, l_107, l_108, l_109, l_110, l_111, l_112, l_114, l_115, l_116, l_117, l_119, l_121, l_122, l_136, l_200, l_255, l_300, l_364, l_900, l_1000, l_1456, l_1458, l_1459, l_1460, l_1462, l_1471, l_1504, l_1510, l_1522, l_1550, l_2971, l_9999, l_10000, l_10979, l_65536, l_m1, nI_add, pk_mul, q_sub, q_ltT, q_ltF, q_leT, q_leF, q_eqT, q_eqF, q_inT, q_inF, nI_clamp, q_mlt, q_mle, q_mne, q_mne2, q_mnlt, q_mnle, Option.bind_some, if_true, if_false, reduceIte, ite_not, not_true_eq_false, not_false_eq_true, q_z1, Nat.reduceEqDiff]
    · simp (disch := omega) only [fX12_becomes, hu, c, bi, b2_1, l_0, l_1, l_2, l_3, l_4, l_5, l_6, l_7, l_8, l_9, l_10, l_11, l_12, l_13, l_14, l_15, l_16, l_17, l_18, l_19, l_20, l_21, l_22, l_23, l_24, l_25, l_30, l_31, l_32, l_40, l_48, l_54, l_57, l_59, l_60, l_61, l_62, l_63, l_65, l_66, l_72, l_82, l_92, l_93, l_94, l_97, l_99, l_100, l_101, l_102, l_103, l_104, l_105, l_107, l_108, l_109, l_110, l_111, l_112, l_114, l_115, l_116, l_117, l_119, l_121, l_122, l_136, l_200, l_255, l_300, l_364, l_900, l_1000, l_1456, l_1458, l_1459, l_1460, l_1462, l_1471, l_1504, l_1510, l_1522, l_1550, l_2971, l_9999, l_10000, l_10979, l_65536, l_m1, nI_add, pk_mul, q_sub, q_ltT, q_ltF, q_leT, q_leF, q_eqT, q_eqF, q_inT, q_inF, nI_clamp, q_mlt, q_mle, q_mne, q_mne2, q_mnlt, q_mnle, q_gi, q_gil, q_gir, q_giR, q_gl, q_gli, q_glr, q_glR, q_ra, q_rai, q_ral, q_raR, q_rl, q_rli, q_rll, q_rlr, sa, sA, ia, la, q_srsr, q_sRsR, Option.bind_some, if_true, if_false, reduceIte, ite_not, not_true_eq_false, not_false_eq_true, q_z1, Nat.reduceEqDiff]
    · rw [q_gi, if_pos rfl, m2]; exact nI_add m 0
theorem bi_and (b : Bool) : (bi b &&& nI 1 = bi b) = True := eq_true (by cases b <;> decide)
theorem do_any (h : lvr T V M t) : ∃ T' V' M' b, fX0_doAny V T = some (V', T') ∧ fX12_isAny M = some (bi b, M') ∧ dn T V M t b T' V' M' := by
  have hh := h
  obtain ⟨w, hC, hN, ⟨s, s1, s2, s3⟩, h4, hm, h6, h7, h8, h9⟩ := h
  obtain ⟨w0, w1, w2, w3, w4, w5, w6, w7, w8, w9⟩ := id w
  have u1 : ra M 5 1 = nI (t 1) := hN 1 (by omega)
  have u2 : ra M 5 2 = nI (t 2) := hN 2 (by omega)
  have g1 := hC.2.2.1
  have g2 := hC.2.2.2.2.1
  by_cases c2 : t 2 = 0
  · rw [c2] at g2 u2
    refine ⟨T, si V 5 (gi V 5 + nI 1), M, false, ?_, ?_, dn_no hh⟩
    · simp (disch := omega) only [fX0_doAny, g2, l_0, l_1, l_2, l_3, l_4, l_5, l_6, l_7, l_8, l_9, l_10, l_11, l_12, l_13, l_14, l_15, l_16, l_17, l_18, l_19, l_20, l_21, l_22, l_23, l_24, l_25, l_30, l_31, l_32, l_40, l_48, l_54, l_57, l_59, l_60, l_61, l_62, l_63, l_65, l_66, l_72, l_82, l_92, l_93, l_94, l_97, l_99, l_100, l_101, l_102, l_103, l_104, l_105, l_107, l_108, l_109, l_110, l_111, l_112, l_114, l_115, l_116, l_117, l_119, l_121, l_122, l_136, l_200, l_255, l_300, l_364, l_900, l_1000, l_1456, l_1458, l_1459, l_1460, l_1462, l_1471, l_1504, l_1510, l_1522, l_1550, l_2971, l_9999, l_10000, l_10979, l_65536, l_m1, Option.bind_some, if_true, if_false, reduceIte, ite_not, not_true_eq_false, not_false_eq_true, q_z1, Nat.reduceEqDiff]
    · simp (disch := omega) only [fX12_isAny, u2, bi, b2_0, l_0, l_1, l_2, l_3, l_4, l_5, l_6, l_7, l_8, l_9, l_10, l_11, l_12, l_13, l_14, l_15, l_16, l_17, l_18, l_19, l_20, l_21, l_22, l_23, l_24, l_25, l_30, l_31, l_32, l_40, l_48, l_54, l_57, l_59, l_60, l_61, l_62, l_63, l_65, l_66, l_72, l_82, l_92, l_93, l_94, l_97, l_99, l_100, l_101, l_102, l_103, l_104, l_105, l_107, l_108, l_109, l_110, l_111, l_112, l_114, l_115, l_116, l_117, l_119, l_121, l_122, l_136, l_200, l_255, l_300, l_364, l_900, l_1000, l_1456, l_1458, l_1459, l_1460, l_1462, l_1471, l_1504, l_1510, l_1522, l_1550, l_2971, l_9999, l_10000, l_10979, l_65536, l_m1, q_gi, q_gil, q_gir, q_giR, q_gl, q_gli, q_glr, q_glR, q_ra, q_rai, q_ral, q_raR, q_rl, q_rli, q_rll, q_rlr, sa, sA, ia, la, q_srsr, q_sRsR, Option.bind_some, if_true, if_false, reduceIte, ite_not, not_true_eq_false, not_false_eq_true, q_z1, Nat.reduceEqDiff, nI_clamp]
  · have n2 : (nI (t 2) = nI 0) = False := q_eqF (by omega) (by omega) (by omega)
    by_cases c1 : t 1 = 0
    · rw [c1] at g1 u1
      refine ⟨T, si V 5 (gi V 5 + nI 1), M, false, ?_, ?_, dn_no hh⟩
      · simp (disch := omega) only [fX0_doAny, g2, g1, n2, l_0, l_1, l_2, l_3, l_4, l_5, l_6, l_7, l_8, l_9, l_10, l_11, l_12, l_13, l_14, l_15, l_16, l_17, l_18, l_19, l_20, l_21, l_22, l_23, l_24, l_25, l_30, l_31, l_32, l_40, l_48, l_54, l_57, l_59, l_60, l_61, l_62, l_63, l_65, l_66, l_72, l_82, l_92, l_93, l_94, l_97, l_99, l_100, l_101, l_102, l_103, l_104, l_105, l_107, l_108, l_109, l_110, l_111, l_112, l_114, l_115, l_116, l_117, l_119, l_121, l_122, l_136, l_200, l_255, l_300, l_364, l_900, l_1000, l_1456, l_1458, l_1459, l_1460, l_1462, l_1471, l_1504, l_1510, l_1522, l_1550, l_2971, l_9999, l_10000, l_10979, l_65536, l_m1, Option.bind_some, if_true, if_false, reduceIte, ite_not, not_true_eq_false, not_false_eq_true, q_z1, Nat.reduceEqDiff]
      · simp (disch := omega) only [fX12_isAny, u2, u1, n2, bi, b2_0, l_0, l_1, l_2, l_3, l_4, l_5, l_6, l_7, l_8, l_9, l_10, l_11, l_12, l_13, l_14, l_15, l_16, l_17, l_18, l_19, l_20, l_21, l_22, l_23, l_24, l_25, l_30, l_31, l_32, l_40, l_48, l_54, l_57, l_59, l_60, l_61, l_62, l_63, l_65, l_66, l_72, l_82, l_92, l_93, l_94, l_97, l_99, l_100, l_101, l_102, l_103, l_104, l_105, l_107, l_108, l_109, l_110, l_111, l_112, l_114, l_115, l_116, l_117, l_119, l_121, l_122, l_136, l_200, l_255, l_300, l_364, l_900, l_1000, l_1456, l_1458, l_1459, l_1460, l_1462, l_1471, l_1504, l_1510, l_1522, l_1550, l_2971, l_9999, l_10000, l_10979, l_65536, l_m1, q_gi, q_gil, q_gir, q_giR, q_gl, q_gli, q_glr, q_glR, q_ra, q_rai, q_ral, q_raR, q_rl, q_rli, q_rll, q_rlr, sa, sA, ia, la, q_srsr, q_sRsR, Option.bind_some, if_true, if_false, reduceIte, ite_not, not_true_eq_false, not_false_eq_true, q_z1, Nat.reduceEqDiff, nI_clamp]
    · have n1 : (nI (t 1) = nI 0) = False := q_eqF (by omega) (by omega) (by omega)
      have ls := sd_lt s
      have ls2 := sd_lt (sd s)
      have dv := V_draw (V := V) s1 (n := t 2) (by omega) (by omega) s2
      have dv2 := V_draw (V := si V 2 (nI (sd s))) ls (n := t 1) (by omega) (by omega) rfl
      have dm := M_draw (M := M) s1 (n := t 2) (by omega) (by omega) s3
      have dm2 := M_draw (M := si M 42 (nI (sd s))) ls (n := t 1) (by omega) (by omega) rfl
      have hp : sd s / 8 % t 2 < t 2 := Nat.mod_lt _ (by omega)
      have hk : sd (sd s) / 8 % t 1 < t 1 := Nat.mod_lt _ (by omega)
      generalize sd s / 8 % t 2 = p at *
      generalize sd (sd s) / 8 % t 1 = k at *
      have lv2 : lvr T (si (si V 2 (nI (sd s))) 2 (nI (sd (sd s)))) (si (si M 42 (nI (sd s))) 42 (nI (sd (sd s)))) t := ⟨w, hC, hN, ⟨sd (sd s), ls2, rfl, rfl⟩, h4, hm, h6, h7, h8, h9⟩
      have up : ra M 5 (60 + p) = nI (t (60 + p)) := hN (60 + p) (by omega)
      have ef := T_isFalling w hC hp
      have b7 := w7 p hp
      have f1 : fr T M t T (si (si M 42 (nI (sd s))) 42 (nI (sd (sd s)))) t := fr_tr (fr_si (x := nI (sd s)) (k := 42) (by omega) (by omega)) (fr_si (by omega) (by omega))
      rcases (by omega : t (60 + p) = 0 ∨ t (60 + p) = 1) with d | d
      · have cf : decide ((0 : Nat) = 1) = false := by decide
        rw [d, cf] at ef
        rw [d] at up
        obtain ⟨T', V', M', b, i1, i2, t', i3, i4, i5, i6, i7⟩ := do_say lv2 hp hk
        refine ⟨T', V', M', b, ?_, ?_, t', i3, fr_tr f1 i4, i5, i6, i7⟩
        · simp (disch := omega) only [fX0_doAny, g2, g1, n2, n1, dv, dv2, ef, bi, b2_0, i1, l_0, l_1, l_2, l_3, l_4, l_5, l_6, l_7, l_8, l_9, l_10, l_11, l_12, l_13, l_14, l_15, l_16, l_17, l_18, l_19, l_20, l_21, l_22, l_23, l_24, l_25, l_30, l_31, l_32, l_40, l_48, l_54, l_57, l_59, l_60, l_61, l_62, l_63, l_65, l_66, l_72, l_82, l_92, l_93, l_94, l_97, l_99, l_100, l_101, l_102, l_103, l_104, l_105, l_107, l_108, l_109, l_110, l_111, l_112, l_114, l_115, l_116, l_117, l_119, l_121, l_122, l_136, l_200, l_255, l_300, l_364, l_900, l_1000, l_1456, l_1458, l_1459, l_1460, l_1462, l_1471, l_1504, l_1510, l_1522, l_1550, l_2971, l_9999, l_10000, l_10979, l_65536, l_m1, Option.bind_some, if_true, if_false, reduceIte, ite_not, not_true_eq_false, not_false_eq_true, q_z1, Nat.reduceEqDiff]
        · have n3 : (nI 0 = nI 1) = False := q_eqF (by omega) (by omega) (by omega)
          simp (disch := omega) only [fX12_isAny, u2, u1, n2, n1, dm, dm2, up, n3, i2, bi_and, l_0, l_1, l_2, l_3, l_4, l_5, l_6, l_7, l_8, l_9, l_10, l_11, l_12, l_13, l_14, l_15, l_16, l_17, l_18, l_19, l_20, l_21, l_22, l_23, l_24, l_25, l_30, l_31, l_32, l_40, l_48, l_54, l_57, l_59, l_60, l_61, l_62, l_63, l_65, l_66, l_72, l_82, l_92, l_93, l_94, l_97, l_99, l_100, l_101, l_102, l_103, l_104, l_105, l_107, l_108, l_109, l_110, l_111, l_112, l_114, l_115, l_116, l_117, l_119, l_121, l_122, l_136, l_200, l_255, l_300, l_364, l_900, l_1000, l_1456, l_1458, l_1459, l_1460, l_1462, l_1471, l_1504, l_1510, l_1522, l_1550, l_2971, l_9999, l_10000, l_10979, l_65536, l_m1, nI_add, q_inT, q_gi, q_gil, q_gir, q_giR, q_gl, q_gli, q_glr, q_glR, q_ra, q_rai, q_ral, q_raR, q_rl, q_rli, q_rll, q_rlr, sa, sA, ia, la, q_srsr, q_sRsR, Option.bind_some, if_true, if_false, reduceIte, ite_not, not_true_eq_false, not_false_eq_true, q_z1, Nat.reduceEqDiff, nI_clamp]
      · have cf : decide ((1 : Nat) = 1) = true := by decide
        rw [d, cf] at ef
        rw [d] at up
        obtain ⟨T', V', M', b, i1, i2, t', i3, i4, i5, i6, i7⟩ := do_pull lv2 hp
        refine ⟨T', V', M', b, ?_, ?_, t', i3, fr_tr f1 i4, i5, i6, i7⟩
        · have n3 : (nI 1 = nI 0) = False := q_eqF (by omega) (by omega) (by omega)
          simp (disch := omega) only [fX0_doAny, g2, g1, n2, n1, dv, dv2, ef, bi, b2_1, n3, i1, l_0, l_1, l_2, l_3, l_4, l_5, l_6, l_7, l_8, l_9, l_10, l_11, l_12, l_13, l_14, l_15, l_16, l_17, l_18, l_19, l_20, l_21, l_22, l_23, l_24, l_25, l_30, l_31, l_32, l_40, l_48, l_54, l_57, l_59, l_60, l_61, l_62, l_63, l_65, l_66, l_72, l_82, l_92, l_93, l_94, l_97, l_99, l_100, l_101, l_102, l_103, l_104, l_105, l_107, l_108, l_109, l_110, l_111, l_112, l_114, l_115, l_116, l_117, l_119, l_121, l_122, l_136, l_200, l_255, l_300, l_364, l_900, l_1000, l_1456, l_1458, l_1459, l_1460, l_1462, l_1471, l_1504, l_1510, l_1522, l_1550, l_2971, l_9999, l_10000, l_10979, l_65536, l_m1, Option.bind_some, if_true, if_false, reduceIte, ite_not, not_true_eq_false, not_false_eq_true, q_z1, Nat.reduceEqDiff]
        · simp (disch := omega) only [fX12_isAny, u2, u1, n2, n1, dm, dm2, up, i2, bi_and, l_0, l_1, l_2, l_3, l_4, l_5, l_6, l_7, l_8, l_9, l_10, l_11, l_12, l_13, l_14, l_15, l_16, l_17, l_18, l_19, l_20, l_21, l_22, l_23, l_24, l_25, l_30, l_31, l_32, l_40, l_48, l_54, l_57, l_59, l_60, l_61, l_62, l_63, l_65, l_66, l_72, l_82, l_92, l_93, l_94, l_97, l_99, l_100, l_101, l_102, l_103, l_104, l_105, l_107, l_108, l_109, l_110, l_111, l_112, l_114, l_115, l_116, l_117, l_119, l_121, l_122, l_136, l_200, l_255, l_300, l_364, l_900, l_1000, l_1456, l_1458, l_1459, l_1460, l_1462, l_1471, l_1504, l_1510, l_1522, l_1550, l_2971, l_9999, l_10000, l_10979, l_65536, l_m1, nI_add, q_inT, q_gi, q_gil, q_gir, q_giR, q_gl, q_gli, q_glr, q_glR, q_ra, q_rai, q_ral, q_raR, q_rl, q_rli, q_rll, q_rlr, sa, sA, ia, la, q_srsr, q_sRsR, Option.bind_some, if_true, if_false, reduceIte, ite_not, not_true_eq_false, not_false_eq_true, q_z1, Nat.reduceEqDiff, nI_clamp]
end Q70
