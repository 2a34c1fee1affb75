/-! game, moveOf -/
section Q51
variable {T M W S : ms_T} {t : Nat → Nat}
theorem plays_in {p q tn : Nat} (hpq : p ≠ q) (htn : tn ≤ 4) : ∀ n τ d t S, tb_W t → tb_N S t → p < t 2 → q < t 2 → τ + n = tn → 1 ≤ τ → n < d → fX12_plays d S (nI p) (nI q) (nI τ) (nI tn) = some (nI (gA t p (if τ % 2 = 0 then (n + 1) / 2 else n / 2)) - nI (gA t q (if τ % 2 = 0 then n / 2 else (n + 1) / 2)), S) := by
  intro n
  induction n with
  | zero =>
    intro τ d t S w h hp hq hn h1 hd
    obtain ⟨d, rfl⟩ : ∃ e, d = e + 1 := ⟨d - 1, by omega⟩
    obtain ⟨w0, w1, w2, w3, w4, w5, w6, w7, w8, w9⟩ := id w
    have hu : ∀ i, i < 92 → ra S 5 i = nI (t i) := h
    have b1 := w7 p hp
    have b2' := w7 q hq
    have e1 := N_worthAt w h (a := t (54 + p)) (by omega)
    have e2 := N_worthAt w h (a := t (54 + q)) (by omega)
    have ez : ∀ o, gA t o 0 = wrt t (t (54 + o)) := fun o => by unfold gA; split <;> rfl
    have ei : (if τ % 2 = 0 then (0 + 1) / 2 else 0 / 2) = 0 := by split <;> rfl
    have ej : (if τ % 2 = 0 then 0 / 2 else (0 + 1) / 2) = 0 := by split <;> rfl
    rw [ei, ez, ez]
    show fX12_plays_0 (fX12_plays d) S (nI p) (nI q) (nI τ) (nI tn) = _
    unfold fX12_plays_0
    simp (disch := omega) only [e1, e2, hu, l_0, l_1, l_2, l_3, l_4, l_5, l_6, l_7, l_8, l_9, l_10, l_11, l_12, l_13, l_14, l_15, l_16, l_17, l_18, l_19, l_20, l_21, l_22, l_23, l_24, l_25, l_30, l_31, l_32, l_40, l_48, l_54, l_57, l_59, l_60, l_61, l_62, l_63, l_65, l_66, l_72, l_82, l_92, l_93, l_94, l_97, l_99, l_100, l_101, l_102, l_103, l_104, l_105, l_107, l_108, l_109, l_110, l_111, l_112, l_114, l_115, l_116, l_117, l_119, l_121, l_122, l_136, l_200, l_255, l_300, l_364, l_900, l_1000, l_1456, l_1458, l_1459, l_1460, l_1462, l_1471, l_1504, l_1510, l_1522, l_1550, l_2971, l_9999, l_10000, l_10979, l_65536, l_m1, nI_add, q_eqT, q_inT, nI_clamp, q_gi, q_gil, q_gir, q_giR, q_gl, q_gli, q_glr, q_glR, q_ra, q_rai, q_ral, q_raR, q_rl, q_rli, q_rll, q_rlr, sa, sA, ia, la, q_srsr, q_sRsR, Option.bind_some, if_true, if_false, reduceIte, ite_not, not_true_eq_false, not_false_eq_true, q_z1, Nat.reduceEqDiff]
  | succ n ih =>
    intro τ d t S w h hp hq hn h1 hd
    obtain ⟨d, rfl⟩ : ∃ e, d = e + 1 := ⟨d - 1, by omega⟩
    have w0 := w.1
    have w1 := w.2.1
    have w2 := w.2.2.1
    have w7 := w.2.2.2.2.2.2.2.1
    have wt : ∀ o v, o < t 2 → v ≤ t 0 → tb_W (tu t (54 + o) v) := fun o v ho hv => by
      have := W_tm w ho (v := v) (f := t (60 + o)) hv (w7 o ho).2.2.1
      rwa [tm_same rfl] at this
    have t2 : ∀ o v, tu t (54 + o) v 2 = t 2 := fun o v => tu_n _ _ _ (by omega)
    by_cases c : τ % 2 = 0
    · have c1 : ¬ (τ + 1) % 2 = 0 := by omega
      obtain ⟨i, -, e⟩ := plays_max (r := n / 2) (r2 := (n + 1) / 2) (d := d) w h hp hq hpq c (by omega) htn (fun t1 S1 ht1 hN1 => by
        have := ih (τ + 1) d t1 S1 (by
          rcases ht1 with rfl | ⟨v, hv, rfl⟩
          · exact w
          · exact wt p v hp hv) hN1 (by
          rcases ht1 with rfl | ⟨v, hv, rfl⟩
          · exact hp
          · rw [t2]; exact hp) (by
          rcases ht1 with rfl | ⟨v, hv, rfl⟩
          · exact hq
          · rw [t2]; exact hq) (by omega) (by omega) (by omega)
        rw [if_neg c1, if_neg c1] at this
        exact this)
      rw [if_pos c, if_pos c, e, if_neg (show ¬ τ = 0 by omega), show (n + 1 + 1) / 2 = n / 2 + 1 by omega]
    · have c1 : (τ + 1) % 2 = 0 := by omega
      obtain ⟨i, -, e⟩ := plays_min (τ := τ) (tn := tn) (r := n / 2) (r2 := (n + 1) / 2) (d := d) w h hp hq hpq (by omega) (by omega) htn (fun t1 S1 ht1 hN1 => by
        have := ih (τ + 1) d t1 S1 (by
          rcases ht1 with rfl | ⟨v, hv, rfl⟩
          · exact w
          · exact wt q v hq hv) hN1 (by
          rcases ht1 with rfl | ⟨v, hv, rfl⟩
          · exact hp
          · rw [t2]; exact hp) (by
          rcases ht1 with rfl | ⟨v, hv, rfl⟩
          · exact hq
          · rw [t2]; exact hq) (by omega) (by omega) (by omega)
        rw [if_pos c1, if_pos c1] at this
        exact this)
      rw [if_neg c, if_neg c, e, if_neg (show ¬ τ = 0 by omega), show (n + 1 + 1) / 2 = n / 2 + 1 by omega]
theorem plays_0 {p q n : Nat} (w : tb_W t) (h : tb_N S t) (hp : p < t 2) (hq : q < t 2) (hpq : p ≠ q) (hn : n ≤ 4) (hn1 : 1 ≤ n) : ∃ i, am (gg t p ((n - 1) / 2)) (gp t p) (t 1 + 1) = some i ∧ fX12_plays 6 S (nI p) (nI q) (nI 0) (nI n) = some (nI (gA t p ((n + 1) / 2)) - nI (gA t q (n / 2)), si S 38 (nI i)) := by
  have w0 := w.1
  have w1 := w.2.1
  have w2 := w.2.2.1
  have w7 := w.2.2.2.2.2.2.2.1
  have wt : ∀ o v, o < t 2 → v ≤ t 0 → tb_W (tu t (54 + o) v) := fun o v ho hv => by
    have := W_tm w ho (v := v) (f := t (60 + o)) hv (w7 o ho).2.2.1
    rwa [tm_same rfl] at this
  have t2 : ∀ o v, tu t (54 + o) v 2 = t 2 := fun o v => tu_n _ _ _ (by omega)
  obtain ⟨i, hi, e⟩ := plays_max (τ := 0) (tn := n) (r := (n - 1) / 2) (r2 := n / 2) (d := 5) w h hp hq hpq rfl (by omega) hn (fun t1 S1 ht1 hN1 => by
    have := plays_in hpq hn (n - 1) 1 5 t1 S1 (by
      rcases ht1 with rfl | ⟨v, hv, rfl⟩
      · exact w
      · exact wt p v hp hv) hN1 (by
      rcases ht1 with rfl | ⟨v, hv, rfl⟩
      · exact hp
      · rw [t2]; exact hp) (by
      rcases ht1 with rfl | ⟨v, hv, rfl⟩
      · exact hq
      · rw [t2]; exact hq) (by omega) (by omega) (by omega)
    rw [if_neg (by omega), if_neg (by omega), show (n - 1 + 1) / 2 = n / 2 by omega] at this
    exact this)
  refine ⟨i, hi, ?_⟩
  rw [e, if_pos rfl, show (n - 1) / 2 + 1 = (n + 1) / 2 by omega]
theorem N_whyg (w : tb_W t) (h : tb_N M t) (x y z : Int32) {l : Nat} (hl : l ≤ 1) : fX12_whyNoGame M x y z (nI l) = some (if inb x (t 2) && inb y (t 2) then (if x = y then nI 5 else if inb z 5 && decide (l = 0 ∨ z ≠ nI 0) then nI 0 else nI 5) else nI 2) := by
  have hI : fX12_isIn z.toInt64 (nI l).toInt64 (4 : Int64) = some (bi (inb z 5 && decide (l = 0 ∨ z ≠ nI 0))) := by
    rw [q_isIn, Int32.toInt_toInt64, Int32.toInt_toInt64, nI_toInt (by omega)]
    have e4 : (4 : Int64).toInt = 4 := by decide
    rw [e4]
    rcases q_ix z 5 (by omega) with ⟨h, e⟩ | ⟨h, h2, e⟩ | ⟨j, hj, rfl⟩
    · rw [e, decide_eq_false]; · rfl
      rw [Int32.lt_iff_toInt_lt, nI_toInt (by omega)] at h
      omega
    · rw [e, decide_eq_false]; · rfl
      rw [Int32.le_iff_toInt_le, nI_toInt (by omega)] at h
      omega
    · rw [q_inT hj (by omega), nI_toInt (by omega)]
      have e0 : (nI j ≠ nI 0) ↔ j ≠ 0 := by rw [ne_eq, nI_eq (by omega) (by omega)]
      rw [Bool.true_and]
      congr 2
      apply decide_eq_decide.mpr
      rw [e0]
      omega
  unfold fX12_whyNoGame
  rw [N_isTalkerAt w h, N_isTalkerAt w h, hI]
  cases inb x (t 2) <;> cases inb y (t 2)
  · rfl
  · rfl
  · rfl
  · simp only [Option.bind_some, Bool.and_self, if_true]
    rw [if_neg (show ¬ bi true = (0 : Int32) by decide), if_neg (show ¬ bi true = (0 : Int32) by decide)]
    by_cases c : x = y
    · rw [if_pos c, if_pos c]; rfl
    · rw [if_neg c, if_neg c]
      cases (inb z 5 && decide (l = 0 ∨ z ≠ nI 0)) <;> rfl
theorem T_whyg {SC SP0 : ms_T} (w : tb_W t) (h : tb_C T t) (x y z : Int32) : fX11_gameStatus SC SP0 T x y z = some (if inb x (t 2) && inb y (t 2) then (if x = y then nI 5 else if inb z 5 then nI 0 else nI 5) else nI 2) := by
  unfold fX11_gameStatus
  rw [T_isTalker w h, T_isTalker w h]
  cases inb x (t 2) <;> cases inb y (t 2)
  · rfl
  · rfl
  · rfl
  · simp only [Option.bind_some, Bool.and_self, if_true]
    rw [if_neg (show ¬ bi true = (0 : Int32) by decide), if_neg (show ¬ bi true = (0 : Int32) by decide)]
    by_cases c : x = y
    · rw [if_pos c, if_pos c]; rfl
    · rw [if_neg c, if_neg c]
      rcases q_ix z 5 (by omega) with ⟨h, e⟩ | ⟨h, h2, e⟩ | ⟨j, hj, rfl⟩
      · rw [e, if_pos (show z < 0 from h)]; rfl
      · rw [e, if_neg (show ¬ z < 0 from h2), if_neg (show ¬ z ≤ (4 : Int32) from of_eq_false (q_bgle (a := 4) h (by omega) (by omega)))]; rfl
      · rw [q_inT hj (by omega), if_neg (show ¬ nI j < 0 from nI_pos (by omega)), if_pos (show nI j ≤ (4 : Int32) from nI_le (b := 4) (by omega) (by omega))]; rfl
end Q51
theorem rl_scr38 {SC SY0 SY1 SY2 SY3 SB ST0 SE0 ST2 SE2 ST3 SE3 ST4 SE4 SV0 SM : ms_T} (hR : Rl SC SY0 SY1 SY2 SY3 SB ST0 SE0 ST2 SE2 ST3 SE3 ST4 SE4 SV0 SM) (v x : Int32) : Rl (si SC 0 v) SY0 SY1 SY2 SY3 SB ST0 SE0 ST2 SE2 ST3 SE3 ST4 SE4 SV0 (si (si (si SM 1 (nI 0)) 0 v) 38 x) := ⟨rfl, hR.2⟩
theorem rl_scr38b {SC SY0 SY1 SY2 SY3 SB ST0 SE0 ST2 SE2 ST3 SE3 ST4 SE4 SV0 SM : ms_T} (hR : Rl SC SY0 SY1 SY2 SY3 SB ST0 SE0 ST2 SE2 ST3 SE3 ST4 SE4 SV0 SM) (v u x : Int32) : Rl (si SC 0 v) SY0 SY1 SY2 SY3 SB ST0 SE0 ST2 SE2 ST3 SE3 ST4 SE4 SV0 (si (si (si (si SM 1 (nI 0)) 0 u) 38 x) 0 v) := ⟨rfl, hR.2⟩
theorem W_begin {W T : ms_T} {t : Nat → Nat} (w : tb_W t) (h : tb_C T t) : fX10_beginGame W T = some (si W 1 (nI (stn t))) := by
  unfold fX10_beginGame
  rw [T_standing w h]; rfl
theorem o_game : op_game Rl := by
  intro SC SY0 SY1 SY2 SY3 SB ST0 SE0 ST2 SE2 ST3 SE3 ST4 SE4 SV0 SM SP0 SW hR a1 a2 a3
  obtain ⟨hs, hF, hU, hT, ⟨hY0, hY1, hY2, hY3⟩, ⟨t, w, hC, hN0, n1, n2, n3, hE⟩, hK, hV⟩ := id hR
  have hN := tb_N0 hN0
  have hN2 : tb_N (si (si SM 1 (nI 0)) 0 (nI 0)) t := hN
  have hNu : ∀ i, i < 92 → ra SM 5 i = nI (t i) := hN
  obtain ⟨w0, w1, w2, w3, w4, w5, w6, w7, w8, w9⟩ := id w
  obtain ⟨h0, h1, h2, h3, h4, h5, h6, h7, h8, h9, h10, h11, h12, h13, h14, h15, h16⟩ := id hC
  have e1 := T_whyg (SC := SC) (SP0 := SP0) w hC a1 a2 a3
  have hN1 : tb_N (si SM 1 (nI 0)) t := hN
  have e2 := N_whyg w hN1 a1 a2 a3 (l := 0) (by omega)
  have bad : ∀ v : Nat, 0 < v → v < 10 → fX11_gameStatus SC SP0 ST0 a1 a2 a3 = some (nI v) → fX12_whyNoGame (si SM 1 (nI 0)) a1 a2 a3 (nI 0) = some (nI v) → ∃ (z : Int32 × ms_T × ms_T × ms_T) (w : Int32 × ms_T), fX11_game SC SP0 ST0 SW a1 a2 a3 = some z ∧ fX12_game SM a1 a2 a3 = some w ∧ z.1 = w.1 ∧ Rl z.2.1 SY0 SY1 SY2 SY3 SB z.2.2.1 SE0 ST2 SE2 ST3 SE3 ST4 SE4 SV0 w.2 := by
    intro v hv hv2 g1 g2
    simp (disch := omega) only [fX11_game, fX12_game, fX11_answer, fX11_refuse, fX11_deny, fX11_grant, fX12_refuse, fX12_no, g1, g2, l_0, l_1, l_2, l_3, l_4, l_5, l_6, l_7, l_8, l_9, l_10, l_11, l_12, l_13, l_14, l_15, l_16, l_17, l_18, l_19, l_20, l_21, l_22, l_23, l_24, l_25, l_30, l_31, l_32, l_40, l_48, l_54, l_57, l_59, l_60, l_61, l_62, l_63, l_65, l_66, l_72, l_82, l_92, l_93, l_94, l_97, l_99, l_100, l_101, l_102, l_103, l_104, l_105, l_107, l_108, l_109, l_110, l_111, l_112, l_114, l_115, l_116, l_117, l_119, l_121, l_122, l_136, l_200, l_255, l_300, l_364, l_900, l_1000, l_1456, l_1458, l_1459, l_1460, l_1462, l_1471, l_1504, l_1510, l_1522, l_1550, l_2971, l_9999, l_10000, l_10979, l_65536, l_m1, nI_add, pk_mul, q_sub, q_ltT, q_ltF, q_leT, q_leF, q_eqT, q_eqF, q_inT, q_inF, nI_clamp, q_mlt, q_mle, q_mne, q_mne2, q_mnlt, q_mnle, q_gi, q_gil, q_gir, q_giR, q_gl, q_gli, q_glr, q_glR, q_ra, q_rai, q_ral, q_raR, q_rl, q_rli, q_rll, q_rlr, sa, sA, ia, la, q_srsr, q_sRsR, Option.bind_some, if_true, if_false, reduceIte, ite_not, not_true_eq_false, not_false_eq_true, q_z1, Nat.reduceEqDiff]
    exact ⟨_, _, rfl, rfl, rfl, rl_st hR _⟩
  rcases q_ix a1 (t 2) (by omega) with ⟨h, e⟩ | ⟨h, h2', e⟩ | ⟨p, hp, rfl⟩
  · rw [e] at e1 e2; exact bad 2 (by omega) (by omega) e1 e2
  · rw [e] at e1 e2; exact bad 2 (by omega) (by omega) e1 e2
  · rw [q_inT hp (by omega)] at e1 e2
    rcases q_ix a2 (t 2) (by omega) with ⟨h, e⟩ | ⟨h, h2', e⟩ | ⟨q, hq, rfl⟩
    · rw [e] at e1 e2; exact bad 2 (by omega) (by omega) e1 e2
    · rw [e] at e1 e2; exact bad 2 (by omega) (by omega) e1 e2
    · rw [q_inT hq (by omega)] at e1 e2
      by_cases c : p = q
      · subst c
        simp only [Bool.and_self, if_true] at e1 e2
        exact bad 5 (by omega) (by omega) e1 e2
      · have c' : ¬ nI p = nI q := fun g => c ((nI_eq (by omega) (by omega)).mp g)
        simp only [Bool.and_self, if_true, c', if_false, true_or, decide_true, Bool.and_true] at e1 e2
        rcases q_ix a3 5 (by omega) with ⟨h, e⟩ | ⟨h, h2', e⟩ | ⟨n, hn, rfl⟩
        · rw [e] at e1 e2; exact bad 5 (by omega) (by omega) e1 e2
        · rw [e] at e1 e2; exact bad 5 (by omega) (by omega) e1 e2
        · rw [q_inT hn (by omega), if_pos rfl] at e1 e2
          have d1 : nI (n + 1) / nI 2 = nI ((n + 1) / 2) := pk_div (by omega) (by omega) (by omega)
          have d2 : nI n / nI 2 = nI (n / 2) := pk_div (by omega) (by omega) (by omega)
          have m1 := W_mostWorth (W := si SW 1 (nI (stn t))) w hC rfl (p := p) (r := (n + 1) / 2) hp (by omega)
          have m2 := W_mostWorth (W := si SW 1 (nI (stn t))) w hC rfl (p := q) (r := n / 2) hq (by omega)
          by_cases cn : n = 0
          · subst cn
            have pz : fX12_plays 6 (si (si SM 1 (nI 0)) 0 (nI 0)) (nI p) (nI q) (nI 0) (nI 0) = some (nI (gA t p 0) - nI (gA t q 0), si (si SM 1 (nI 0)) 0 (nI 0)) := by
              have b1 := w7 p hp
              have b2' := w7 q hq
              have f1 := N_worthAt w hN2 (a := t (54 + p)) (by omega)
              have f2 := N_worthAt w hN2 (a := t (54 + q)) (by omega)
              have ez : ∀ o, gA t o 0 = wrt t (t (54 + o)) := fun o => by unfold gA; split <;> rfl
              rw [ez, ez]
              show fX12_plays_0 (fX12_plays 5) _ (nI p) (nI q) (nI 0) (nI 0) = _
              unfold fX12_plays_0
              simp (disch := omega) only [f1, f2, hNu, l_0, l_1, l_2, l_3, l_4, l_5, l_6, l_7, l_8, l_9, l_10, l_11, l_12, l_13, l_14, l_15, l_16, l_17, l_18, l_19, l_20, l_21, l_22, l_23, l_24, l_25, l_30, l_31, l_32, l_40, l_48, l_54, l_57, l_59, l_60, l_61, l_62, l_63, l_65, l_66, l_72, l_82, l_92, l_93, l_94, l_97, l_99, l_100, l_101, l_102, l_103, l_104, l_105, l_107, l_108, l_109, l_110, l_111, l_112, l_114, l_115, l_116, l_117, l_119, l_121, l_122, l_136, l_200, l_255, l_300, l_364, l_900, l_1000, l_1456, l_1458, l_1459, l_1460, l_1462, l_1471, l_1504, l_1510, l_1522, l_1550, l_2971, l_9999, l_10000, l_10979, l_65536, l_m1, nI_add, q_eqT, q_inT, nI_clamp, q_gi, q_gil, q_gir, q_giR, q_gl, q_gli, q_glr, q_glR, q_ra, q_rai, q_ral, q_raR, q_rl, q_rli, q_rll, q_rlr, sa, sA, ia, la, q_srsr, q_sRsR, Option.bind_some, if_true, if_false, reduceIte, ite_not, not_true_eq_false, not_false_eq_true, q_z1, Nat.reduceEqDiff]
            simp (disch := omega) only [fX11_game, fX12_game, fX11_answer, fX11_refuse, fX11_deny, fX11_grant, fX12_refuse, fX12_no, e1, e2, W_begin w hC, d1, d2, m1, m2, pz, l_0, l_1, l_2, l_3, l_4, l_5, l_6, l_7, l_8, l_9, l_10, l_11, l_12, l_13, l_14, l_15, l_16, l_17, l_18, l_19, l_20, l_21, l_22, l_23, l_24, l_25, l_30, l_31, l_32, l_40, l_48, l_54, l_57, l_59, l_60, l_61, l_62, l_63, l_65, l_66, l_72, l_82, l_92, l_93, l_94, l_97, l_99, l_100, l_101, l_102, l_103, l_104, l_105, l_107, l_108, l_109, l_110, l_111, l_112, l_114, l_115, l_116, l_117, l_119, l_121, l_122, l_136, l_200, l_255, l_300, l_364, l_900, l_1000, l_1456, l_1458, l_1459, l_1460, l_1462, l_1471, l_1504, l_1510, l_1522, l_1550, l_2971, l_9999, l_10000, l_10979, l_65536, l_m1, nI_add, q_eqT, q_leT, q_gi, q_gil, q_gir, q_giR, q_gl, q_gli, q_glr, q_glR, q_ra, q_rai, q_ral, q_raR, q_rl, q_rli, q_rll, q_rlr, sa, sA, ia, la, q_srsr, q_sRsR, Option.bind_some, if_true, if_false, reduceIte, ite_not, not_true_eq_false, not_false_eq_true, q_z1, Nat.reduceEqDiff]
            exact ⟨_, _, rfl, rfl, rfl, rl_st hR _⟩
          · obtain ⟨i, hi, pz⟩ := plays_0 (n := n) w hN2 hp hq c (by omega) (by omega)
            simp (disch := omega) only [fX11_game, fX12_game, fX11_answer, fX11_refuse, fX11_deny, fX11_grant, fX12_refuse, fX12_no, e1, e2, W_begin w hC, d1, d2, m1, m2, pz, l_0, l_1, l_2, l_3, l_4, l_5, l_6, l_7, l_8, l_9, l_10, l_11, l_12, l_13, l_14, l_15, l_16, l_17, l_18, l_19, l_20, l_21, l_22, l_23, l_24, l_25, l_30, l_31, l_32, l_40, l_48, l_54, l_57, l_59, l_60, l_61, l_62, l_63, l_65, l_66, l_72, l_82, l_92, l_93, l_94, l_97, l_99, l_100, l_101, l_102, l_103, l_104, l_105, l_107, l_108, l_109, l_110, l_111, l_112, l_114, l_115, l_116, l_117, l_119, l_121, l_122, l_136, l_200, l_255, l_300, l_364, l_900, l_1000, l_1456, l_1458, l_1459, l_1460, l_1462, l_1471, l_1504, l_1510, l_1522, l_1550, l_2971, l_9999, l_10000, l_10979, l_65536, l_m1, nI_add, q_eqT, q_leT, q_gi, q_gil, q_gir, q_giR, q_gl, q_gli, q_glr, q_glR, q_ra, q_rai, q_ral, q_raR, q_rl, q_rli, q_rll, q_rlr, sa, sA, ia, la, q_srsr, q_sRsR, Option.bind_some, if_true, if_false, reduceIte, ite_not, not_true_eq_false, not_false_eq_true, q_z1, Nat.reduceEqDiff]
            exact ⟨_, _, rfl, rfl, rfl, rl_scr38 hR _ _⟩
